/-! ===== the law: the cases that can't throw, its loop ===== -/
section P63
variable {G : xG} {x t i : Nat} {w z : Nat → Int32} {sv : Nat → Nat → Int32} {q n l : Nat} {co hi : Nat → Int32} {sx : xSx} {th : Int32} {c : mS} {f : Nat → Int64}
theorem S_case_clearBuffer (S : xSta G) (R : xRel (w, sv, q, n, l, co) (z, hi, n, l, co)) (h3 : i + 3 ≤ (xgr G 0).1) (h15 : (xgr G 0).1 ≤ 1536) (next : ∀ (s' : xCS) (sx' : xSx) (m' : xMS) (th' : Int32) (c' : mS) (f' : Nat → Int64), xRel s' m' → xW G L_law lQ 1649 [(4, .int (nI i)), (0, .retAddr 0), (1, .ref 0), (2, .ref 71), (3, .ref 82)] [] (lHp s' sx' m' th' c' f') (x + 1) t (6 * t)) : xW G L_law lQ 856 [(4, .int (nI i)), (0, .retAddr 0), (1, .ref 0), (2, .ref 71), (3, .ref 82)] [] (lHp (w, sv, q, n, l, co) sx (z, hi, n, l, co) th c f) x (t + 1) (6 * (t + 1)) := by
  obtain ⟨I, Ag, hq, hn, -, -, -, X, -⟩ := id R
  dsimp only at I Ag hq hn X
  have J := Ag.inv I
  refine xW.cast (hp' := cHp (w, sv, q, n, l, co) sx (lTO (mCq (z, hi, n, l, co) th c []) f)) rfl rfl rfl ?_
  have R9 : xRel (w, sv, q, n, 0, co) (z, hi, n, 0, co) := by
    obtain ⟨a1, a2, a3, a4, -, -, -, -, a9⟩ := R
    exact ⟨a1, a2, a3, a4, rfl, rfl, rfl, xTxt_0, a9⟩
  refine xw_aload_n 857 dL_law_856 rfl rfl rfl ?_
  refine xw_pV 860 dL_law_857 rfl ok_B_clearBuffer s_L_132 (S_B_clearBuffer) (bHp_len) (rfl) rfl rfl rfl rfl rfl rfl rfl ?_
  refine xW.cast (hp' := (mH (cHp (w, sv, q, n, 0, co) sx []) z (nI n) hi (nI l) co th c.1 c.2.1 c.2.2.1 c.2.2.2.1 c.2.2.2.2.1 c.2.2.2.2.2.1 c.2.2.2.2.2.2.1 c.2.2.2.2.2.2.2.1 c.2.2.2.2.2.2.2.2.1 c.2.2.2.2.2.2.2.2.2.1 c.2.2.2.2.2.2.2.2.2.2.1 c.2.2.2.2.2.2.2.2.2.2.2.1 c.2.2.2.2.2.2.2.2.2.2.2.2.1 c.2.2.2.2.2.2.2.2.2.2.2.2.2 [.inl (2, 1, .inr (.inl f))])) rfl rfl rfl ?_
  refine xw_aload_n 861 dL_law_860 rfl rfl rfl ?_
  refine xw_qV 864 dL_law_861 rfl ok_M_clearBuffer s_L_135 (S_M_clearBuffer rfl) (fun E hp9 q9 => by cases q9.1) (fun o9 hp9 q9 => by obtain ⟨_, _, q9⟩ := q9; rw [q9]; exact mH_len) (xA rfl rfl) rfl rfl rfl rfl rfl rfl rfl (fun ov9 hp9 q9 => ?_)
  obtain ⟨q1, c9, rfl⟩ := q9
  cases q1
  refine xw_icmp_eq 1649 867 dL_law_864 rfl rfl (fun h864 => ?_) (fun h864 => absurd (rfl) h864)
  refine xW.pick [0, 1, 2, 3, 4] rfl ?_
  refine xW.cast (hp' := lHp (w, sv, q, n, 0, co) sx (z, hi, n, 0, co) (nI 0) c9 f) rfl rfl rfl ?_
  exact xW.slack (Nat.le_succ x) (xW.less (Nat.le_succ t) (by omega) (next _ _ _ _ _ _ R9))
theorem S_case_firstError (S : xSta G) (R : xRel (w, sv, q, n, l, co) (z, hi, n, l, co)) (h3 : i + 3 ≤ (xgr G 0).1) (h15 : (xgr G 0).1 ≤ 1536) (next : ∀ (s' : xCS) (sx' : xSx) (m' : xMS) (th' : Int32) (c' : mS) (f' : Nat → Int64), xRel s' m' → xW G L_law lQ 1649 [(4, .int (nI i)), (0, .retAddr 0), (1, .ref 0), (2, .ref 71), (3, .ref 82)] [] (lHp s' sx' m' th' c' f') (x + 1) t (6 * t)) : xW G L_law lQ 869 [(4, .int (nI i)), (0, .retAddr 0), (1, .ref 0), (2, .ref 71), (3, .ref 82)] [] (lHp (w, sv, q, n, l, co) sx (z, hi, n, l, co) th c f) x (t + 1) (6 * (t + 1)) := by
  obtain ⟨I, Ag, hq, hn, -, -, -, X, -⟩ := id R
  dsimp only at I Ag hq hn X
  have J := Ag.inv I
  refine xW.cast (hp' := cHp (w, sv, q, n, l, co) sx (lTO (mCq (z, hi, n, l, co) th c []) f)) rfl rfl rfl ?_
  by_cases hz : ((xgr G 0).2 (i + 1)) = 0
  · skip
    refine xw_aload_n 870 dL_law_869 rfl rfl rfl ?_
    refine xw_aload_n 871 dL_law_870 rfl rfl rfl ?_
    refine xw_iload 873 dL_law_871 rfl rfl ?_
    refine xw_iconst 874 (nI 1) dL_law_873 rfl (xofI 1) ?_
    refine xw_iadd 875 dL_law_874 rfl ?_
    refine xw_ialoadR (j := i + 1) 876 dL_law_875 rfl (by decide) (nI_add _ _) (by omega) (by omega) ?_
    refine xw_if_eq 883 879 dL_law_876 rfl rfl (fun h876 => ?_) (fun h876 => absurd (hz) h876)
    refine xw_iconst 884 (nI 0) dL_law_883 rfl (xofI 0) ?_
    refine xw_pV 887 dL_law_884 rfl ok_B_firstError s_L_136 (S_B_firstError (ch := false) X) (bHp_len) (rfl) rfl rfl rfl rfl rfl rfl rfl ?_
    refine xW.cast (hp' := (mH (cHp (w, sv, q, n, l, co) sx []) z (nI n) hi (nI l) co th c.1 c.2.1 c.2.2.1 c.2.2.2.1 c.2.2.2.2.1 c.2.2.2.2.2.1 c.2.2.2.2.2.2.1 c.2.2.2.2.2.2.2.1 c.2.2.2.2.2.2.2.2.1 c.2.2.2.2.2.2.2.2.2.1 c.2.2.2.2.2.2.2.2.2.2.1 c.2.2.2.2.2.2.2.2.2.2.2.1 c.2.2.2.2.2.2.2.2.2.2.2.2.1 c.2.2.2.2.2.2.2.2.2.2.2.2.2 [.inl (2, 1, .inr (.inl f))])) rfl rfl rfl ?_
    refine xw_aload_n 888 dL_law_887 rfl rfl rfl ?_
    refine xw_aload_n 889 dL_law_888 rfl rfl rfl ?_
    refine xw_iload 891 dL_law_889 rfl rfl ?_
    refine xw_iconst 892 (nI 1) dL_law_891 rfl (xofI 1) ?_
    refine xw_iadd 893 dL_law_892 rfl ?_
    refine xw_ialoadR (j := i + 1) 894 dL_law_893 rfl (by decide) (nI_add _ _) (by omega) (by omega) ?_
    refine xw_if_eq 901 897 dL_law_894 rfl rfl (fun h894 => ?_) (fun h894 => absurd (hz) h894)
    refine xw_iconst 902 (nI 0) dL_law_901 rfl (xofI 0) ?_
    refine xw_qV 905 dL_law_902 rfl ok_M_firstError s_L_140 (S_M_firstError (ch := false) rfl X) (fun E hp9 q9 => by cases q9.1) (fun o9 hp9 q9 => by obtain ⟨_, _, q9⟩ := q9; rw [q9]; exact mH_len) (xA rfl rfl) rfl rfl rfl rfl rfl rfl rfl (fun ov9 hp9 q9 => ?_)
    obtain ⟨q1, c9, rfl⟩ := q9
    cases q1
    refine xw_icmp_eq 1649 908 dL_law_905 rfl rfl (fun h905 => ?_) (fun h905 => absurd (rfl) h905)
    refine xW.pick [0, 1, 2, 3, 4] rfl ?_
    refine xW.cast (hp' := lHp (w, sv, q, n, l, co) sx (z, hi, n, l, co) (nI 0) c9 f) rfl rfl rfl ?_
    exact xW.slack (Nat.le_succ x) (xW.less (Nat.le_succ t) (by omega) (next _ _ _ _ _ _ R))
  · skip
    refine xw_aload_n 870 dL_law_869 rfl rfl rfl ?_
    refine xw_aload_n 871 dL_law_870 rfl rfl rfl ?_
    refine xw_iload 873 dL_law_871 rfl rfl ?_
    refine xw_iconst 874 (nI 1) dL_law_873 rfl (xofI 1) ?_
    refine xw_iadd 875 dL_law_874 rfl ?_
    refine xw_ialoadR (j := i + 1) 876 dL_law_875 rfl (by decide) (nI_add _ _) (by omega) (by omega) ?_
    refine xw_if_eq 883 879 dL_law_876 rfl rfl (fun h876 => absurd h876 (hz)) (fun h876 => ?_)
    refine xw_iconst 880 (nI 1) dL_law_879 rfl (xofI 1) ?_
    refine xw_goto 884 dL_law_880 rfl ?_
    refine xw_pV 887 dL_law_884 rfl ok_B_firstError s_L_136 (S_B_firstError (ch := true) X) (bHp_len) (rfl) rfl rfl rfl rfl rfl rfl rfl ?_
    refine xW.cast (hp' := (mH (cHp (w, sv, q, n, l, co) sx []) z (nI n) hi (nI l) co th c.1 c.2.1 c.2.2.1 c.2.2.2.1 c.2.2.2.2.1 c.2.2.2.2.2.1 c.2.2.2.2.2.2.1 c.2.2.2.2.2.2.2.1 c.2.2.2.2.2.2.2.2.1 c.2.2.2.2.2.2.2.2.2.1 c.2.2.2.2.2.2.2.2.2.2.1 c.2.2.2.2.2.2.2.2.2.2.2.1 c.2.2.2.2.2.2.2.2.2.2.2.2.1 c.2.2.2.2.2.2.2.2.2.2.2.2.2 [.inl (2, 1, .inr (.inl f))])) rfl rfl rfl ?_
    refine xw_aload_n 888 dL_law_887 rfl rfl rfl ?_
    refine xw_aload_n 889 dL_law_888 rfl rfl rfl ?_
    refine xw_iload 891 dL_law_889 rfl rfl ?_
    refine xw_iconst 892 (nI 1) dL_law_891 rfl (xofI 1) ?_
    refine xw_iadd 893 dL_law_892 rfl ?_
    refine xw_ialoadR (j := i + 1) 894 dL_law_893 rfl (by decide) (nI_add _ _) (by omega) (by omega) ?_
    refine xw_if_eq 901 897 dL_law_894 rfl rfl (fun h894 => absurd h894 (hz)) (fun h894 => ?_)
    refine xw_iconst 898 (nI 1) dL_law_897 rfl (xofI 1) ?_
    refine xw_goto 902 dL_law_898 rfl ?_
    refine xw_qV 905 dL_law_902 rfl ok_M_firstError s_L_140 (S_M_firstError (ch := true) rfl X) (fun E hp9 q9 => by cases q9.1) (fun o9 hp9 q9 => by obtain ⟨_, _, q9⟩ := q9; rw [q9]; exact mH_len) (xA rfl rfl) rfl rfl rfl rfl rfl rfl rfl (fun ov9 hp9 q9 => ?_)
    obtain ⟨q1, c9, rfl⟩ := q9
    cases q1
    refine xw_icmp_eq 1649 908 dL_law_905 rfl rfl (fun h905 => ?_) (fun h905 => absurd (rfl) h905)
    refine xW.pick [0, 1, 2, 3, 4] rfl ?_
    refine xW.cast (hp' := lHp (w, sv, q, n, l, co) sx (z, hi, n, l, co) (nI 0) c9 f) rfl rfl rfl ?_
    exact xW.slack (Nat.le_succ x) (xW.less (Nat.le_succ t) (by omega) (next _ _ _ _ _ _ R))
theorem S_case_firstWrong (S : xSta G) (R : xRel (w, sv, q, n, l, co) (z, hi, n, l, co)) (h3 : i + 3 ≤ (xgr G 0).1) (h15 : (xgr G 0).1 ≤ 1536) (next : ∀ (s' : xCS) (sx' : xSx) (m' : xMS) (th' : Int32) (c' : mS) (f' : Nat → Int64), xRel s' m' → xW G L_law lQ 1649 [(4, .int (nI i)), (0, .retAddr 0), (1, .ref 0), (2, .ref 71), (3, .ref 82)] [] (lHp s' sx' m' th' c' f') (x + 1) t (6 * t)) : xW G L_law lQ 1542 [(4, .int (nI i)), (0, .retAddr 0), (1, .ref 0), (2, .ref 71), (3, .ref 82)] [] (lHp (w, sv, q, n, l, co) sx (z, hi, n, l, co) th c f) x (t + 1) (6 * (t + 1)) := by
  obtain ⟨I, Ag, hq, hn, -, -, -, X, -⟩ := id R
  dsimp only at I Ag hq hn X
  have J := Ag.inv I
  refine xW.cast (hp' := cHp (w, sv, q, n, l, co) sx (lTO (mCq (z, hi, n, l, co) th c []) f)) rfl rfl rfl ?_
  refine xw_aload_n 1543 dL_law_1542 rfl rfl rfl ?_
  refine xw_pV 1546 dL_law_1543 rfl ok_B_firstWrong s_L_171 (S_B_firstWrong J) (bHp_len) (rfl) rfl rfl rfl rfl rfl rfl rfl ?_
  refine xW.cast (hp' := (mH (cHp (w, sv, q, n, l, co) sx []) z (nI n) hi (nI l) co th c.1 c.2.1 c.2.2.1 c.2.2.2.1 c.2.2.2.2.1 c.2.2.2.2.2.1 c.2.2.2.2.2.2.1 c.2.2.2.2.2.2.2.1 c.2.2.2.2.2.2.2.2.1 c.2.2.2.2.2.2.2.2.2.1 c.2.2.2.2.2.2.2.2.2.2.1 c.2.2.2.2.2.2.2.2.2.2.2.1 c.2.2.2.2.2.2.2.2.2.2.2.2.1 c.2.2.2.2.2.2.2.2.2.2.2.2.2 [.inl (2, 1, .inr (.inl f))])) rfl rfl rfl ?_
  refine xw_aload_n 1547 dL_law_1546 rfl rfl rfl ?_
  refine xw_qV 1550 dL_law_1547 rfl ok_M_firstWrong s_L_174 (S_M_firstWrong rfl I) (fun E hp9 q9 => by cases q9.1) (fun o9 hp9 q9 => by obtain ⟨_, _, q9⟩ := q9; rw [q9]; exact mH_len) (xA rfl rfl) rfl rfl rfl rfl rfl rfl rfl (fun ov9 hp9 q9 => ?_)
  obtain ⟨q1, c9, rfl⟩ := q9
  cases q1
  refine xw_icmp_eq 1649 1553 dL_law_1550 rfl rfl (fun h1550 => ?_) (fun h1550 => absurd (by rw [Ag.fw I]) h1550)
  refine xW.pick [0, 1, 2, 3, 4] rfl ?_
  refine xW.cast (hp' := lHp (w, sv, q, n, l, co) sx (z, hi, n, l, co) (nI 0) c9 f) rfl rfl rfl ?_
  exact xW.slack (Nat.le_succ x) (xW.less (Nat.le_succ t) (by omega) (next _ _ _ _ _ _ R))
theorem S_case_bestCrush (S : xSta G) (R : xRel (w, sv, q, n, l, co) (z, hi, n, l, co)) (h3 : i + 3 ≤ (xgr G 0).1) (h15 : (xgr G 0).1 ≤ 1536) (next : ∀ (s' : xCS) (sx' : xSx) (m' : xMS) (th' : Int32) (c' : mS) (f' : Nat → Int64), xRel s' m' → xW G L_law lQ 1649 [(4, .int (nI i)), (0, .retAddr 0), (1, .ref 0), (2, .ref 71), (3, .ref 82)] [] (lHp s' sx' m' th' c' f') (x + 1) t (6 * t)) : xW G L_law lQ 1555 [(4, .int (nI i)), (0, .retAddr 0), (1, .ref 0), (2, .ref 71), (3, .ref 82)] [] (lHp (w, sv, q, n, l, co) sx (z, hi, n, l, co) th c f) x (t + 1) (6 * (t + 1)) := by
  obtain ⟨I, Ag, hq, hn, -, -, -, X, -⟩ := id R
  dsimp only at I Ag hq hn X
  have J := Ag.inv I
  refine xW.cast (hp' := cHp (w, sv, q, n, l, co) sx (lTO (mCq (z, hi, n, l, co) th c []) f)) rfl rfl rfl ?_
  refine xw_aload_n 1556 dL_law_1555 rfl rfl rfl ?_
  refine xw_pV 1559 dL_law_1556 rfl ok_B_bestCrush s_L_175 (S_B_bestCrush J) (bHp_len) (rfl) rfl rfl rfl rfl rfl rfl rfl ?_
  refine xW.cast (hp' := (mH (cHp (w, sv, q, n, l, co) sx []) z (nI n) hi (nI l) co th c.1 c.2.1 c.2.2.1 c.2.2.2.1 c.2.2.2.2.1 c.2.2.2.2.2.1 c.2.2.2.2.2.2.1 c.2.2.2.2.2.2.2.1 c.2.2.2.2.2.2.2.2.1 c.2.2.2.2.2.2.2.2.2.1 c.2.2.2.2.2.2.2.2.2.2.1 c.2.2.2.2.2.2.2.2.2.2.2.1 c.2.2.2.2.2.2.2.2.2.2.2.2.1 c.2.2.2.2.2.2.2.2.2.2.2.2.2 [.inl (2, 1, .inr (.inl f))])) rfl rfl rfl ?_
  refine xw_aload_n 1560 dL_law_1559 rfl rfl rfl ?_
  refine xw_qV 1563 dL_law_1560 rfl ok_M_bestCrush s_L_178 (S_M_bestCrush rfl I) (fun E hp9 q9 => by cases q9.1) (fun o9 hp9 q9 => by obtain ⟨_, _, q9⟩ := q9; rw [q9]; exact mH_len) (xA rfl rfl) rfl rfl rfl rfl rfl rfl rfl (fun ov9 hp9 q9 => ?_)
  obtain ⟨q1, c9, rfl⟩ := q9
  cases q1
  refine xw_icmp_eq 1649 1566 dL_law_1563 rfl rfl (fun h1563 => ?_) (fun h1563 => absurd (by rw [Ag.i (show 6 < 27 by decide), Ag.ke I _ (Nat.le_refl _)]) h1563)
  refine xW.pick [0, 1, 2, 3, 4] rfl ?_
  refine xW.cast (hp' := lHp (w, sv, q, n, l, co) sx (z, hi, n, l, co) (nI 0) c9 f) rfl rfl rfl ?_
  exact xW.slack (Nat.le_succ x) (xW.less (Nat.le_succ t) (by omega) (next _ _ _ _ _ _ R))
theorem S_case_bestSlant (S : xSta G) (R : xRel (w, sv, q, n, l, co) (z, hi, n, l, co)) (h3 : i + 3 ≤ (xgr G 0).1) (h15 : (xgr G 0).1 ≤ 1536) (next : ∀ (s' : xCS) (sx' : xSx) (m' : xMS) (th' : Int32) (c' : mS) (f' : Nat → Int64), xRel s' m' → xW G L_law lQ 1649 [(4, .int (nI i)), (0, .retAddr 0), (1, .ref 0), (2, .ref 71), (3, .ref 82)] [] (lHp s' sx' m' th' c' f') (x + 1) t (6 * t)) : xW G L_law lQ 1568 [(4, .int (nI i)), (0, .retAddr 0), (1, .ref 0), (2, .ref 71), (3, .ref 82)] [] (lHp (w, sv, q, n, l, co) sx (z, hi, n, l, co) th c f) x (t + 1) (6 * (t + 1)) := by
  obtain ⟨I, Ag, hq, hn, -, -, -, X, -⟩ := id R
  dsimp only at I Ag hq hn X
  have J := Ag.inv I
  refine xW.cast (hp' := cHp (w, sv, q, n, l, co) sx (lTO (mCq (z, hi, n, l, co) th c []) f)) rfl rfl rfl ?_
  refine xw_aload_n 1569 dL_law_1568 rfl rfl rfl ?_
  refine xw_pV 1572 dL_law_1569 rfl ok_B_bestSlant s_L_179 (S_B_bestSlant J S) (bHp_len) (rfl) rfl rfl rfl rfl rfl rfl rfl ?_
  refine xW.cast (hp' := (mH (cHp (w, sv, q, n, l, co) sx []) z (nI n) hi (nI l) co th c.1 c.2.1 c.2.2.1 c.2.2.2.1 c.2.2.2.2.1 c.2.2.2.2.2.1 c.2.2.2.2.2.2.1 c.2.2.2.2.2.2.2.1 c.2.2.2.2.2.2.2.2.1 c.2.2.2.2.2.2.2.2.2.1 c.2.2.2.2.2.2.2.2.2.2.1 c.2.2.2.2.2.2.2.2.2.2.2.1 c.2.2.2.2.2.2.2.2.2.2.2.2.1 c.2.2.2.2.2.2.2.2.2.2.2.2.2 [.inl (2, 1, .inr (.inl f))])) rfl rfl rfl ?_
  refine xw_aload_n 1573 dL_law_1572 rfl rfl rfl ?_
  refine xw_qV 1576 dL_law_1573 rfl ok_M_bestSlant s_L_182 (S_M_bestSlant rfl I) (fun E hp9 q9 => by cases q9.1) (fun o9 hp9 q9 => by obtain ⟨_, _, q9⟩ := q9; rw [q9]; exact mH_len) (xA rfl rfl) rfl rfl rfl rfl rfl rfl rfl (fun ov9 hp9 q9 => ?_)
  obtain ⟨q1, c9, rfl⟩ := q9
  cases q1
  refine xw_icmp_eq 1649 1579 dL_law_1576 rfl rfl (fun h1576 => ?_) (fun h1576 => absurd (by rw [Ag.sl I]) h1576)
  refine xW.pick [0, 1, 2, 3, 4] rfl ?_
  refine xW.cast (hp' := lHp (w, sv, q, n, l, co) sx (z, hi, n, l, co) (nI 0) c9 f) rfl rfl rfl ?_
  exact xW.slack (Nat.le_succ x) (xW.less (Nat.le_succ t) (by omega) (next _ _ _ _ _ _ R))
theorem S_case_bestTurn (S : xSta G) (R : xRel (w, sv, q, n, l, co) (z, hi, n, l, co)) (h3 : i + 3 ≤ (xgr G 0).1) (h15 : (xgr G 0).1 ≤ 1536) (next : ∀ (s' : xCS) (sx' : xSx) (m' : xMS) (th' : Int32) (c' : mS) (f' : Nat → Int64), xRel s' m' → xW G L_law lQ 1649 [(4, .int (nI i)), (0, .retAddr 0), (1, .ref 0), (2, .ref 71), (3, .ref 82)] [] (lHp s' sx' m' th' c' f') (x + 1) t (6 * t)) : xW G L_law lQ 1581 [(4, .int (nI i)), (0, .retAddr 0), (1, .ref 0), (2, .ref 71), (3, .ref 82)] [] (lHp (w, sv, q, n, l, co) sx (z, hi, n, l, co) th c f) x (t + 1) (6 * (t + 1)) := by
  obtain ⟨I, Ag, hq, hn, -, -, -, X, -⟩ := id R
  dsimp only at I Ag hq hn X
  have J := Ag.inv I
  refine xW.cast (hp' := cHp (w, sv, q, n, l, co) sx (lTO (mCq (z, hi, n, l, co) th c []) f)) rfl rfl rfl ?_
  refine xw_aload_n 1582 dL_law_1581 rfl rfl rfl ?_
  refine xw_qV 1585 dL_law_1582 rfl ok_B_bestTurn s_L_183 (S_B_bestTurn J) (fun E hp9 q9 => by obtain ⟨sx9, _, q9⟩ := q9; cases q9) (fun o9 hp9 q9 => by obtain ⟨sx9, q9, _⟩ := q9; rw [q9]; exact bHp_len) (rfl) rfl rfl rfl rfl rfl rfl rfl (fun ov9 hp9 q9 => ?_)
  obtain ⟨sx9, rfl, q1⟩ := q9
  cases q1
  refine xW.cast (hp' := (mH (cHp (w, sv, q, n, l, co) sx9 []) z (nI n) hi (nI l) co th c.1 c.2.1 c.2.2.1 c.2.2.2.1 c.2.2.2.2.1 c.2.2.2.2.2.1 c.2.2.2.2.2.2.1 c.2.2.2.2.2.2.2.1 c.2.2.2.2.2.2.2.2.1 c.2.2.2.2.2.2.2.2.2.1 c.2.2.2.2.2.2.2.2.2.2.1 c.2.2.2.2.2.2.2.2.2.2.2.1 c.2.2.2.2.2.2.2.2.2.2.2.2.1 c.2.2.2.2.2.2.2.2.2.2.2.2.2 [.inl (2, 1, .inr (.inl f))])) rfl rfl rfl ?_
  refine xw_aload_n 1586 dL_law_1585 rfl rfl rfl ?_
  refine xw_qV 1589 dL_law_1586 rfl ok_M_bestTurn s_L_186 (S_M_bestTurn rfl I) (fun E hp9 q9 => by cases q9.1) (fun o9 hp9 q9 => by obtain ⟨_, _, q9⟩ := q9; rw [q9]; exact mH_len) (xA rfl rfl) rfl rfl rfl rfl rfl rfl rfl (fun ov9 hp9 q9 => ?_)
  obtain ⟨q1, c9, rfl⟩ := q9
  cases q1
  refine xw_icmp_eq 1649 1592 dL_law_1589 rfl rfl (fun h1589 => ?_) (fun h1589 => absurd (by rw [Ag.tb I]) h1589)
  refine xW.pick [0, 1, 2, 3, 4] rfl ?_
  refine xW.cast (hp' := lHp (w, sv, q, n, l, co) sx9 (z, hi, n, l, co) (nI 0) c9 f) rfl rfl rfl ?_
  exact xW.slack (Nat.le_succ x) (xW.less (Nat.le_succ t) (by omega) (next _ _ _ _ _ _ R))
theorem S_case_wrongShare (S : xSta G) (R : xRel (w, sv, q, n, l, co) (z, hi, n, l, co)) (h3 : i + 3 ≤ (xgr G 0).1) (h15 : (xgr G 0).1 ≤ 1536) (next : ∀ (s' : xCS) (sx' : xSx) (m' : xMS) (th' : Int32) (c' : mS) (f' : Nat → Int64), xRel s' m' → xW G L_law lQ 1649 [(4, .int (nI i)), (0, .retAddr 0), (1, .ref 0), (2, .ref 71), (3, .ref 82)] [] (lHp s' sx' m' th' c' f') (x + 1) t (6 * t)) : xW G L_law lQ 1594 [(4, .int (nI i)), (0, .retAddr 0), (1, .ref 0), (2, .ref 71), (3, .ref 82)] [] (lHp (w, sv, q, n, l, co) sx (z, hi, n, l, co) th c f) x (t + 1) (6 * (t + 1)) := by
  obtain ⟨I, Ag, hq, hn, -, -, -, X, -⟩ := id R
  dsimp only at I Ag hq hn X
  have J := Ag.inv I
  refine xW.cast (hp' := cHp (w, sv, q, n, l, co) sx (lTO (mCq (z, hi, n, l, co) th c []) f)) rfl rfl rfl ?_
  refine xw_aload_n 1595 dL_law_1594 rfl rfl rfl ?_
  refine xw_pV 1598 dL_law_1595 rfl ok_B_wrongShare s_L_187 (S_B_wrongShare J) (bHp_len) (rfl) rfl rfl rfl rfl rfl rfl rfl ?_
  refine xw_dstore (ls' := [(5, _), (4, _), (0, _), (1, _), (2, _), (3, _)]) 1600 dL_law_1598 rfl rfl rfl ?_
  refine xW.cast (hp' := (mH (cHp (w, sv, q, n, l, co) sx []) z (nI n) hi (nI l) co th c.1 c.2.1 c.2.2.1 c.2.2.2.1 c.2.2.2.2.1 c.2.2.2.2.2.1 c.2.2.2.2.2.2.1 c.2.2.2.2.2.2.2.1 c.2.2.2.2.2.2.2.2.1 c.2.2.2.2.2.2.2.2.2.1 c.2.2.2.2.2.2.2.2.2.2.1 c.2.2.2.2.2.2.2.2.2.2.2.1 c.2.2.2.2.2.2.2.2.2.2.2.2.1 c.2.2.2.2.2.2.2.2.2.2.2.2.2 [.inl (2, 1, .inr (.inl f))])) rfl rfl rfl ?_
  refine xw_aload_n 1601 dL_law_1600 rfl rfl rfl ?_
  refine xw_pV 1604 dL_law_1601 rfl ok_M_wrongShare s_L_191 (S_M_wrongShare rfl I) (mH_len) (xA rfl rfl) rfl rfl rfl rfl rfl rfl rfl ?_
  refine xw_dstore (ls' := [(7, _), (5, _), (4, _), (0, _), (1, _), (2, _), (3, _)]) 1606 dL_law_1604 rfl rfl rfl ?_
  refine xw_dload 1608 dL_law_1606 rfl rfl ?_
  refine xw_dload 1610 dL_law_1608 rfl rfl ?_
  refine xw_dcmp 1611 dL_law_1610 rfl ?_
  refine xw_if_eq 1632 1614 dL_law_1611 rfl rfl (fun h1611 => ?_) (fun h1611 => absurd (by rw [Ag.sh I, zshare_self I]; rfl) h1611)
  refine xw_goto 1649 dL_law_1632 rfl ?_
  refine xW.pick [2, 3, 4, 5, 6] rfl ?_
  refine xW.cast (hp' := lHp (w, sv, q, n, l, co) sx (z, hi, n, l, co) (nI 0) c f) rfl rfl rfl ?_
  exact xW.slack (Nat.le_succ x) (xW.less (Nat.le_succ t) (by omega) (next _ _ _ _ _ _ R))
theorem S_case_digest (S : xSta G) (R : xRel (w, sv, q, n, l, co) (z, hi, n, l, co)) (h3 : i + 3 ≤ (xgr G 0).1) (h15 : (xgr G 0).1 ≤ 1536) (next : ∀ (s' : xCS) (sx' : xSx) (m' : xMS) (th' : Int32) (c' : mS) (f' : Nat → Int64), xRel s' m' → xW G L_law lQ 1649 [(4, .int (nI i)), (0, .retAddr 0), (1, .ref 0), (2, .ref 71), (3, .ref 82)] [] (lHp s' sx' m' th' c' f') (x + 1) t (6 * t)) : xW G L_law lQ 1635 [(4, .int (nI i)), (0, .retAddr 0), (1, .ref 0), (2, .ref 71), (3, .ref 82)] [] (lHp (w, sv, q, n, l, co) sx (z, hi, n, l, co) th c f) x (t + 1) (6 * (t + 1)) := by
  obtain ⟨I, Ag, hq, hn, -, -, -, X, -⟩ := id R
  dsimp only at I Ag hq hn X
  have J := Ag.inv I
  refine xW.cast (hp' := cHp (w, sv, q, n, l, co) sx (lTO (mCq (z, hi, n, l, co) th c []) f)) rfl rfl rfl ?_
  refine xw_aload_n 1636 dL_law_1635 rfl rfl rfl ?_
  refine xw_qV 1639 dL_law_1636 rfl ok_B_digest s_L_192 (S_B_digest J S X.1) (fun E hp9 q9 => by obtain ⟨sx9, _, q9⟩ := q9; cases q9) (fun o9 hp9 q9 => by obtain ⟨sx9, q9, _⟩ := q9; rw [q9]; exact bHp_len) (rfl) rfl rfl rfl rfl rfl rfl rfl (fun ov9 hp9 q9 => ?_)
  obtain ⟨sx9, rfl, q1⟩ := q9
  cases q1
  refine xW.cast (hp' := (mH (cHp (w, sv, q, n, l, co) sx9 []) z (nI n) hi (nI l) co th c.1 c.2.1 c.2.2.1 c.2.2.2.1 c.2.2.2.2.1 c.2.2.2.2.2.1 c.2.2.2.2.2.2.1 c.2.2.2.2.2.2.2.1 c.2.2.2.2.2.2.2.2.1 c.2.2.2.2.2.2.2.2.2.1 c.2.2.2.2.2.2.2.2.2.2.1 c.2.2.2.2.2.2.2.2.2.2.2.1 c.2.2.2.2.2.2.2.2.2.2.2.2.1 c.2.2.2.2.2.2.2.2.2.2.2.2.2 [.inl (2, 1, .inr (.inl f))])) rfl rfl rfl ?_
  refine xw_aload_n 1640 dL_law_1639 rfl rfl rfl ?_
  refine xw_qV 1643 dL_law_1640 rfl ok_M_digest s_L_196 (S_M_digest rfl I X.1) (fun E hp9 q9 => by cases q9.1) (fun o9 hp9 q9 => by obtain ⟨_, _, q9⟩ := q9; rw [q9]; exact mH_len) (xA rfl rfl) rfl rfl rfl rfl rfl rfl rfl (fun ov9 hp9 q9 => ?_)
  obtain ⟨q1, c9, rfl⟩ := q9
  cases q1
  refine xw_lcmp 1644 dL_law_1643 rfl ?_
  refine xw_if_eq 1649 1647 dL_law_1644 rfl rfl (fun h1644 => ?_) (fun h1644 => absurd (by rw [Ag.dig I]; exact lg_cmp_self _) h1644)
  refine xW.pick [0, 1, 2, 3, 4] rfl ?_
  refine xW.cast (hp' := lHp (w, sv, q, n, l, co) sx9 (z, hi, n, l, co) (nI 0) c9 f) rfl rfl rfl ?_
  exact xW.slack (Nat.le_succ x) (xW.less (Nat.le_succ t) (by omega) (next _ _ _ _ _ _ R))
theorem sub3 {N : Nat} (hN : N < 2 ^ 30) : (nI N - nI 3).toInt = (N : Int) - 3 := by
  rw [Int32.toInt_sub, nI_toInt (by omega), nI_toInt (by decide)]
  simp only [Int.bmod]
  split <;> omega
theorem lw_loop (S : xSta G) (h15 : (xgr G 0).1 ≤ 1536) : ∀ (t x i : Nat) (s : xCS) (sx : xSx) (m : xMS) (th : Int32) (c : mS) (f : Nat → Int64), xRel s m → i + 3 * t ≤ (xgr G 0).1 → (xgr G 0).1 < i + 3 * t + 3 → xW G L_law lQ 23 [(4, .int (nI i)), (0, .retAddr 0), (1, .ref 0), (2, .ref 71), (3, .ref 82)] [] (lHp s sx m th c f) x t (6 * t) := by
  intro t
  induction t with
  | zero =>
    intro x i s sx m th c f R h1 h2
    have hgt : nI (xgr G 0).1 - nI 3 < nI i := by
      rw [Int32.lt_iff_toInt_lt, sub3 (by omega), nI_toInt (by omega)]
      omega
    refine xw_iload 25 dL_law_23 rfl rfl ?_
    refine xw_aload_n 26 dL_law_25 rfl rfl rfl ?_
    refine xw_alenR 27 dL_law_26 rfl (by decide) ?_
    refine xw_iconst 28 (nI 3) dL_law_27 rfl (xofI 3) ?_
    refine xw_isub 29 dL_law_28 rfl ?_
    refine xw_icmp_gt 1655 32 dL_law_29 rfl rfl (fun h29 => ?_) (fun h29 => absurd (hgt) h29)
    refine xw_iconst 1656 (nI 1) dL_law_1655 rfl (xofI 1) ?_
    exact xw_zreturn dL_law_1656 rfl (Or.inr rfl) ((rfl : (_ : xO) = _))
  | succ t ih =>
    intro x i s sx m th c f R h1 h2
    have hle : ¬ nI (xgr G 0).1 - nI 3 < nI i := by
      rw [Int32.lt_iff_toInt_lt, sub3 (by omega), nI_toInt (by omega)]
      omega
    have h3 : i + 3 ≤ (xgr G 0).1 := by omega
    have next : ∀ (s' : xCS) (sx' : xSx) (m' : xMS) (th' : Int32) (c' : mS) (f' : Nat → Int64), xRel s' m' → xW G L_law lQ 1649 [(4, .int (nI i)), (0, .retAddr 0), (1, .ref 0), (2, .ref 71), (3, .ref 82)] [] (lHp s' sx' m' th' c' f') (x + 1) t (6 * t) := by
      intro s' sx' m' th' c' f' R'
      have ih := ih (x + 1) (i + 3) s' sx' m' th' c' f' R' (by omega) (by omega)
      refine xw_iinc (ls' := [(4, _), (0, _), (1, _), (2, _), (3, _)]) 1652 _ dL_law_1649 rfl rfl (xnI_inc3 _) rfl rfl ?_
      refine xw_goto 23 dL_law_1652 rfl ?_
      exact xW.pick [0, 1, 2, 3, 4] rfl (ih)
    obtain ⟨w, sv, q, n, l, co⟩ := s
    obtain ⟨z, hi, n', l', co'⟩ := m
    obtain ⟨e1, e2, e3⟩ : n' = n ∧ l' = l ∧ co' = co := ⟨R.2.2.2.2.1, R.2.2.2.2.2.1, R.2.2.2.2.2.2.1⟩
    subst e1 e2 e3
    refine xw_iload 25 dL_law_23 rfl rfl ?_
    refine xw_aload_n 26 dL_law_25 rfl rfl rfl ?_
    refine xw_alenR 27 dL_law_26 rfl (by decide) ?_
    refine xw_iconst 28 (nI 3) dL_law_27 rfl (xofI 3) ?_
    refine xw_isub 29 dL_law_28 rfl ?_
    refine xw_icmp_gt 1655 32 dL_law_29 rfl rfl (fun h29 => absurd h29 (hle)) (fun h29 => ?_)
    refine xw_aload_n 33 dL_law_32 rfl rfl rfl ?_
    refine xw_iload 35 dL_law_33 rfl rfl ?_
    refine xw_ialoadR (j := i) 36 dL_law_35 rfl (by decide) (rfl) (by omega) (by omega) ?_
    refine xw_bipush 38 (nI 31) dL_law_36 rfl (by decide) ?_
    refine xw_iand 39 dL_law_38 rfl ?_
    refine xw_table [172, 216, 272, 340, 408, 476, 544, 600, 644, 688, 744, 800, 856, 869, 910, 954, 1022, 1090, 1158, 1226, 1294, 1350, 1406, 1474, 1542, 1555, 1568, 1581, 1594, 1635] 1649 dL_law_39 rfl rfl rfl ⟨fun h39 => ?_, fun h39 => ?_, fun h39 => ?_, fun h39 => ?_, fun h39 => ?_, fun h39 => ?_, fun h39 => ?_, fun h39 => ?_, fun h39 => ?_, fun h39 => ?_, fun h39 => ?_, fun h39 => ?_, fun h39 => ?_, fun h39 => ?_, fun h39 => ?_, fun h39 => ?_, fun h39 => ?_, fun h39 => ?_, fun h39 => ?_, fun h39 => ?_, fun h39 => ?_, fun h39 => ?_, fun h39 => ?_, fun h39 => ?_, fun h39 => ?_, fun h39 => ?_, fun h39 => ?_, fun h39 => ?_, fun h39 => ?_, fun h39 => ?_, trivial⟩ (fun h39 => ?_)
    · exact S_case_load S R h3 h15 next
    · exact S_case_turn S R h3 h15 next
    · exact S_case_recolour S R h3 h15 next
    · exact S_case_set S R h3 h15 next
    · exact S_case_buy S R h3 h15 next
    · exact S_case_string S R h3 h15 next
    · exact S_case_stringNext S R h3 h15 next
    · exact S_case_stringRow S R h3 h15 next
    · exact S_case_join S R h3 h15 next
    · exact S_case_crush S R h3 h15 next
    · exact S_case_unpick S R h3 h15 next
    · exact S_case_append S R h3 h15 next
    · exact S_case_clearBuffer S R h3 h15 next
    · exact S_case_firstError S R h3 h15 next
    · exact S_case_undo S R h3 h15 next
    · exact S_case_cell S R h3 h15 next
    · exact S_case_pattern S R h3 h15 next
    · exact S_case_bead S R h3 h15 next
    · exact S_case_strand S R h3 h15 next
    · exact S_case_colour S R h3 h15 next
    · exact S_case_count S R h3 h15 next
    · exact S_case_setting S R h3 h15 next
    · exact S_case_needed S R h3 h15 next
    · exact S_case_plan S R h3 h15 next
    · exact S_case_firstWrong S R h3 h15 next
    · exact S_case_bestCrush S R h3 h15 next
    · exact S_case_bestSlant S R h3 h15 next
    · exact S_case_bestTurn S R h3 h15 next
    · exact S_case_wrongShare S R h3 h15 next
    · exact S_case_digest S R h3 h15 next
    · exact xW.slack (Nat.le_succ x) (xW.less (Nat.le_succ t) (by omega) (next _ _ _ _ _ _ R))
end P63

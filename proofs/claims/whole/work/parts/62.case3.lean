/-! ===== the law: cases ===== -/
section P62
variable {G : xG} {x t i : Nat} {w z : Nat → Int32} {sv : Nat → Nat → Int32} {q n l : Nat} {co hi : Nat → Int32} {sx : xSx} {th : Int32} {c : mS} {f : Nat → Int64}
theorem S_case_cell (S : xSta G) (R : xRel (w, sv, q, n, l, co) (z, hi, n, l, co)) (h3 : i + 3 ≤ (xgr G 0).1) (h15 : (xgr G 0).1 ≤ 1536) (next : ∀ (s' : xCS) (sx' : xSx) (m' : xMS) (th' : Int32) (c' : mS) (f' : Nat → Int64), xRel s' m' → xW G L_law lQ 1649 [(4, .int (nI i)), (0, .retAddr 0), (1, .ref 0), (2, .ref 71), (3, .ref 82)] [] (lHp s' sx' m' th' c' f') (x + 1) t (6 * t)) : xW G L_law lQ 954 [(4, .int (nI i)), (0, .retAddr 0), (1, .ref 0), (2, .ref 71), (3, .ref 82)] [] (lHp (w, sv, q, n, l, co) sx (z, hi, n, l, co) th c f) x (t + 1) (6 * (t + 1)) := by
  obtain ⟨I, Ag, hq, hn, -, -, -, X, -⟩ := id R
  dsimp only at I Ag hq hn X
  have J := Ag.inv I
  have hr : (rCell w ((xgr G 0).2 (i + 1)) ((xgr G 0).2 (i + 2))) = (rCell z ((xgr G 0).2 (i + 1)) ((xgr G 0).2 (i + 2))) := T_cell Ag I
  have hK : (rCell w ((xgr G 0).2 (i + 1)) ((xgr G 0).2 (i + 2))).1 ≤ 1 := K_cell
  refine xW.cast (hp' := cHp (w, sv, q, n, l, co) sx (lTO (mCq (z, hi, n, l, co) th c []) f)) rfl rfl rfl ?_
  refine xw_aload_n 955 dL_law_954 rfl rfl rfl ?_
  refine xw_aload_n 956 dL_law_955 rfl rfl rfl ?_
  refine xw_iload 958 dL_law_956 rfl rfl ?_
  refine xw_iconst 959 (nI 1) dL_law_958 rfl (xofI 1) ?_
  refine xw_iadd 960 dL_law_959 rfl ?_
  refine xw_ialoadR (j := i + 1) 961 dL_law_960 rfl (by decide) (nI_add _ _) (by omega) (by omega) ?_
  refine xw_aload_n 962 dL_law_961 rfl rfl rfl ?_
  refine xw_iload 964 dL_law_962 rfl rfl ?_
  refine xw_iconst 965 (nI 2) dL_law_964 rfl (xofI 2) ?_
  refine xw_iadd 966 dL_law_965 rfl ?_
  refine xw_ialoadR (j := i + 2) 967 dL_law_966 rfl (by decide) (nI_add _ _) (by omega) (by omega) ?_
  refine xw_aload_n 968 dL_law_967 rfl rfl rfl ?_
  refine xw_lS 971 dL_law_968 rfl ok_L_cell s_L_144 (S_L_cell (r := (rCell w ((xgr G 0).2 (i + 1)) ((xgr G 0).2 (i + 2)))) (s' := (w, sv, q, n, l, co)) (M := mCq (z, hi, n, l, co) th c []) (f := f) rfl hK (xQr_c (s := (w, sv, q, n, l, co)) (S_B_cell J))) rfl rfl rfl rfl rfl rfl rfl rfl (fun w9 sx9 g9 => ?_)
  by_cases e0 : (rCell w ((xgr G 0).2 (i + 1)) ((xgr G 0).2 (i + 2))).1 = 0
  · rw [if_pos e0]
    refine xw_istore (ls' := [(5, _), (4, _), (0, _), (1, _), (2, _), (3, _)]) 973 dL_law_971 rfl rfl rfl ?_
    refine xW.cast (hp' := (mH (cHp (w9, (w, sv, q, n, l, co).2) sx9 []) z (nI n) hi (nI l) co th c.1 c.2.1 c.2.2.1 c.2.2.2.1 c.2.2.2.2.1 c.2.2.2.2.2.1 c.2.2.2.2.2.2.1 c.2.2.2.2.2.2.2.1 c.2.2.2.2.2.2.2.2.1 c.2.2.2.2.2.2.2.2.2.1 c.2.2.2.2.2.2.2.2.2.2.1 c.2.2.2.2.2.2.2.2.2.2.2.1 c.2.2.2.2.2.2.2.2.2.2.2.2.1 c.2.2.2.2.2.2.2.2.2.2.2.2.2 [.inl (2, 1, .inr (.inl (vp_updL f 0 (rCell w ((xgr G 0).2 (i + 1)) ((xgr G 0).2 (i + 2))).2.toInt64)))])) rfl rfl rfl ?_
    refine xw_aload_n 974 dL_law_973 rfl rfl rfl ?_
    refine xw_aload_n 975 dL_law_974 rfl rfl rfl ?_
    refine xw_iload 977 dL_law_975 rfl rfl ?_
    refine xw_iconst 978 (nI 1) dL_law_977 rfl (xofI 1) ?_
    refine xw_iadd 979 dL_law_978 rfl ?_
    refine xw_ialoadR (j := i + 1) 980 dL_law_979 rfl (by decide) (nI_add _ _) (by omega) (by omega) ?_
    refine xw_aload_n 981 dL_law_980 rfl rfl rfl ?_
    refine xw_iload 983 dL_law_981 rfl rfl ?_
    refine xw_iconst 984 (nI 2) dL_law_983 rfl (xofI 2) ?_
    refine xw_iadd 985 dL_law_984 rfl ?_
    refine xw_ialoadR (j := i + 2) 986 dL_law_985 rfl (by decide) (nI_add _ _) (by omega) (by omega) ?_
    refine xw_qV 989 dL_law_986 rfl ok_M_cell s_L_146 ((S_M_cell rfl I)) (fun E hp9 q9 => by cases q9.1) (fun o9 hp9 q9 => by obtain ⟨_, _, q9⟩ := q9; rw [q9]; exact mH_len) (xA rfl rfl) rfl rfl rfl rfl rfl rfl rfl (fun ov9 hp9 q9 => ?_)
    obtain ⟨q1, c9, rfl⟩ := q9
    cases q1
    refine xw_istore (ls' := [(6, _), (5, _), (4, _), (0, _), (1, _), (2, _), (3, _)]) 991 dL_law_989 rfl rfl rfl ?_
    refine xw_aload_n 992 dL_law_991 rfl rfl rfl ?_
    refine xw_pV 995 dL_law_992 rfl ok_M_thrown s_L_94 (S_M_thrown rfl) (mH_len) (xA rfl rfl) rfl rfl rfl rfl rfl rfl rfl ?_
    refine xw_iload 997 dL_law_995 rfl rfl ?_
    refine xw_icmp_eq 1002 1000 dL_law_997 rfl rfl (fun h997 => ?_) (fun h997 => absurd (by rw [hr]) h997)
    refine xw_iload 1004 dL_law_1002 rfl rfl ?_
    refine xw_if_ne 1019 1007 dL_law_1004 rfl rfl (fun h1004 => absurd (by rw [e0]; rfl) h1004) (fun h1004 => ?_)
    refine xw_aload_n 1008 dL_law_1007 rfl rfl rfl ?_
    refine xw_iconst 1009 (nI 0) dL_law_1008 rfl (xofI 0) ?_
    refine xw_laload (j := 0) 1010 dL_law_1009 rfl (xA (j := 11) rfl rfl) (rfl) (by decide) (by omega) ?_
    refine xw_iload 1012 dL_law_1010 rfl rfl ?_
    refine xw_i2l 1013 dL_law_1012 rfl ?_
    refine xw_lcmp 1014 dL_law_1013 rfl ?_
    have hc9 : lg_cmp (vp_updL f 0 (rCell w ((xgr G 0).2 (i + 1)) ((xgr G 0).2 (i + 2))).2.toInt64 0) (rCell z ((xgr G 0).2 (i + 1)) ((xgr G 0).2 (i + 2))).2.toInt64 = 0 := by rw [show vp_updL f 0 (rCell w ((xgr G 0).2 (i + 1)) ((xgr G 0).2 (i + 2))).2.toInt64 0 = (rCell w ((xgr G 0).2 (i + 1)) ((xgr G 0).2 (i + 2))).2.toInt64 from if_pos rfl, hr, lg_cmp_self]
    refine xw_if_eq 1019 1017 dL_law_1014 rfl rfl (fun h1014 => ?_) (fun h1014 => absurd (hc9) h1014)
    refine xw_goto 1649 dL_law_1019 rfl ?_
    refine xW.pick [2, 3, 4, 5, 6] rfl ?_
    refine xW.cast (hp' := lHp (w9, (w, sv, q, n, l, co).2) sx9 (z, hi, n, l, co) (nI (rCell z ((xgr G 0).2 (i + 1)) ((xgr G 0).2 (i + 2))).1) c9 (vp_updL f 0 (rCell w ((xgr G 0).2 (i + 1)) ((xgr G 0).2 (i + 2))).2.toInt64)) rfl rfl rfl ?_
    exact next _ _ _ _ _ _ (xRel_w R g9)
  · rw [if_neg e0]
    refine xw_istore (ls' := [(5, _), (4, _), (0, _), (1, _), (2, _), (3, _)]) 973 dL_law_971 rfl rfl rfl ?_
    refine xW.cast (hp' := (mH (cHp (w9, (w, sv, q, n, l, co).2) sx9 []) z (nI n) hi (nI l) co th c.1 c.2.1 c.2.2.1 c.2.2.2.1 c.2.2.2.2.1 c.2.2.2.2.2.1 c.2.2.2.2.2.2.1 c.2.2.2.2.2.2.2.1 c.2.2.2.2.2.2.2.2.1 c.2.2.2.2.2.2.2.2.2.1 c.2.2.2.2.2.2.2.2.2.2.1 c.2.2.2.2.2.2.2.2.2.2.2.1 c.2.2.2.2.2.2.2.2.2.2.2.2.1 c.2.2.2.2.2.2.2.2.2.2.2.2.2 [.inl (2, 1, .inr (.inl f))])) rfl rfl rfl ?_
    refine xw_aload_n 974 dL_law_973 rfl rfl rfl ?_
    refine xw_aload_n 975 dL_law_974 rfl rfl rfl ?_
    refine xw_iload 977 dL_law_975 rfl rfl ?_
    refine xw_iconst 978 (nI 1) dL_law_977 rfl (xofI 1) ?_
    refine xw_iadd 979 dL_law_978 rfl ?_
    refine xw_ialoadR (j := i + 1) 980 dL_law_979 rfl (by decide) (nI_add _ _) (by omega) (by omega) ?_
    refine xw_aload_n 981 dL_law_980 rfl rfl rfl ?_
    refine xw_iload 983 dL_law_981 rfl rfl ?_
    refine xw_iconst 984 (nI 2) dL_law_983 rfl (xofI 2) ?_
    refine xw_iadd 985 dL_law_984 rfl ?_
    refine xw_ialoadR (j := i + 2) 986 dL_law_985 rfl (by decide) (nI_add _ _) (by omega) (by omega) ?_
    refine xw_qV 989 dL_law_986 rfl ok_M_cell s_L_146 ((S_M_cell rfl I)) (fun E hp9 q9 => by cases q9.1) (fun o9 hp9 q9 => by obtain ⟨_, _, q9⟩ := q9; rw [q9]; exact mH_len) (xA rfl rfl) rfl rfl rfl rfl rfl rfl rfl (fun ov9 hp9 q9 => ?_)
    obtain ⟨q1, c9, rfl⟩ := q9
    cases q1
    refine xw_istore (ls' := [(6, _), (5, _), (4, _), (0, _), (1, _), (2, _), (3, _)]) 991 dL_law_989 rfl rfl rfl ?_
    refine xw_aload_n 992 dL_law_991 rfl rfl rfl ?_
    refine xw_pV 995 dL_law_992 rfl ok_M_thrown s_L_94 (S_M_thrown rfl) (mH_len) (xA rfl rfl) rfl rfl rfl rfl rfl rfl rfl ?_
    refine xw_iload 997 dL_law_995 rfl rfl ?_
    refine xw_icmp_eq 1002 1000 dL_law_997 rfl rfl (fun h997 => ?_) (fun h997 => absurd (by rw [hr]) h997)
    refine xw_iload 1004 dL_law_1002 rfl rfl ?_
    refine xw_if_ne 1019 1007 dL_law_1004 rfl rfl (fun h1004 => ?_) (fun h1004 => absurd h1004 (nI_ne0 (by omega) (by omega)))
    refine xw_goto 1649 dL_law_1019 rfl ?_
    refine xW.pick [2, 3, 4, 5, 6] rfl ?_
    refine xW.cast (hp' := lHp (w9, (w, sv, q, n, l, co).2) sx9 (z, hi, n, l, co) (nI (rCell z ((xgr G 0).2 (i + 1)) ((xgr G 0).2 (i + 2))).1) c9 f) rfl rfl rfl ?_
    exact next _ _ _ _ _ _ (xRel_w R g9)
theorem S_case_pattern (S : xSta G) (R : xRel (w, sv, q, n, l, co) (z, hi, n, l, co)) (h3 : i + 3 ≤ (xgr G 0).1) (h15 : (xgr G 0).1 ≤ 1536) (next : ∀ (s' : xCS) (sx' : xSx) (m' : xMS) (th' : Int32) (c' : mS) (f' : Nat → Int64), xRel s' m' → xW G L_law lQ 1649 [(4, .int (nI i)), (0, .retAddr 0), (1, .ref 0), (2, .ref 71), (3, .ref 82)] [] (lHp s' sx' m' th' c' f') (x + 1) t (6 * t)) : xW G L_law lQ 1022 [(4, .int (nI i)), (0, .retAddr 0), (1, .ref 0), (2, .ref 71), (3, .ref 82)] [] (lHp (w, sv, q, n, l, co) sx (z, hi, n, l, co) th c f) x (t + 1) (6 * (t + 1)) := by
  obtain ⟨I, Ag, hq, hn, -, -, -, X, -⟩ := id R
  dsimp only at I Ag hq hn X
  have J := Ag.inv I
  have hr : (rPat w ((xgr G 0).2 (i + 1)) ((xgr G 0).2 (i + 2))) = (rPat z ((xgr G 0).2 (i + 1)) ((xgr G 0).2 (i + 2))) := T_pat Ag I
  have hK : (rPat w ((xgr G 0).2 (i + 1)) ((xgr G 0).2 (i + 2))).1 ≤ 1 := K_pat
  refine xW.cast (hp' := cHp (w, sv, q, n, l, co) sx (lTO (mCq (z, hi, n, l, co) th c []) f)) rfl rfl rfl ?_
  refine xw_aload_n 1023 dL_law_1022 rfl rfl rfl ?_
  refine xw_aload_n 1024 dL_law_1023 rfl rfl rfl ?_
  refine xw_iload 1026 dL_law_1024 rfl rfl ?_
  refine xw_iconst 1027 (nI 1) dL_law_1026 rfl (xofI 1) ?_
  refine xw_iadd 1028 dL_law_1027 rfl ?_
  refine xw_ialoadR (j := i + 1) 1029 dL_law_1028 rfl (by decide) (nI_add _ _) (by omega) (by omega) ?_
  refine xw_aload_n 1030 dL_law_1029 rfl rfl rfl ?_
  refine xw_iload 1032 dL_law_1030 rfl rfl ?_
  refine xw_iconst 1033 (nI 2) dL_law_1032 rfl (xofI 2) ?_
  refine xw_iadd 1034 dL_law_1033 rfl ?_
  refine xw_ialoadR (j := i + 2) 1035 dL_law_1034 rfl (by decide) (nI_add _ _) (by omega) (by omega) ?_
  refine xw_aload_n 1036 dL_law_1035 rfl rfl rfl ?_
  refine xw_lS 1039 dL_law_1036 rfl ok_L_pattern s_L_147 (S_L_pattern (r := (rPat w ((xgr G 0).2 (i + 1)) ((xgr G 0).2 (i + 2)))) (s' := (w, sv, q, n, l, co)) (M := mCq (z, hi, n, l, co) th c []) (f := f) rfl hK (xQr_c (s := (w, sv, q, n, l, co)) (S_B_pattern J))) rfl rfl rfl rfl rfl rfl rfl rfl (fun w9 sx9 g9 => ?_)
  by_cases e0 : (rPat w ((xgr G 0).2 (i + 1)) ((xgr G 0).2 (i + 2))).1 = 0
  · rw [if_pos e0]
    refine xw_istore (ls' := [(5, _), (4, _), (0, _), (1, _), (2, _), (3, _)]) 1041 dL_law_1039 rfl rfl rfl ?_
    refine xW.cast (hp' := (mH (cHp (w9, (w, sv, q, n, l, co).2) sx9 []) z (nI n) hi (nI l) co th c.1 c.2.1 c.2.2.1 c.2.2.2.1 c.2.2.2.2.1 c.2.2.2.2.2.1 c.2.2.2.2.2.2.1 c.2.2.2.2.2.2.2.1 c.2.2.2.2.2.2.2.2.1 c.2.2.2.2.2.2.2.2.2.1 c.2.2.2.2.2.2.2.2.2.2.1 c.2.2.2.2.2.2.2.2.2.2.2.1 c.2.2.2.2.2.2.2.2.2.2.2.2.1 c.2.2.2.2.2.2.2.2.2.2.2.2.2 [.inl (2, 1, .inr (.inl (vp_updL f 0 (rPat w ((xgr G 0).2 (i + 1)) ((xgr G 0).2 (i + 2))).2.toInt64)))])) rfl rfl rfl ?_
    refine xw_aload_n 1042 dL_law_1041 rfl rfl rfl ?_
    refine xw_aload_n 1043 dL_law_1042 rfl rfl rfl ?_
    refine xw_iload 1045 dL_law_1043 rfl rfl ?_
    refine xw_iconst 1046 (nI 1) dL_law_1045 rfl (xofI 1) ?_
    refine xw_iadd 1047 dL_law_1046 rfl ?_
    refine xw_ialoadR (j := i + 1) 1048 dL_law_1047 rfl (by decide) (nI_add _ _) (by omega) (by omega) ?_
    refine xw_aload_n 1049 dL_law_1048 rfl rfl rfl ?_
    refine xw_iload 1051 dL_law_1049 rfl rfl ?_
    refine xw_iconst 1052 (nI 2) dL_law_1051 rfl (xofI 2) ?_
    refine xw_iadd 1053 dL_law_1052 rfl ?_
    refine xw_ialoadR (j := i + 2) 1054 dL_law_1053 rfl (by decide) (nI_add _ _) (by omega) (by omega) ?_
    refine xw_qV 1057 dL_law_1054 rfl ok_M_pattern s_L_149 ((S_M_pattern rfl I)) (fun E hp9 q9 => by cases q9.1) (fun o9 hp9 q9 => by obtain ⟨_, _, q9⟩ := q9; rw [q9]; exact mH_len) (xA rfl rfl) rfl rfl rfl rfl rfl rfl rfl (fun ov9 hp9 q9 => ?_)
    obtain ⟨q1, c9, rfl⟩ := q9
    cases q1
    refine xw_istore (ls' := [(6, _), (5, _), (4, _), (0, _), (1, _), (2, _), (3, _)]) 1059 dL_law_1057 rfl rfl rfl ?_
    refine xw_aload_n 1060 dL_law_1059 rfl rfl rfl ?_
    refine xw_pV 1063 dL_law_1060 rfl ok_M_thrown s_L_94 (S_M_thrown rfl) (mH_len) (xA rfl rfl) rfl rfl rfl rfl rfl rfl rfl ?_
    refine xw_iload 1065 dL_law_1063 rfl rfl ?_
    refine xw_icmp_eq 1070 1068 dL_law_1065 rfl rfl (fun h1065 => ?_) (fun h1065 => absurd (by rw [hr]) h1065)
    refine xw_iload 1072 dL_law_1070 rfl rfl ?_
    refine xw_if_ne 1087 1075 dL_law_1072 rfl rfl (fun h1072 => absurd (by rw [e0]; rfl) h1072) (fun h1072 => ?_)
    refine xw_aload_n 1076 dL_law_1075 rfl rfl rfl ?_
    refine xw_iconst 1077 (nI 0) dL_law_1076 rfl (xofI 0) ?_
    refine xw_laload (j := 0) 1078 dL_law_1077 rfl (xA (j := 11) rfl rfl) (rfl) (by decide) (by omega) ?_
    refine xw_iload 1080 dL_law_1078 rfl rfl ?_
    refine xw_i2l 1081 dL_law_1080 rfl ?_
    refine xw_lcmp 1082 dL_law_1081 rfl ?_
    have hc9 : lg_cmp (vp_updL f 0 (rPat w ((xgr G 0).2 (i + 1)) ((xgr G 0).2 (i + 2))).2.toInt64 0) (rPat z ((xgr G 0).2 (i + 1)) ((xgr G 0).2 (i + 2))).2.toInt64 = 0 := by rw [show vp_updL f 0 (rPat w ((xgr G 0).2 (i + 1)) ((xgr G 0).2 (i + 2))).2.toInt64 0 = (rPat w ((xgr G 0).2 (i + 1)) ((xgr G 0).2 (i + 2))).2.toInt64 from if_pos rfl, hr, lg_cmp_self]
    refine xw_if_eq 1087 1085 dL_law_1082 rfl rfl (fun h1082 => ?_) (fun h1082 => absurd (hc9) h1082)
    refine xw_goto 1649 dL_law_1087 rfl ?_
    refine xW.pick [2, 3, 4, 5, 6] rfl ?_
    refine xW.cast (hp' := lHp (w9, (w, sv, q, n, l, co).2) sx9 (z, hi, n, l, co) (nI (rPat z ((xgr G 0).2 (i + 1)) ((xgr G 0).2 (i + 2))).1) c9 (vp_updL f 0 (rPat w ((xgr G 0).2 (i + 1)) ((xgr G 0).2 (i + 2))).2.toInt64)) rfl rfl rfl ?_
    exact next _ _ _ _ _ _ (xRel_w R g9)
  · rw [if_neg e0]
    refine xw_istore (ls' := [(5, _), (4, _), (0, _), (1, _), (2, _), (3, _)]) 1041 dL_law_1039 rfl rfl rfl ?_
    refine xW.cast (hp' := (mH (cHp (w9, (w, sv, q, n, l, co).2) sx9 []) z (nI n) hi (nI l) co th c.1 c.2.1 c.2.2.1 c.2.2.2.1 c.2.2.2.2.1 c.2.2.2.2.2.1 c.2.2.2.2.2.2.1 c.2.2.2.2.2.2.2.1 c.2.2.2.2.2.2.2.2.1 c.2.2.2.2.2.2.2.2.2.1 c.2.2.2.2.2.2.2.2.2.2.1 c.2.2.2.2.2.2.2.2.2.2.2.1 c.2.2.2.2.2.2.2.2.2.2.2.2.1 c.2.2.2.2.2.2.2.2.2.2.2.2.2 [.inl (2, 1, .inr (.inl f))])) rfl rfl rfl ?_
    refine xw_aload_n 1042 dL_law_1041 rfl rfl rfl ?_
    refine xw_aload_n 1043 dL_law_1042 rfl rfl rfl ?_
    refine xw_iload 1045 dL_law_1043 rfl rfl ?_
    refine xw_iconst 1046 (nI 1) dL_law_1045 rfl (xofI 1) ?_
    refine xw_iadd 1047 dL_law_1046 rfl ?_
    refine xw_ialoadR (j := i + 1) 1048 dL_law_1047 rfl (by decide) (nI_add _ _) (by omega) (by omega) ?_
    refine xw_aload_n 1049 dL_law_1048 rfl rfl rfl ?_
    refine xw_iload 1051 dL_law_1049 rfl rfl ?_
    refine xw_iconst 1052 (nI 2) dL_law_1051 rfl (xofI 2) ?_
    refine xw_iadd 1053 dL_law_1052 rfl ?_
    refine xw_ialoadR (j := i + 2) 1054 dL_law_1053 rfl (by decide) (nI_add _ _) (by omega) (by omega) ?_
    refine xw_qV 1057 dL_law_1054 rfl ok_M_pattern s_L_149 ((S_M_pattern rfl I)) (fun E hp9 q9 => by cases q9.1) (fun o9 hp9 q9 => by obtain ⟨_, _, q9⟩ := q9; rw [q9]; exact mH_len) (xA rfl rfl) rfl rfl rfl rfl rfl rfl rfl (fun ov9 hp9 q9 => ?_)
    obtain ⟨q1, c9, rfl⟩ := q9
    cases q1
    refine xw_istore (ls' := [(6, _), (5, _), (4, _), (0, _), (1, _), (2, _), (3, _)]) 1059 dL_law_1057 rfl rfl rfl ?_
    refine xw_aload_n 1060 dL_law_1059 rfl rfl rfl ?_
    refine xw_pV 1063 dL_law_1060 rfl ok_M_thrown s_L_94 (S_M_thrown rfl) (mH_len) (xA rfl rfl) rfl rfl rfl rfl rfl rfl rfl ?_
    refine xw_iload 1065 dL_law_1063 rfl rfl ?_
    refine xw_icmp_eq 1070 1068 dL_law_1065 rfl rfl (fun h1065 => ?_) (fun h1065 => absurd (by rw [hr]) h1065)
    refine xw_iload 1072 dL_law_1070 rfl rfl ?_
    refine xw_if_ne 1087 1075 dL_law_1072 rfl rfl (fun h1072 => ?_) (fun h1072 => absurd h1072 (nI_ne0 (by omega) (by omega)))
    refine xw_goto 1649 dL_law_1087 rfl ?_
    refine xW.pick [2, 3, 4, 5, 6] rfl ?_
    refine xW.cast (hp' := lHp (w9, (w, sv, q, n, l, co).2) sx9 (z, hi, n, l, co) (nI (rPat z ((xgr G 0).2 (i + 1)) ((xgr G 0).2 (i + 2))).1) c9 f) rfl rfl rfl ?_
    exact next _ _ _ _ _ _ (xRel_w R g9)
theorem S_case_bead (S : xSta G) (R : xRel (w, sv, q, n, l, co) (z, hi, n, l, co)) (h3 : i + 3 ≤ (xgr G 0).1) (h15 : (xgr G 0).1 ≤ 1536) (next : ∀ (s' : xCS) (sx' : xSx) (m' : xMS) (th' : Int32) (c' : mS) (f' : Nat → Int64), xRel s' m' → xW G L_law lQ 1649 [(4, .int (nI i)), (0, .retAddr 0), (1, .ref 0), (2, .ref 71), (3, .ref 82)] [] (lHp s' sx' m' th' c' f') (x + 1) t (6 * t)) : xW G L_law lQ 1090 [(4, .int (nI i)), (0, .retAddr 0), (1, .ref 0), (2, .ref 71), (3, .ref 82)] [] (lHp (w, sv, q, n, l, co) sx (z, hi, n, l, co) th c f) x (t + 1) (6 * (t + 1)) := by
  obtain ⟨I, Ag, hq, hn, -, -, -, X, -⟩ := id R
  dsimp only at I Ag hq hn X
  have J := Ag.inv I
  have hr : (rBead w ((xgr G 0).2 (i + 1)) ((xgr G 0).2 (i + 2))) = (rBead z ((xgr G 0).2 (i + 1)) ((xgr G 0).2 (i + 2))) := T_bead Ag I
  have hK : (rBead w ((xgr G 0).2 (i + 1)) ((xgr G 0).2 (i + 2))).1 ≤ 2 := K_bead
  refine xW.cast (hp' := cHp (w, sv, q, n, l, co) sx (lTO (mCq (z, hi, n, l, co) th c []) f)) rfl rfl rfl ?_
  refine xw_aload_n 1091 dL_law_1090 rfl rfl rfl ?_
  refine xw_aload_n 1092 dL_law_1091 rfl rfl rfl ?_
  refine xw_iload 1094 dL_law_1092 rfl rfl ?_
  refine xw_iconst 1095 (nI 1) dL_law_1094 rfl (xofI 1) ?_
  refine xw_iadd 1096 dL_law_1095 rfl ?_
  refine xw_ialoadR (j := i + 1) 1097 dL_law_1096 rfl (by decide) (nI_add _ _) (by omega) (by omega) ?_
  refine xw_aload_n 1098 dL_law_1097 rfl rfl rfl ?_
  refine xw_iload 1100 dL_law_1098 rfl rfl ?_
  refine xw_iconst 1101 (nI 2) dL_law_1100 rfl (xofI 2) ?_
  refine xw_iadd 1102 dL_law_1101 rfl ?_
  refine xw_ialoadR (j := i + 2) 1103 dL_law_1102 rfl (by decide) (nI_add _ _) (by omega) (by omega) ?_
  refine xw_aload_n 1104 dL_law_1103 rfl rfl rfl ?_
  refine xw_lS 1107 dL_law_1104 rfl ok_L_bead s_L_150 (S_L_bead (r := (rBead w ((xgr G 0).2 (i + 1)) ((xgr G 0).2 (i + 2)))) (s' := (w, sv, q, n, l, co)) (M := mCq (z, hi, n, l, co) th c []) (f := f) rfl hK (xQr_c (s := (w, sv, q, n, l, co)) (S_B_bead J))) rfl rfl rfl rfl rfl rfl rfl rfl (fun w9 sx9 g9 => ?_)
  by_cases e0 : (rBead w ((xgr G 0).2 (i + 1)) ((xgr G 0).2 (i + 2))).1 = 0
  · rw [if_pos e0]
    refine xw_istore (ls' := [(5, _), (4, _), (0, _), (1, _), (2, _), (3, _)]) 1109 dL_law_1107 rfl rfl rfl ?_
    refine xW.cast (hp' := (mH (cHp (w9, (w, sv, q, n, l, co).2) sx9 []) z (nI n) hi (nI l) co th c.1 c.2.1 c.2.2.1 c.2.2.2.1 c.2.2.2.2.1 c.2.2.2.2.2.1 c.2.2.2.2.2.2.1 c.2.2.2.2.2.2.2.1 c.2.2.2.2.2.2.2.2.1 c.2.2.2.2.2.2.2.2.2.1 c.2.2.2.2.2.2.2.2.2.2.1 c.2.2.2.2.2.2.2.2.2.2.2.1 c.2.2.2.2.2.2.2.2.2.2.2.2.1 c.2.2.2.2.2.2.2.2.2.2.2.2.2 [.inl (2, 1, .inr (.inl (vp_updL f 0 (rBead w ((xgr G 0).2 (i + 1)) ((xgr G 0).2 (i + 2))).2.toInt64)))])) rfl rfl rfl ?_
    refine xw_aload_n 1110 dL_law_1109 rfl rfl rfl ?_
    refine xw_aload_n 1111 dL_law_1110 rfl rfl rfl ?_
    refine xw_iload 1113 dL_law_1111 rfl rfl ?_
    refine xw_iconst 1114 (nI 1) dL_law_1113 rfl (xofI 1) ?_
    refine xw_iadd 1115 dL_law_1114 rfl ?_
    refine xw_ialoadR (j := i + 1) 1116 dL_law_1115 rfl (by decide) (nI_add _ _) (by omega) (by omega) ?_
    refine xw_aload_n 1117 dL_law_1116 rfl rfl rfl ?_
    refine xw_iload 1119 dL_law_1117 rfl rfl ?_
    refine xw_iconst 1120 (nI 2) dL_law_1119 rfl (xofI 2) ?_
    refine xw_iadd 1121 dL_law_1120 rfl ?_
    refine xw_ialoadR (j := i + 2) 1122 dL_law_1121 rfl (by decide) (nI_add _ _) (by omega) (by omega) ?_
    refine xw_qV 1125 dL_law_1122 rfl ok_M_bead s_L_152 ((S_M_bead rfl I)) (fun E hp9 q9 => by cases q9.1) (fun o9 hp9 q9 => by obtain ⟨_, _, q9⟩ := q9; rw [q9]; exact mH_len) (xA rfl rfl) rfl rfl rfl rfl rfl rfl rfl (fun ov9 hp9 q9 => ?_)
    obtain ⟨q1, c9, rfl⟩ := q9
    cases q1
    refine xw_istore (ls' := [(6, _), (5, _), (4, _), (0, _), (1, _), (2, _), (3, _)]) 1127 dL_law_1125 rfl rfl rfl ?_
    refine xw_aload_n 1128 dL_law_1127 rfl rfl rfl ?_
    refine xw_pV 1131 dL_law_1128 rfl ok_M_thrown s_L_94 (S_M_thrown rfl) (mH_len) (xA rfl rfl) rfl rfl rfl rfl rfl rfl rfl ?_
    refine xw_iload 1133 dL_law_1131 rfl rfl ?_
    refine xw_icmp_eq 1138 1136 dL_law_1133 rfl rfl (fun h1133 => ?_) (fun h1133 => absurd (by rw [hr]) h1133)
    refine xw_iload 1140 dL_law_1138 rfl rfl ?_
    refine xw_if_ne 1155 1143 dL_law_1140 rfl rfl (fun h1140 => absurd (by rw [e0]; rfl) h1140) (fun h1140 => ?_)
    refine xw_aload_n 1144 dL_law_1143 rfl rfl rfl ?_
    refine xw_iconst 1145 (nI 0) dL_law_1144 rfl (xofI 0) ?_
    refine xw_laload (j := 0) 1146 dL_law_1145 rfl (xA (j := 11) rfl rfl) (rfl) (by decide) (by omega) ?_
    refine xw_iload 1148 dL_law_1146 rfl rfl ?_
    refine xw_i2l 1149 dL_law_1148 rfl ?_
    refine xw_lcmp 1150 dL_law_1149 rfl ?_
    have hc9 : lg_cmp (vp_updL f 0 (rBead w ((xgr G 0).2 (i + 1)) ((xgr G 0).2 (i + 2))).2.toInt64 0) (rBead z ((xgr G 0).2 (i + 1)) ((xgr G 0).2 (i + 2))).2.toInt64 = 0 := by rw [show vp_updL f 0 (rBead w ((xgr G 0).2 (i + 1)) ((xgr G 0).2 (i + 2))).2.toInt64 0 = (rBead w ((xgr G 0).2 (i + 1)) ((xgr G 0).2 (i + 2))).2.toInt64 from if_pos rfl, hr, lg_cmp_self]
    refine xw_if_eq 1155 1153 dL_law_1150 rfl rfl (fun h1150 => ?_) (fun h1150 => absurd (hc9) h1150)
    refine xw_goto 1649 dL_law_1155 rfl ?_
    refine xW.pick [2, 3, 4, 5, 6] rfl ?_
    refine xW.cast (hp' := lHp (w9, (w, sv, q, n, l, co).2) sx9 (z, hi, n, l, co) (nI (rBead z ((xgr G 0).2 (i + 1)) ((xgr G 0).2 (i + 2))).1) c9 (vp_updL f 0 (rBead w ((xgr G 0).2 (i + 1)) ((xgr G 0).2 (i + 2))).2.toInt64)) rfl rfl rfl ?_
    exact next _ _ _ _ _ _ (xRel_w R g9)
  · rw [if_neg e0]
    refine xw_istore (ls' := [(5, _), (4, _), (0, _), (1, _), (2, _), (3, _)]) 1109 dL_law_1107 rfl rfl rfl ?_
    refine xW.cast (hp' := (mH (cHp (w9, (w, sv, q, n, l, co).2) sx9 []) z (nI n) hi (nI l) co th c.1 c.2.1 c.2.2.1 c.2.2.2.1 c.2.2.2.2.1 c.2.2.2.2.2.1 c.2.2.2.2.2.2.1 c.2.2.2.2.2.2.2.1 c.2.2.2.2.2.2.2.2.1 c.2.2.2.2.2.2.2.2.2.1 c.2.2.2.2.2.2.2.2.2.2.1 c.2.2.2.2.2.2.2.2.2.2.2.1 c.2.2.2.2.2.2.2.2.2.2.2.2.1 c.2.2.2.2.2.2.2.2.2.2.2.2.2 [.inl (2, 1, .inr (.inl f))])) rfl rfl rfl ?_
    refine xw_aload_n 1110 dL_law_1109 rfl rfl rfl ?_
    refine xw_aload_n 1111 dL_law_1110 rfl rfl rfl ?_
    refine xw_iload 1113 dL_law_1111 rfl rfl ?_
    refine xw_iconst 1114 (nI 1) dL_law_1113 rfl (xofI 1) ?_
    refine xw_iadd 1115 dL_law_1114 rfl ?_
    refine xw_ialoadR (j := i + 1) 1116 dL_law_1115 rfl (by decide) (nI_add _ _) (by omega) (by omega) ?_
    refine xw_aload_n 1117 dL_law_1116 rfl rfl rfl ?_
    refine xw_iload 1119 dL_law_1117 rfl rfl ?_
    refine xw_iconst 1120 (nI 2) dL_law_1119 rfl (xofI 2) ?_
    refine xw_iadd 1121 dL_law_1120 rfl ?_
    refine xw_ialoadR (j := i + 2) 1122 dL_law_1121 rfl (by decide) (nI_add _ _) (by omega) (by omega) ?_
    refine xw_qV 1125 dL_law_1122 rfl ok_M_bead s_L_152 ((S_M_bead rfl I)) (fun E hp9 q9 => by cases q9.1) (fun o9 hp9 q9 => by obtain ⟨_, _, q9⟩ := q9; rw [q9]; exact mH_len) (xA rfl rfl) rfl rfl rfl rfl rfl rfl rfl (fun ov9 hp9 q9 => ?_)
    obtain ⟨q1, c9, rfl⟩ := q9
    cases q1
    refine xw_istore (ls' := [(6, _), (5, _), (4, _), (0, _), (1, _), (2, _), (3, _)]) 1127 dL_law_1125 rfl rfl rfl ?_
    refine xw_aload_n 1128 dL_law_1127 rfl rfl rfl ?_
    refine xw_pV 1131 dL_law_1128 rfl ok_M_thrown s_L_94 (S_M_thrown rfl) (mH_len) (xA rfl rfl) rfl rfl rfl rfl rfl rfl rfl ?_
    refine xw_iload 1133 dL_law_1131 rfl rfl ?_
    refine xw_icmp_eq 1138 1136 dL_law_1133 rfl rfl (fun h1133 => ?_) (fun h1133 => absurd (by rw [hr]) h1133)
    refine xw_iload 1140 dL_law_1138 rfl rfl ?_
    refine xw_if_ne 1155 1143 dL_law_1140 rfl rfl (fun h1140 => ?_) (fun h1140 => absurd h1140 (nI_ne0 (by omega) (by omega)))
    refine xw_goto 1649 dL_law_1155 rfl ?_
    refine xW.pick [2, 3, 4, 5, 6] rfl ?_
    refine xW.cast (hp' := lHp (w9, (w, sv, q, n, l, co).2) sx9 (z, hi, n, l, co) (nI (rBead z ((xgr G 0).2 (i + 1)) ((xgr G 0).2 (i + 2))).1) c9 f) rfl rfl rfl ?_
    exact next _ _ _ _ _ _ (xRel_w R g9)
theorem S_case_strand (S : xSta G) (R : xRel (w, sv, q, n, l, co) (z, hi, n, l, co)) (h3 : i + 3 ≤ (xgr G 0).1) (h15 : (xgr G 0).1 ≤ 1536) (next : ∀ (s' : xCS) (sx' : xSx) (m' : xMS) (th' : Int32) (c' : mS) (f' : Nat → Int64), xRel s' m' → xW G L_law lQ 1649 [(4, .int (nI i)), (0, .retAddr 0), (1, .ref 0), (2, .ref 71), (3, .ref 82)] [] (lHp s' sx' m' th' c' f') (x + 1) t (6 * t)) : xW G L_law lQ 1158 [(4, .int (nI i)), (0, .retAddr 0), (1, .ref 0), (2, .ref 71), (3, .ref 82)] [] (lHp (w, sv, q, n, l, co) sx (z, hi, n, l, co) th c f) x (t + 1) (6 * (t + 1)) := by
  obtain ⟨I, Ag, hq, hn, -, -, -, X, -⟩ := id R
  dsimp only at I Ag hq hn X
  have J := Ag.inv I
  have hr : (rStr w ((xgr G 0).2 (i + 1)) ((xgr G 0).2 (i + 2))) = (rStr z ((xgr G 0).2 (i + 1)) ((xgr G 0).2 (i + 2))) := T_strn Ag I
  have hK : (rStr w ((xgr G 0).2 (i + 1)) ((xgr G 0).2 (i + 2))).1 ≤ 2 := K_strn
  refine xW.cast (hp' := cHp (w, sv, q, n, l, co) sx (lTO (mCq (z, hi, n, l, co) th c []) f)) rfl rfl rfl ?_
  refine xw_aload_n 1159 dL_law_1158 rfl rfl rfl ?_
  refine xw_aload_n 1160 dL_law_1159 rfl rfl rfl ?_
  refine xw_iload 1162 dL_law_1160 rfl rfl ?_
  refine xw_iconst 1163 (nI 1) dL_law_1162 rfl (xofI 1) ?_
  refine xw_iadd 1164 dL_law_1163 rfl ?_
  refine xw_ialoadR (j := i + 1) 1165 dL_law_1164 rfl (by decide) (nI_add _ _) (by omega) (by omega) ?_
  refine xw_aload_n 1166 dL_law_1165 rfl rfl rfl ?_
  refine xw_iload 1168 dL_law_1166 rfl rfl ?_
  refine xw_iconst 1169 (nI 2) dL_law_1168 rfl (xofI 2) ?_
  refine xw_iadd 1170 dL_law_1169 rfl ?_
  refine xw_ialoadR (j := i + 2) 1171 dL_law_1170 rfl (by decide) (nI_add _ _) (by omega) (by omega) ?_
  refine xw_aload_n 1172 dL_law_1171 rfl rfl rfl ?_
  refine xw_lS 1175 dL_law_1172 rfl ok_L_strand s_L_153 (S_L_strand (r := (rStr w ((xgr G 0).2 (i + 1)) ((xgr G 0).2 (i + 2)))) (s' := (w, sv, q, n, l, co)) (M := mCq (z, hi, n, l, co) th c []) (f := f) rfl hK (xQr_c (s := (w, sv, q, n, l, co)) (S_B_strand J))) rfl rfl rfl rfl rfl rfl rfl rfl (fun w9 sx9 g9 => ?_)
  by_cases e0 : (rStr w ((xgr G 0).2 (i + 1)) ((xgr G 0).2 (i + 2))).1 = 0
  · rw [if_pos e0]
    refine xw_istore (ls' := [(5, _), (4, _), (0, _), (1, _), (2, _), (3, _)]) 1177 dL_law_1175 rfl rfl rfl ?_
    refine xW.cast (hp' := (mH (cHp (w9, (w, sv, q, n, l, co).2) sx9 []) z (nI n) hi (nI l) co th c.1 c.2.1 c.2.2.1 c.2.2.2.1 c.2.2.2.2.1 c.2.2.2.2.2.1 c.2.2.2.2.2.2.1 c.2.2.2.2.2.2.2.1 c.2.2.2.2.2.2.2.2.1 c.2.2.2.2.2.2.2.2.2.1 c.2.2.2.2.2.2.2.2.2.2.1 c.2.2.2.2.2.2.2.2.2.2.2.1 c.2.2.2.2.2.2.2.2.2.2.2.2.1 c.2.2.2.2.2.2.2.2.2.2.2.2.2 [.inl (2, 1, .inr (.inl (vp_updL f 0 (rStr w ((xgr G 0).2 (i + 1)) ((xgr G 0).2 (i + 2))).2.toInt64)))])) rfl rfl rfl ?_
    refine xw_aload_n 1178 dL_law_1177 rfl rfl rfl ?_
    refine xw_aload_n 1179 dL_law_1178 rfl rfl rfl ?_
    refine xw_iload 1181 dL_law_1179 rfl rfl ?_
    refine xw_iconst 1182 (nI 1) dL_law_1181 rfl (xofI 1) ?_
    refine xw_iadd 1183 dL_law_1182 rfl ?_
    refine xw_ialoadR (j := i + 1) 1184 dL_law_1183 rfl (by decide) (nI_add _ _) (by omega) (by omega) ?_
    refine xw_aload_n 1185 dL_law_1184 rfl rfl rfl ?_
    refine xw_iload 1187 dL_law_1185 rfl rfl ?_
    refine xw_iconst 1188 (nI 2) dL_law_1187 rfl (xofI 2) ?_
    refine xw_iadd 1189 dL_law_1188 rfl ?_
    refine xw_ialoadR (j := i + 2) 1190 dL_law_1189 rfl (by decide) (nI_add _ _) (by omega) (by omega) ?_
    refine xw_qV 1193 dL_law_1190 rfl ok_M_strand s_L_155 ((S_M_strand rfl I)) (fun E hp9 q9 => by cases q9.1) (fun o9 hp9 q9 => by obtain ⟨_, _, q9⟩ := q9; rw [q9]; exact mH_len) (xA rfl rfl) rfl rfl rfl rfl rfl rfl rfl (fun ov9 hp9 q9 => ?_)
    obtain ⟨q1, c9, rfl⟩ := q9
    cases q1
    refine xw_istore (ls' := [(6, _), (5, _), (4, _), (0, _), (1, _), (2, _), (3, _)]) 1195 dL_law_1193 rfl rfl rfl ?_
    refine xw_aload_n 1196 dL_law_1195 rfl rfl rfl ?_
    refine xw_pV 1199 dL_law_1196 rfl ok_M_thrown s_L_94 (S_M_thrown rfl) (mH_len) (xA rfl rfl) rfl rfl rfl rfl rfl rfl rfl ?_
    refine xw_iload 1201 dL_law_1199 rfl rfl ?_
    refine xw_icmp_eq 1206 1204 dL_law_1201 rfl rfl (fun h1201 => ?_) (fun h1201 => absurd (by rw [hr]) h1201)
    refine xw_iload 1208 dL_law_1206 rfl rfl ?_
    refine xw_if_ne 1223 1211 dL_law_1208 rfl rfl (fun h1208 => absurd (by rw [e0]; rfl) h1208) (fun h1208 => ?_)
    refine xw_aload_n 1212 dL_law_1211 rfl rfl rfl ?_
    refine xw_iconst 1213 (nI 0) dL_law_1212 rfl (xofI 0) ?_
    refine xw_laload (j := 0) 1214 dL_law_1213 rfl (xA (j := 11) rfl rfl) (rfl) (by decide) (by omega) ?_
    refine xw_iload 1216 dL_law_1214 rfl rfl ?_
    refine xw_i2l 1217 dL_law_1216 rfl ?_
    refine xw_lcmp 1218 dL_law_1217 rfl ?_
    have hc9 : lg_cmp (vp_updL f 0 (rStr w ((xgr G 0).2 (i + 1)) ((xgr G 0).2 (i + 2))).2.toInt64 0) (rStr z ((xgr G 0).2 (i + 1)) ((xgr G 0).2 (i + 2))).2.toInt64 = 0 := by rw [show vp_updL f 0 (rStr w ((xgr G 0).2 (i + 1)) ((xgr G 0).2 (i + 2))).2.toInt64 0 = (rStr w ((xgr G 0).2 (i + 1)) ((xgr G 0).2 (i + 2))).2.toInt64 from if_pos rfl, hr, lg_cmp_self]
    refine xw_if_eq 1223 1221 dL_law_1218 rfl rfl (fun h1218 => ?_) (fun h1218 => absurd (hc9) h1218)
    refine xw_goto 1649 dL_law_1223 rfl ?_
    refine xW.pick [2, 3, 4, 5, 6] rfl ?_
    refine xW.cast (hp' := lHp (w9, (w, sv, q, n, l, co).2) sx9 (z, hi, n, l, co) (nI (rStr z ((xgr G 0).2 (i + 1)) ((xgr G 0).2 (i + 2))).1) c9 (vp_updL f 0 (rStr w ((xgr G 0).2 (i + 1)) ((xgr G 0).2 (i + 2))).2.toInt64)) rfl rfl rfl ?_
    exact next _ _ _ _ _ _ (xRel_w R g9)
  · rw [if_neg e0]
    refine xw_istore (ls' := [(5, _), (4, _), (0, _), (1, _), (2, _), (3, _)]) 1177 dL_law_1175 rfl rfl rfl ?_
    refine xW.cast (hp' := (mH (cHp (w9, (w, sv, q, n, l, co).2) sx9 []) z (nI n) hi (nI l) co th c.1 c.2.1 c.2.2.1 c.2.2.2.1 c.2.2.2.2.1 c.2.2.2.2.2.1 c.2.2.2.2.2.2.1 c.2.2.2.2.2.2.2.1 c.2.2.2.2.2.2.2.2.1 c.2.2.2.2.2.2.2.2.2.1 c.2.2.2.2.2.2.2.2.2.2.1 c.2.2.2.2.2.2.2.2.2.2.2.1 c.2.2.2.2.2.2.2.2.2.2.2.2.1 c.2.2.2.2.2.2.2.2.2.2.2.2.2 [.inl (2, 1, .inr (.inl f))])) rfl rfl rfl ?_
    refine xw_aload_n 1178 dL_law_1177 rfl rfl rfl ?_
    refine xw_aload_n 1179 dL_law_1178 rfl rfl rfl ?_
    refine xw_iload 1181 dL_law_1179 rfl rfl ?_
    refine xw_iconst 1182 (nI 1) dL_law_1181 rfl (xofI 1) ?_
    refine xw_iadd 1183 dL_law_1182 rfl ?_
    refine xw_ialoadR (j := i + 1) 1184 dL_law_1183 rfl (by decide) (nI_add _ _) (by omega) (by omega) ?_
    refine xw_aload_n 1185 dL_law_1184 rfl rfl rfl ?_
    refine xw_iload 1187 dL_law_1185 rfl rfl ?_
    refine xw_iconst 1188 (nI 2) dL_law_1187 rfl (xofI 2) ?_
    refine xw_iadd 1189 dL_law_1188 rfl ?_
    refine xw_ialoadR (j := i + 2) 1190 dL_law_1189 rfl (by decide) (nI_add _ _) (by omega) (by omega) ?_
    refine xw_qV 1193 dL_law_1190 rfl ok_M_strand s_L_155 ((S_M_strand rfl I)) (fun E hp9 q9 => by cases q9.1) (fun o9 hp9 q9 => by obtain ⟨_, _, q9⟩ := q9; rw [q9]; exact mH_len) (xA rfl rfl) rfl rfl rfl rfl rfl rfl rfl (fun ov9 hp9 q9 => ?_)
    obtain ⟨q1, c9, rfl⟩ := q9
    cases q1
    refine xw_istore (ls' := [(6, _), (5, _), (4, _), (0, _), (1, _), (2, _), (3, _)]) 1195 dL_law_1193 rfl rfl rfl ?_
    refine xw_aload_n 1196 dL_law_1195 rfl rfl rfl ?_
    refine xw_pV 1199 dL_law_1196 rfl ok_M_thrown s_L_94 (S_M_thrown rfl) (mH_len) (xA rfl rfl) rfl rfl rfl rfl rfl rfl rfl ?_
    refine xw_iload 1201 dL_law_1199 rfl rfl ?_
    refine xw_icmp_eq 1206 1204 dL_law_1201 rfl rfl (fun h1201 => ?_) (fun h1201 => absurd (by rw [hr]) h1201)
    refine xw_iload 1208 dL_law_1206 rfl rfl ?_
    refine xw_if_ne 1223 1211 dL_law_1208 rfl rfl (fun h1208 => ?_) (fun h1208 => absurd h1208 (nI_ne0 (by omega) (by omega)))
    refine xw_goto 1649 dL_law_1223 rfl ?_
    refine xW.pick [2, 3, 4, 5, 6] rfl ?_
    refine xW.cast (hp' := lHp (w9, (w, sv, q, n, l, co).2) sx9 (z, hi, n, l, co) (nI (rStr z ((xgr G 0).2 (i + 1)) ((xgr G 0).2 (i + 2))).1) c9 f) rfl rfl rfl ?_
    exact next _ _ _ _ _ _ (xRel_w R g9)
theorem S_case_colour (S : xSta G) (R : xRel (w, sv, q, n, l, co) (z, hi, n, l, co)) (h3 : i + 3 ≤ (xgr G 0).1) (h15 : (xgr G 0).1 ≤ 1536) (next : ∀ (s' : xCS) (sx' : xSx) (m' : xMS) (th' : Int32) (c' : mS) (f' : Nat → Int64), xRel s' m' → xW G L_law lQ 1649 [(4, .int (nI i)), (0, .retAddr 0), (1, .ref 0), (2, .ref 71), (3, .ref 82)] [] (lHp s' sx' m' th' c' f') (x + 1) t (6 * t)) : xW G L_law lQ 1226 [(4, .int (nI i)), (0, .retAddr 0), (1, .ref 0), (2, .ref 71), (3, .ref 82)] [] (lHp (w, sv, q, n, l, co) sx (z, hi, n, l, co) th c f) x (t + 1) (6 * (t + 1)) := by
  obtain ⟨I, Ag, hq, hn, -, -, -, X, -⟩ := id R
  dsimp only at I Ag hq hn X
  have J := Ag.inv I
  have hr : (rCol w ((xgr G 0).2 (i + 1)) ((xgr G 0).2 (i + 2))) = (rCol z ((xgr G 0).2 (i + 1)) ((xgr G 0).2 (i + 2))) := T_col Ag I
  have hK : (rCol w ((xgr G 0).2 (i + 1)) ((xgr G 0).2 (i + 2))).1 ≤ 1 := K_col
  refine xW.cast (hp' := cHp (w, sv, q, n, l, co) sx (lTO (mCq (z, hi, n, l, co) th c []) f)) rfl rfl rfl ?_
  refine xw_aload_n 1227 dL_law_1226 rfl rfl rfl ?_
  refine xw_aload_n 1228 dL_law_1227 rfl rfl rfl ?_
  refine xw_iload 1230 dL_law_1228 rfl rfl ?_
  refine xw_iconst 1231 (nI 1) dL_law_1230 rfl (xofI 1) ?_
  refine xw_iadd 1232 dL_law_1231 rfl ?_
  refine xw_ialoadR (j := i + 1) 1233 dL_law_1232 rfl (by decide) (nI_add _ _) (by omega) (by omega) ?_
  refine xw_aload_n 1234 dL_law_1233 rfl rfl rfl ?_
  refine xw_iload 1236 dL_law_1234 rfl rfl ?_
  refine xw_iconst 1237 (nI 2) dL_law_1236 rfl (xofI 2) ?_
  refine xw_iadd 1238 dL_law_1237 rfl ?_
  refine xw_ialoadR (j := i + 2) 1239 dL_law_1238 rfl (by decide) (nI_add _ _) (by omega) (by omega) ?_
  refine xw_aload_n 1240 dL_law_1239 rfl rfl rfl ?_
  refine xw_lS 1243 dL_law_1240 rfl ok_L_colour s_L_156 (S_L_colour (r := (rCol w ((xgr G 0).2 (i + 1)) ((xgr G 0).2 (i + 2)))) (s' := (w, sv, q, n, l, co)) (M := mCq (z, hi, n, l, co) th c []) (f := f) rfl hK (xQr_c (s := (w, sv, q, n, l, co)) (S_B_colour J))) rfl rfl rfl rfl rfl rfl rfl rfl (fun w9 sx9 g9 => ?_)
  by_cases e0 : (rCol w ((xgr G 0).2 (i + 1)) ((xgr G 0).2 (i + 2))).1 = 0
  · rw [if_pos e0]
    refine xw_istore (ls' := [(5, _), (4, _), (0, _), (1, _), (2, _), (3, _)]) 1245 dL_law_1243 rfl rfl rfl ?_
    refine xW.cast (hp' := (mH (cHp (w9, (w, sv, q, n, l, co).2) sx9 []) z (nI n) hi (nI l) co th c.1 c.2.1 c.2.2.1 c.2.2.2.1 c.2.2.2.2.1 c.2.2.2.2.2.1 c.2.2.2.2.2.2.1 c.2.2.2.2.2.2.2.1 c.2.2.2.2.2.2.2.2.1 c.2.2.2.2.2.2.2.2.2.1 c.2.2.2.2.2.2.2.2.2.2.1 c.2.2.2.2.2.2.2.2.2.2.2.1 c.2.2.2.2.2.2.2.2.2.2.2.2.1 c.2.2.2.2.2.2.2.2.2.2.2.2.2 [.inl (2, 1, .inr (.inl (vp_updL f 0 (rCol w ((xgr G 0).2 (i + 1)) ((xgr G 0).2 (i + 2))).2.toInt64)))])) rfl rfl rfl ?_
    refine xw_aload_n 1246 dL_law_1245 rfl rfl rfl ?_
    refine xw_aload_n 1247 dL_law_1246 rfl rfl rfl ?_
    refine xw_iload 1249 dL_law_1247 rfl rfl ?_
    refine xw_iconst 1250 (nI 1) dL_law_1249 rfl (xofI 1) ?_
    refine xw_iadd 1251 dL_law_1250 rfl ?_
    refine xw_ialoadR (j := i + 1) 1252 dL_law_1251 rfl (by decide) (nI_add _ _) (by omega) (by omega) ?_
    refine xw_aload_n 1253 dL_law_1252 rfl rfl rfl ?_
    refine xw_iload 1255 dL_law_1253 rfl rfl ?_
    refine xw_iconst 1256 (nI 2) dL_law_1255 rfl (xofI 2) ?_
    refine xw_iadd 1257 dL_law_1256 rfl ?_
    refine xw_ialoadR (j := i + 2) 1258 dL_law_1257 rfl (by decide) (nI_add _ _) (by omega) (by omega) ?_
    refine xw_qV 1261 dL_law_1258 rfl ok_M_colour s_L_158 ((S_M_colour rfl I)) (fun E hp9 q9 => by cases q9.1) (fun o9 hp9 q9 => by obtain ⟨_, _, q9⟩ := q9; rw [q9]; exact mH_len) (xA rfl rfl) rfl rfl rfl rfl rfl rfl rfl (fun ov9 hp9 q9 => ?_)
    obtain ⟨q1, c9, rfl⟩ := q9
    cases q1
    refine xw_istore (ls' := [(6, _), (5, _), (4, _), (0, _), (1, _), (2, _), (3, _)]) 1263 dL_law_1261 rfl rfl rfl ?_
    refine xw_aload_n 1264 dL_law_1263 rfl rfl rfl ?_
    refine xw_pV 1267 dL_law_1264 rfl ok_M_thrown s_L_94 (S_M_thrown rfl) (mH_len) (xA rfl rfl) rfl rfl rfl rfl rfl rfl rfl ?_
    refine xw_iload 1269 dL_law_1267 rfl rfl ?_
    refine xw_icmp_eq 1274 1272 dL_law_1269 rfl rfl (fun h1269 => ?_) (fun h1269 => absurd (by rw [hr]) h1269)
    refine xw_iload 1276 dL_law_1274 rfl rfl ?_
    refine xw_if_ne 1291 1279 dL_law_1276 rfl rfl (fun h1276 => absurd (by rw [e0]; rfl) h1276) (fun h1276 => ?_)
    refine xw_aload_n 1280 dL_law_1279 rfl rfl rfl ?_
    refine xw_iconst 1281 (nI 0) dL_law_1280 rfl (xofI 0) ?_
    refine xw_laload (j := 0) 1282 dL_law_1281 rfl (xA (j := 11) rfl rfl) (rfl) (by decide) (by omega) ?_
    refine xw_iload 1284 dL_law_1282 rfl rfl ?_
    refine xw_i2l 1285 dL_law_1284 rfl ?_
    refine xw_lcmp 1286 dL_law_1285 rfl ?_
    have hc9 : lg_cmp (vp_updL f 0 (rCol w ((xgr G 0).2 (i + 1)) ((xgr G 0).2 (i + 2))).2.toInt64 0) (rCol z ((xgr G 0).2 (i + 1)) ((xgr G 0).2 (i + 2))).2.toInt64 = 0 := by rw [show vp_updL f 0 (rCol w ((xgr G 0).2 (i + 1)) ((xgr G 0).2 (i + 2))).2.toInt64 0 = (rCol w ((xgr G 0).2 (i + 1)) ((xgr G 0).2 (i + 2))).2.toInt64 from if_pos rfl, hr, lg_cmp_self]
    refine xw_if_eq 1291 1289 dL_law_1286 rfl rfl (fun h1286 => ?_) (fun h1286 => absurd (hc9) h1286)
    refine xw_goto 1649 dL_law_1291 rfl ?_
    refine xW.pick [2, 3, 4, 5, 6] rfl ?_
    refine xW.cast (hp' := lHp (w9, (w, sv, q, n, l, co).2) sx9 (z, hi, n, l, co) (nI (rCol z ((xgr G 0).2 (i + 1)) ((xgr G 0).2 (i + 2))).1) c9 (vp_updL f 0 (rCol w ((xgr G 0).2 (i + 1)) ((xgr G 0).2 (i + 2))).2.toInt64)) rfl rfl rfl ?_
    exact next _ _ _ _ _ _ (xRel_w R g9)
  · rw [if_neg e0]
    refine xw_istore (ls' := [(5, _), (4, _), (0, _), (1, _), (2, _), (3, _)]) 1245 dL_law_1243 rfl rfl rfl ?_
    refine xW.cast (hp' := (mH (cHp (w9, (w, sv, q, n, l, co).2) sx9 []) z (nI n) hi (nI l) co th c.1 c.2.1 c.2.2.1 c.2.2.2.1 c.2.2.2.2.1 c.2.2.2.2.2.1 c.2.2.2.2.2.2.1 c.2.2.2.2.2.2.2.1 c.2.2.2.2.2.2.2.2.1 c.2.2.2.2.2.2.2.2.2.1 c.2.2.2.2.2.2.2.2.2.2.1 c.2.2.2.2.2.2.2.2.2.2.2.1 c.2.2.2.2.2.2.2.2.2.2.2.2.1 c.2.2.2.2.2.2.2.2.2.2.2.2.2 [.inl (2, 1, .inr (.inl f))])) rfl rfl rfl ?_
    refine xw_aload_n 1246 dL_law_1245 rfl rfl rfl ?_
    refine xw_aload_n 1247 dL_law_1246 rfl rfl rfl ?_
    refine xw_iload 1249 dL_law_1247 rfl rfl ?_
    refine xw_iconst 1250 (nI 1) dL_law_1249 rfl (xofI 1) ?_
    refine xw_iadd 1251 dL_law_1250 rfl ?_
    refine xw_ialoadR (j := i + 1) 1252 dL_law_1251 rfl (by decide) (nI_add _ _) (by omega) (by omega) ?_
    refine xw_aload_n 1253 dL_law_1252 rfl rfl rfl ?_
    refine xw_iload 1255 dL_law_1253 rfl rfl ?_
    refine xw_iconst 1256 (nI 2) dL_law_1255 rfl (xofI 2) ?_
    refine xw_iadd 1257 dL_law_1256 rfl ?_
    refine xw_ialoadR (j := i + 2) 1258 dL_law_1257 rfl (by decide) (nI_add _ _) (by omega) (by omega) ?_
    refine xw_qV 1261 dL_law_1258 rfl ok_M_colour s_L_158 ((S_M_colour rfl I)) (fun E hp9 q9 => by cases q9.1) (fun o9 hp9 q9 => by obtain ⟨_, _, q9⟩ := q9; rw [q9]; exact mH_len) (xA rfl rfl) rfl rfl rfl rfl rfl rfl rfl (fun ov9 hp9 q9 => ?_)
    obtain ⟨q1, c9, rfl⟩ := q9
    cases q1
    refine xw_istore (ls' := [(6, _), (5, _), (4, _), (0, _), (1, _), (2, _), (3, _)]) 1263 dL_law_1261 rfl rfl rfl ?_
    refine xw_aload_n 1264 dL_law_1263 rfl rfl rfl ?_
    refine xw_pV 1267 dL_law_1264 rfl ok_M_thrown s_L_94 (S_M_thrown rfl) (mH_len) (xA rfl rfl) rfl rfl rfl rfl rfl rfl rfl ?_
    refine xw_iload 1269 dL_law_1267 rfl rfl ?_
    refine xw_icmp_eq 1274 1272 dL_law_1269 rfl rfl (fun h1269 => ?_) (fun h1269 => absurd (by rw [hr]) h1269)
    refine xw_iload 1276 dL_law_1274 rfl rfl ?_
    refine xw_if_ne 1291 1279 dL_law_1276 rfl rfl (fun h1276 => ?_) (fun h1276 => absurd h1276 (nI_ne0 (by omega) (by omega)))
    refine xw_goto 1649 dL_law_1291 rfl ?_
    refine xW.pick [2, 3, 4, 5, 6] rfl ?_
    refine xW.cast (hp' := lHp (w9, (w, sv, q, n, l, co).2) sx9 (z, hi, n, l, co) (nI (rCol z ((xgr G 0).2 (i + 1)) ((xgr G 0).2 (i + 2))).1) c9 f) rfl rfl rfl ?_
    exact next _ _ _ _ _ _ (xRel_w R g9)
theorem S_case_count (S : xSta G) (R : xRel (w, sv, q, n, l, co) (z, hi, n, l, co)) (h3 : i + 3 ≤ (xgr G 0).1) (h15 : (xgr G 0).1 ≤ 1536) (next : ∀ (s' : xCS) (sx' : xSx) (m' : xMS) (th' : Int32) (c' : mS) (f' : Nat → Int64), xRel s' m' → xW G L_law lQ 1649 [(4, .int (nI i)), (0, .retAddr 0), (1, .ref 0), (2, .ref 71), (3, .ref 82)] [] (lHp s' sx' m' th' c' f') (x + 1) t (6 * t)) : xW G L_law lQ 1294 [(4, .int (nI i)), (0, .retAddr 0), (1, .ref 0), (2, .ref 71), (3, .ref 82)] [] (lHp (w, sv, q, n, l, co) sx (z, hi, n, l, co) th c f) x (t + 1) (6 * (t + 1)) := by
  obtain ⟨I, Ag, hq, hn, -, -, -, X, -⟩ := id R
  dsimp only at I Ag hq hn X
  have J := Ag.inv I
  have hr : (rCnt w (nI n) ((xgr G 0).2 (i + 1))) = (rCnt z (nI n) ((xgr G 0).2 (i + 1))) := T_cnt Ag I
  have hK : (rCnt w (nI n) ((xgr G 0).2 (i + 1))).1 ≤ 1 := K_cnt
  refine xW.cast (hp' := cHp (w, sv, q, n, l, co) sx (lTO (mCq (z, hi, n, l, co) th c []) f)) rfl rfl rfl ?_
  refine xw_aload_n 1295 dL_law_1294 rfl rfl rfl ?_
  refine xw_aload_n 1296 dL_law_1295 rfl rfl rfl ?_
  refine xw_iload 1298 dL_law_1296 rfl rfl ?_
  refine xw_iconst 1299 (nI 1) dL_law_1298 rfl (xofI 1) ?_
  refine xw_iadd 1300 dL_law_1299 rfl ?_
  refine xw_ialoadR (j := i + 1) 1301 dL_law_1300 rfl (by decide) (nI_add _ _) (by omega) (by omega) ?_
  refine xw_aload_n 1302 dL_law_1301 rfl rfl rfl ?_
  refine xw_lS 1305 dL_law_1302 rfl ok_L_count s_L_159 (S_L_count (r := (rCnt w (nI n) ((xgr G 0).2 (i + 1)))) (s' := (w, sv, q, n, l, co)) (M := mCq (z, hi, n, l, co) th c []) (f := f) rfl hK (xQr_c (s := (w, sv, q, n, l, co)) (S_B_count J))) rfl rfl rfl rfl rfl rfl rfl rfl (fun w9 sx9 g9 => ?_)
  by_cases e0 : (rCnt w (nI n) ((xgr G 0).2 (i + 1))).1 = 0
  · rw [if_pos e0]
    refine xw_istore (ls' := [(5, _), (4, _), (0, _), (1, _), (2, _), (3, _)]) 1307 dL_law_1305 rfl rfl rfl ?_
    refine xW.cast (hp' := (mH (cHp (w9, (w, sv, q, n, l, co).2) sx9 []) z (nI n) hi (nI l) co th c.1 c.2.1 c.2.2.1 c.2.2.2.1 c.2.2.2.2.1 c.2.2.2.2.2.1 c.2.2.2.2.2.2.1 c.2.2.2.2.2.2.2.1 c.2.2.2.2.2.2.2.2.1 c.2.2.2.2.2.2.2.2.2.1 c.2.2.2.2.2.2.2.2.2.2.1 c.2.2.2.2.2.2.2.2.2.2.2.1 c.2.2.2.2.2.2.2.2.2.2.2.2.1 c.2.2.2.2.2.2.2.2.2.2.2.2.2 [.inl (2, 1, .inr (.inl (vp_updL f 0 (rCnt w (nI n) ((xgr G 0).2 (i + 1))).2.toInt64)))])) rfl rfl rfl ?_
    refine xw_aload_n 1308 dL_law_1307 rfl rfl rfl ?_
    refine xw_aload_n 1309 dL_law_1308 rfl rfl rfl ?_
    refine xw_iload 1311 dL_law_1309 rfl rfl ?_
    refine xw_iconst 1312 (nI 1) dL_law_1311 rfl (xofI 1) ?_
    refine xw_iadd 1313 dL_law_1312 rfl ?_
    refine xw_ialoadR (j := i + 1) 1314 dL_law_1313 rfl (by decide) (nI_add _ _) (by omega) (by omega) ?_
    refine xw_qV 1317 dL_law_1314 rfl ok_M_count s_L_161 ((S_M_count rfl I)) (fun E hp9 q9 => by cases q9.1) (fun o9 hp9 q9 => by obtain ⟨_, _, q9⟩ := q9; rw [q9]; exact mH_len) (xA rfl rfl) rfl rfl rfl rfl rfl rfl rfl (fun ov9 hp9 q9 => ?_)
    obtain ⟨q1, c9, rfl⟩ := q9
    cases q1
    refine xw_istore (ls' := [(6, _), (5, _), (4, _), (0, _), (1, _), (2, _), (3, _)]) 1319 dL_law_1317 rfl rfl rfl ?_
    refine xw_aload_n 1320 dL_law_1319 rfl rfl rfl ?_
    refine xw_pV 1323 dL_law_1320 rfl ok_M_thrown s_L_94 (S_M_thrown rfl) (mH_len) (xA rfl rfl) rfl rfl rfl rfl rfl rfl rfl ?_
    refine xw_iload 1325 dL_law_1323 rfl rfl ?_
    refine xw_icmp_eq 1330 1328 dL_law_1325 rfl rfl (fun h1325 => ?_) (fun h1325 => absurd (by rw [hr]) h1325)
    refine xw_iload 1332 dL_law_1330 rfl rfl ?_
    refine xw_if_ne 1347 1335 dL_law_1332 rfl rfl (fun h1332 => absurd (by rw [e0]; rfl) h1332) (fun h1332 => ?_)
    refine xw_aload_n 1336 dL_law_1335 rfl rfl rfl ?_
    refine xw_iconst 1337 (nI 0) dL_law_1336 rfl (xofI 0) ?_
    refine xw_laload (j := 0) 1338 dL_law_1337 rfl (xA (j := 11) rfl rfl) (rfl) (by decide) (by omega) ?_
    refine xw_iload 1340 dL_law_1338 rfl rfl ?_
    refine xw_i2l 1341 dL_law_1340 rfl ?_
    refine xw_lcmp 1342 dL_law_1341 rfl ?_
    have hc9 : lg_cmp (vp_updL f 0 (rCnt w (nI n) ((xgr G 0).2 (i + 1))).2.toInt64 0) (rCnt z (nI n) ((xgr G 0).2 (i + 1))).2.toInt64 = 0 := by rw [show vp_updL f 0 (rCnt w (nI n) ((xgr G 0).2 (i + 1))).2.toInt64 0 = (rCnt w (nI n) ((xgr G 0).2 (i + 1))).2.toInt64 from if_pos rfl, hr, lg_cmp_self]
    refine xw_if_eq 1347 1345 dL_law_1342 rfl rfl (fun h1342 => ?_) (fun h1342 => absurd (hc9) h1342)
    refine xw_goto 1649 dL_law_1347 rfl ?_
    refine xW.pick [2, 3, 4, 5, 6] rfl ?_
    refine xW.cast (hp' := lHp (w9, (w, sv, q, n, l, co).2) sx9 (z, hi, n, l, co) (nI (rCnt z (nI n) ((xgr G 0).2 (i + 1))).1) c9 (vp_updL f 0 (rCnt w (nI n) ((xgr G 0).2 (i + 1))).2.toInt64)) rfl rfl rfl ?_
    exact next _ _ _ _ _ _ (xRel_w R g9)
  · rw [if_neg e0]
    refine xw_istore (ls' := [(5, _), (4, _), (0, _), (1, _), (2, _), (3, _)]) 1307 dL_law_1305 rfl rfl rfl ?_
    refine xW.cast (hp' := (mH (cHp (w9, (w, sv, q, n, l, co).2) sx9 []) z (nI n) hi (nI l) co th c.1 c.2.1 c.2.2.1 c.2.2.2.1 c.2.2.2.2.1 c.2.2.2.2.2.1 c.2.2.2.2.2.2.1 c.2.2.2.2.2.2.2.1 c.2.2.2.2.2.2.2.2.1 c.2.2.2.2.2.2.2.2.2.1 c.2.2.2.2.2.2.2.2.2.2.1 c.2.2.2.2.2.2.2.2.2.2.2.1 c.2.2.2.2.2.2.2.2.2.2.2.2.1 c.2.2.2.2.2.2.2.2.2.2.2.2.2 [.inl (2, 1, .inr (.inl f))])) rfl rfl rfl ?_
    refine xw_aload_n 1308 dL_law_1307 rfl rfl rfl ?_
    refine xw_aload_n 1309 dL_law_1308 rfl rfl rfl ?_
    refine xw_iload 1311 dL_law_1309 rfl rfl ?_
    refine xw_iconst 1312 (nI 1) dL_law_1311 rfl (xofI 1) ?_
    refine xw_iadd 1313 dL_law_1312 rfl ?_
    refine xw_ialoadR (j := i + 1) 1314 dL_law_1313 rfl (by decide) (nI_add _ _) (by omega) (by omega) ?_
    refine xw_qV 1317 dL_law_1314 rfl ok_M_count s_L_161 ((S_M_count rfl I)) (fun E hp9 q9 => by cases q9.1) (fun o9 hp9 q9 => by obtain ⟨_, _, q9⟩ := q9; rw [q9]; exact mH_len) (xA rfl rfl) rfl rfl rfl rfl rfl rfl rfl (fun ov9 hp9 q9 => ?_)
    obtain ⟨q1, c9, rfl⟩ := q9
    cases q1
    refine xw_istore (ls' := [(6, _), (5, _), (4, _), (0, _), (1, _), (2, _), (3, _)]) 1319 dL_law_1317 rfl rfl rfl ?_
    refine xw_aload_n 1320 dL_law_1319 rfl rfl rfl ?_
    refine xw_pV 1323 dL_law_1320 rfl ok_M_thrown s_L_94 (S_M_thrown rfl) (mH_len) (xA rfl rfl) rfl rfl rfl rfl rfl rfl rfl ?_
    refine xw_iload 1325 dL_law_1323 rfl rfl ?_
    refine xw_icmp_eq 1330 1328 dL_law_1325 rfl rfl (fun h1325 => ?_) (fun h1325 => absurd (by rw [hr]) h1325)
    refine xw_iload 1332 dL_law_1330 rfl rfl ?_
    refine xw_if_ne 1347 1335 dL_law_1332 rfl rfl (fun h1332 => ?_) (fun h1332 => absurd h1332 (nI_ne0 (by omega) (by omega)))
    refine xw_goto 1649 dL_law_1347 rfl ?_
    refine xW.pick [2, 3, 4, 5, 6] rfl ?_
    refine xW.cast (hp' := lHp (w9, (w, sv, q, n, l, co).2) sx9 (z, hi, n, l, co) (nI (rCnt z (nI n) ((xgr G 0).2 (i + 1))).1) c9 f) rfl rfl rfl ?_
    exact next _ _ _ _ _ _ (xRel_w R g9)
theorem S_case_setting (S : xSta G) (R : xRel (w, sv, q, n, l, co) (z, hi, n, l, co)) (h3 : i + 3 ≤ (xgr G 0).1) (h15 : (xgr G 0).1 ≤ 1536) (next : ∀ (s' : xCS) (sx' : xSx) (m' : xMS) (th' : Int32) (c' : mS) (f' : Nat → Int64), xRel s' m' → xW G L_law lQ 1649 [(4, .int (nI i)), (0, .retAddr 0), (1, .ref 0), (2, .ref 71), (3, .ref 82)] [] (lHp s' sx' m' th' c' f') (x + 1) t (6 * t)) : xW G L_law lQ 1350 [(4, .int (nI i)), (0, .retAddr 0), (1, .ref 0), (2, .ref 71), (3, .ref 82)] [] (lHp (w, sv, q, n, l, co) sx (z, hi, n, l, co) th c f) x (t + 1) (6 * (t + 1)) := by
  obtain ⟨I, Ag, hq, hn, -, -, -, X, -⟩ := id R
  dsimp only at I Ag hq hn X
  have J := Ag.inv I
  have hr : (rSet w ((xgr G 0).2 (i + 1))) = (rSet z ((xgr G 0).2 (i + 1))) := T_sett Ag I
  have hK : (rSet w ((xgr G 0).2 (i + 1))).1 ≤ 1 := K_sett
  refine xW.cast (hp' := cHp (w, sv, q, n, l, co) sx (lTO (mCq (z, hi, n, l, co) th c []) f)) rfl rfl rfl ?_
  refine xw_aload_n 1351 dL_law_1350 rfl rfl rfl ?_
  refine xw_aload_n 1352 dL_law_1351 rfl rfl rfl ?_
  refine xw_iload 1354 dL_law_1352 rfl rfl ?_
  refine xw_iconst 1355 (nI 1) dL_law_1354 rfl (xofI 1) ?_
  refine xw_iadd 1356 dL_law_1355 rfl ?_
  refine xw_ialoadR (j := i + 1) 1357 dL_law_1356 rfl (by decide) (nI_add _ _) (by omega) (by omega) ?_
  refine xw_aload_n 1358 dL_law_1357 rfl rfl rfl ?_
  refine xw_lS 1361 dL_law_1358 rfl ok_L_setting s_L_162 (S_L_setting (r := (rSet w ((xgr G 0).2 (i + 1)))) (s' := (w, sv, q, n, l, co)) (M := mCq (z, hi, n, l, co) th c []) (f := f) rfl hK (xQr_c (s := (w, sv, q, n, l, co)) (S_B_setting J))) rfl rfl rfl rfl rfl rfl rfl rfl (fun w9 sx9 g9 => ?_)
  by_cases e0 : (rSet w ((xgr G 0).2 (i + 1))).1 = 0
  · rw [if_pos e0]
    refine xw_istore (ls' := [(5, _), (4, _), (0, _), (1, _), (2, _), (3, _)]) 1363 dL_law_1361 rfl rfl rfl ?_
    refine xW.cast (hp' := (mH (cHp (w9, (w, sv, q, n, l, co).2) sx9 []) z (nI n) hi (nI l) co th c.1 c.2.1 c.2.2.1 c.2.2.2.1 c.2.2.2.2.1 c.2.2.2.2.2.1 c.2.2.2.2.2.2.1 c.2.2.2.2.2.2.2.1 c.2.2.2.2.2.2.2.2.1 c.2.2.2.2.2.2.2.2.2.1 c.2.2.2.2.2.2.2.2.2.2.1 c.2.2.2.2.2.2.2.2.2.2.2.1 c.2.2.2.2.2.2.2.2.2.2.2.2.1 c.2.2.2.2.2.2.2.2.2.2.2.2.2 [.inl (2, 1, .inr (.inl (vp_updL f 0 (rSet w ((xgr G 0).2 (i + 1))).2.toInt64)))])) rfl rfl rfl ?_
    refine xw_aload_n 1364 dL_law_1363 rfl rfl rfl ?_
    refine xw_aload_n 1365 dL_law_1364 rfl rfl rfl ?_
    refine xw_iload 1367 dL_law_1365 rfl rfl ?_
    refine xw_iconst 1368 (nI 1) dL_law_1367 rfl (xofI 1) ?_
    refine xw_iadd 1369 dL_law_1368 rfl ?_
    refine xw_ialoadR (j := i + 1) 1370 dL_law_1369 rfl (by decide) (nI_add _ _) (by omega) (by omega) ?_
    refine xw_qV 1373 dL_law_1370 rfl ok_M_setting s_L_164 ((S_M_setting rfl I)) (fun E hp9 q9 => by cases q9.1) (fun o9 hp9 q9 => by obtain ⟨_, _, q9⟩ := q9; rw [q9]; exact mH_len) (xA rfl rfl) rfl rfl rfl rfl rfl rfl rfl (fun ov9 hp9 q9 => ?_)
    obtain ⟨q1, c9, rfl⟩ := q9
    cases q1
    refine xw_istore (ls' := [(6, _), (5, _), (4, _), (0, _), (1, _), (2, _), (3, _)]) 1375 dL_law_1373 rfl rfl rfl ?_
    refine xw_aload_n 1376 dL_law_1375 rfl rfl rfl ?_
    refine xw_pV 1379 dL_law_1376 rfl ok_M_thrown s_L_94 (S_M_thrown rfl) (mH_len) (xA rfl rfl) rfl rfl rfl rfl rfl rfl rfl ?_
    refine xw_iload 1381 dL_law_1379 rfl rfl ?_
    refine xw_icmp_eq 1386 1384 dL_law_1381 rfl rfl (fun h1381 => ?_) (fun h1381 => absurd (by rw [hr]) h1381)
    refine xw_iload 1388 dL_law_1386 rfl rfl ?_
    refine xw_if_ne 1403 1391 dL_law_1388 rfl rfl (fun h1388 => absurd (by rw [e0]; rfl) h1388) (fun h1388 => ?_)
    refine xw_aload_n 1392 dL_law_1391 rfl rfl rfl ?_
    refine xw_iconst 1393 (nI 0) dL_law_1392 rfl (xofI 0) ?_
    refine xw_laload (j := 0) 1394 dL_law_1393 rfl (xA (j := 11) rfl rfl) (rfl) (by decide) (by omega) ?_
    refine xw_iload 1396 dL_law_1394 rfl rfl ?_
    refine xw_i2l 1397 dL_law_1396 rfl ?_
    refine xw_lcmp 1398 dL_law_1397 rfl ?_
    have hc9 : lg_cmp (vp_updL f 0 (rSet w ((xgr G 0).2 (i + 1))).2.toInt64 0) (rSet z ((xgr G 0).2 (i + 1))).2.toInt64 = 0 := by rw [show vp_updL f 0 (rSet w ((xgr G 0).2 (i + 1))).2.toInt64 0 = (rSet w ((xgr G 0).2 (i + 1))).2.toInt64 from if_pos rfl, hr, lg_cmp_self]
    refine xw_if_eq 1403 1401 dL_law_1398 rfl rfl (fun h1398 => ?_) (fun h1398 => absurd (hc9) h1398)
    refine xw_goto 1649 dL_law_1403 rfl ?_
    refine xW.pick [2, 3, 4, 5, 6] rfl ?_
    refine xW.cast (hp' := lHp (w9, (w, sv, q, n, l, co).2) sx9 (z, hi, n, l, co) (nI (rSet z ((xgr G 0).2 (i + 1))).1) c9 (vp_updL f 0 (rSet w ((xgr G 0).2 (i + 1))).2.toInt64)) rfl rfl rfl ?_
    exact next _ _ _ _ _ _ (xRel_w R g9)
  · rw [if_neg e0]
    refine xw_istore (ls' := [(5, _), (4, _), (0, _), (1, _), (2, _), (3, _)]) 1363 dL_law_1361 rfl rfl rfl ?_
    refine xW.cast (hp' := (mH (cHp (w9, (w, sv, q, n, l, co).2) sx9 []) z (nI n) hi (nI l) co th c.1 c.2.1 c.2.2.1 c.2.2.2.1 c.2.2.2.2.1 c.2.2.2.2.2.1 c.2.2.2.2.2.2.1 c.2.2.2.2.2.2.2.1 c.2.2.2.2.2.2.2.2.1 c.2.2.2.2.2.2.2.2.2.1 c.2.2.2.2.2.2.2.2.2.2.1 c.2.2.2.2.2.2.2.2.2.2.2.1 c.2.2.2.2.2.2.2.2.2.2.2.2.1 c.2.2.2.2.2.2.2.2.2.2.2.2.2 [.inl (2, 1, .inr (.inl f))])) rfl rfl rfl ?_
    refine xw_aload_n 1364 dL_law_1363 rfl rfl rfl ?_
    refine xw_aload_n 1365 dL_law_1364 rfl rfl rfl ?_
    refine xw_iload 1367 dL_law_1365 rfl rfl ?_
    refine xw_iconst 1368 (nI 1) dL_law_1367 rfl (xofI 1) ?_
    refine xw_iadd 1369 dL_law_1368 rfl ?_
    refine xw_ialoadR (j := i + 1) 1370 dL_law_1369 rfl (by decide) (nI_add _ _) (by omega) (by omega) ?_
    refine xw_qV 1373 dL_law_1370 rfl ok_M_setting s_L_164 ((S_M_setting rfl I)) (fun E hp9 q9 => by cases q9.1) (fun o9 hp9 q9 => by obtain ⟨_, _, q9⟩ := q9; rw [q9]; exact mH_len) (xA rfl rfl) rfl rfl rfl rfl rfl rfl rfl (fun ov9 hp9 q9 => ?_)
    obtain ⟨q1, c9, rfl⟩ := q9
    cases q1
    refine xw_istore (ls' := [(6, _), (5, _), (4, _), (0, _), (1, _), (2, _), (3, _)]) 1375 dL_law_1373 rfl rfl rfl ?_
    refine xw_aload_n 1376 dL_law_1375 rfl rfl rfl ?_
    refine xw_pV 1379 dL_law_1376 rfl ok_M_thrown s_L_94 (S_M_thrown rfl) (mH_len) (xA rfl rfl) rfl rfl rfl rfl rfl rfl rfl ?_
    refine xw_iload 1381 dL_law_1379 rfl rfl ?_
    refine xw_icmp_eq 1386 1384 dL_law_1381 rfl rfl (fun h1381 => ?_) (fun h1381 => absurd (by rw [hr]) h1381)
    refine xw_iload 1388 dL_law_1386 rfl rfl ?_
    refine xw_if_ne 1403 1391 dL_law_1388 rfl rfl (fun h1388 => ?_) (fun h1388 => absurd h1388 (nI_ne0 (by omega) (by omega)))
    refine xw_goto 1649 dL_law_1403 rfl ?_
    refine xW.pick [2, 3, 4, 5, 6] rfl ?_
    refine xW.cast (hp' := lHp (w9, (w, sv, q, n, l, co).2) sx9 (z, hi, n, l, co) (nI (rSet z ((xgr G 0).2 (i + 1))).1) c9 f) rfl rfl rfl ?_
    exact next _ _ _ _ _ _ (xRel_w R g9)
theorem S_case_needed (S : xSta G) (R : xRel (w, sv, q, n, l, co) (z, hi, n, l, co)) (h3 : i + 3 ≤ (xgr G 0).1) (h15 : (xgr G 0).1 ≤ 1536) (next : ∀ (s' : xCS) (sx' : xSx) (m' : xMS) (th' : Int32) (c' : mS) (f' : Nat → Int64), xRel s' m' → xW G L_law lQ 1649 [(4, .int (nI i)), (0, .retAddr 0), (1, .ref 0), (2, .ref 71), (3, .ref 82)] [] (lHp s' sx' m' th' c' f') (x + 1) t (6 * t)) : xW G L_law lQ 1406 [(4, .int (nI i)), (0, .retAddr 0), (1, .ref 0), (2, .ref 71), (3, .ref 82)] [] (lHp (w, sv, q, n, l, co) sx (z, hi, n, l, co) th c f) x (t + 1) (6 * (t + 1)) := by
  obtain ⟨I, Ag, hq, hn, -, -, -, X, -⟩ := id R
  dsimp only at I Ag hq hn X
  have J := Ag.inv I
  have hr : (rNee w ((xgr G 0).2 (i + 1)) ((xgr G 0).2 (i + 2))) = (rNee z ((xgr G 0).2 (i + 1)) ((xgr G 0).2 (i + 2))) := T_nee Ag I
  have hK : (rNee w ((xgr G 0).2 (i + 1)) ((xgr G 0).2 (i + 2))).1 ≤ 1 := K_nee
  refine xW.cast (hp' := cHp (w, sv, q, n, l, co) sx (lTO (mCq (z, hi, n, l, co) th c []) f)) rfl rfl rfl ?_
  refine xw_aload_n 1407 dL_law_1406 rfl rfl rfl ?_
  refine xw_aload_n 1408 dL_law_1407 rfl rfl rfl ?_
  refine xw_iload 1410 dL_law_1408 rfl rfl ?_
  refine xw_iconst 1411 (nI 1) dL_law_1410 rfl (xofI 1) ?_
  refine xw_iadd 1412 dL_law_1411 rfl ?_
  refine xw_ialoadR (j := i + 1) 1413 dL_law_1412 rfl (by decide) (nI_add _ _) (by omega) (by omega) ?_
  refine xw_aload_n 1414 dL_law_1413 rfl rfl rfl ?_
  refine xw_iload 1416 dL_law_1414 rfl rfl ?_
  refine xw_iconst 1417 (nI 2) dL_law_1416 rfl (xofI 2) ?_
  refine xw_iadd 1418 dL_law_1417 rfl ?_
  refine xw_ialoadR (j := i + 2) 1419 dL_law_1418 rfl (by decide) (nI_add _ _) (by omega) (by omega) ?_
  refine xw_aload_n 1420 dL_law_1419 rfl rfl rfl ?_
  refine xw_lS 1423 dL_law_1420 rfl ok_L_needed s_L_165 (S_L_needed (r := (rNee w ((xgr G 0).2 (i + 1)) ((xgr G 0).2 (i + 2)))) (s' := (w, sv, q, n, l, co)) (M := mCq (z, hi, n, l, co) th c []) (f := f) rfl hK (xQr_c (s := (w, sv, q, n, l, co)) (S_B_needed J))) rfl rfl rfl rfl rfl rfl rfl rfl (fun w9 sx9 g9 => ?_)
  by_cases e0 : (rNee w ((xgr G 0).2 (i + 1)) ((xgr G 0).2 (i + 2))).1 = 0
  · rw [if_pos e0]
    refine xw_istore (ls' := [(5, _), (4, _), (0, _), (1, _), (2, _), (3, _)]) 1425 dL_law_1423 rfl rfl rfl ?_
    refine xW.cast (hp' := (mH (cHp (w9, (w, sv, q, n, l, co).2) sx9 []) z (nI n) hi (nI l) co th c.1 c.2.1 c.2.2.1 c.2.2.2.1 c.2.2.2.2.1 c.2.2.2.2.2.1 c.2.2.2.2.2.2.1 c.2.2.2.2.2.2.2.1 c.2.2.2.2.2.2.2.2.1 c.2.2.2.2.2.2.2.2.2.1 c.2.2.2.2.2.2.2.2.2.2.1 c.2.2.2.2.2.2.2.2.2.2.2.1 c.2.2.2.2.2.2.2.2.2.2.2.2.1 c.2.2.2.2.2.2.2.2.2.2.2.2.2 [.inl (2, 1, .inr (.inl (vp_updL f 0 (rNee w ((xgr G 0).2 (i + 1)) ((xgr G 0).2 (i + 2))).2.toInt64)))])) rfl rfl rfl ?_
    refine xw_aload_n 1426 dL_law_1425 rfl rfl rfl ?_
    refine xw_aload_n 1427 dL_law_1426 rfl rfl rfl ?_
    refine xw_iload 1429 dL_law_1427 rfl rfl ?_
    refine xw_iconst 1430 (nI 1) dL_law_1429 rfl (xofI 1) ?_
    refine xw_iadd 1431 dL_law_1430 rfl ?_
    refine xw_ialoadR (j := i + 1) 1432 dL_law_1431 rfl (by decide) (nI_add _ _) (by omega) (by omega) ?_
    refine xw_aload_n 1433 dL_law_1432 rfl rfl rfl ?_
    refine xw_iload 1435 dL_law_1433 rfl rfl ?_
    refine xw_iconst 1436 (nI 2) dL_law_1435 rfl (xofI 2) ?_
    refine xw_iadd 1437 dL_law_1436 rfl ?_
    refine xw_ialoadR (j := i + 2) 1438 dL_law_1437 rfl (by decide) (nI_add _ _) (by omega) (by omega) ?_
    refine xw_qV 1441 dL_law_1438 rfl ok_M_needed s_L_167 ((S_M_needed rfl I)) (fun E hp9 q9 => by cases q9.1) (fun o9 hp9 q9 => by obtain ⟨_, _, q9⟩ := q9; rw [q9]; exact mH_len) (xA rfl rfl) rfl rfl rfl rfl rfl rfl rfl (fun ov9 hp9 q9 => ?_)
    obtain ⟨q1, c9, rfl⟩ := q9
    cases q1
    refine xw_istore (ls' := [(6, _), (5, _), (4, _), (0, _), (1, _), (2, _), (3, _)]) 1443 dL_law_1441 rfl rfl rfl ?_
    refine xw_aload_n 1444 dL_law_1443 rfl rfl rfl ?_
    refine xw_pV 1447 dL_law_1444 rfl ok_M_thrown s_L_94 (S_M_thrown rfl) (mH_len) (xA rfl rfl) rfl rfl rfl rfl rfl rfl rfl ?_
    refine xw_iload 1449 dL_law_1447 rfl rfl ?_
    refine xw_icmp_eq 1454 1452 dL_law_1449 rfl rfl (fun h1449 => ?_) (fun h1449 => absurd (by rw [hr]) h1449)
    refine xw_iload 1456 dL_law_1454 rfl rfl ?_
    refine xw_if_ne 1471 1459 dL_law_1456 rfl rfl (fun h1456 => absurd (by rw [e0]; rfl) h1456) (fun h1456 => ?_)
    refine xw_aload_n 1460 dL_law_1459 rfl rfl rfl ?_
    refine xw_iconst 1461 (nI 0) dL_law_1460 rfl (xofI 0) ?_
    refine xw_laload (j := 0) 1462 dL_law_1461 rfl (xA (j := 11) rfl rfl) (rfl) (by decide) (by omega) ?_
    refine xw_iload 1464 dL_law_1462 rfl rfl ?_
    refine xw_i2l 1465 dL_law_1464 rfl ?_
    refine xw_lcmp 1466 dL_law_1465 rfl ?_
    have hc9 : lg_cmp (vp_updL f 0 (rNee w ((xgr G 0).2 (i + 1)) ((xgr G 0).2 (i + 2))).2.toInt64 0) (rNee z ((xgr G 0).2 (i + 1)) ((xgr G 0).2 (i + 2))).2.toInt64 = 0 := by rw [show vp_updL f 0 (rNee w ((xgr G 0).2 (i + 1)) ((xgr G 0).2 (i + 2))).2.toInt64 0 = (rNee w ((xgr G 0).2 (i + 1)) ((xgr G 0).2 (i + 2))).2.toInt64 from if_pos rfl, hr, lg_cmp_self]
    refine xw_if_eq 1471 1469 dL_law_1466 rfl rfl (fun h1466 => ?_) (fun h1466 => absurd (hc9) h1466)
    refine xw_goto 1649 dL_law_1471 rfl ?_
    refine xW.pick [2, 3, 4, 5, 6] rfl ?_
    refine xW.cast (hp' := lHp (w9, (w, sv, q, n, l, co).2) sx9 (z, hi, n, l, co) (nI (rNee z ((xgr G 0).2 (i + 1)) ((xgr G 0).2 (i + 2))).1) c9 (vp_updL f 0 (rNee w ((xgr G 0).2 (i + 1)) ((xgr G 0).2 (i + 2))).2.toInt64)) rfl rfl rfl ?_
    exact next _ _ _ _ _ _ (xRel_w R g9)
  · rw [if_neg e0]
    refine xw_istore (ls' := [(5, _), (4, _), (0, _), (1, _), (2, _), (3, _)]) 1425 dL_law_1423 rfl rfl rfl ?_
    refine xW.cast (hp' := (mH (cHp (w9, (w, sv, q, n, l, co).2) sx9 []) z (nI n) hi (nI l) co th c.1 c.2.1 c.2.2.1 c.2.2.2.1 c.2.2.2.2.1 c.2.2.2.2.2.1 c.2.2.2.2.2.2.1 c.2.2.2.2.2.2.2.1 c.2.2.2.2.2.2.2.2.1 c.2.2.2.2.2.2.2.2.2.1 c.2.2.2.2.2.2.2.2.2.2.1 c.2.2.2.2.2.2.2.2.2.2.2.1 c.2.2.2.2.2.2.2.2.2.2.2.2.1 c.2.2.2.2.2.2.2.2.2.2.2.2.2 [.inl (2, 1, .inr (.inl f))])) rfl rfl rfl ?_
    refine xw_aload_n 1426 dL_law_1425 rfl rfl rfl ?_
    refine xw_aload_n 1427 dL_law_1426 rfl rfl rfl ?_
    refine xw_iload 1429 dL_law_1427 rfl rfl ?_
    refine xw_iconst 1430 (nI 1) dL_law_1429 rfl (xofI 1) ?_
    refine xw_iadd 1431 dL_law_1430 rfl ?_
    refine xw_ialoadR (j := i + 1) 1432 dL_law_1431 rfl (by decide) (nI_add _ _) (by omega) (by omega) ?_
    refine xw_aload_n 1433 dL_law_1432 rfl rfl rfl ?_
    refine xw_iload 1435 dL_law_1433 rfl rfl ?_
    refine xw_iconst 1436 (nI 2) dL_law_1435 rfl (xofI 2) ?_
    refine xw_iadd 1437 dL_law_1436 rfl ?_
    refine xw_ialoadR (j := i + 2) 1438 dL_law_1437 rfl (by decide) (nI_add _ _) (by omega) (by omega) ?_
    refine xw_qV 1441 dL_law_1438 rfl ok_M_needed s_L_167 ((S_M_needed rfl I)) (fun E hp9 q9 => by cases q9.1) (fun o9 hp9 q9 => by obtain ⟨_, _, q9⟩ := q9; rw [q9]; exact mH_len) (xA rfl rfl) rfl rfl rfl rfl rfl rfl rfl (fun ov9 hp9 q9 => ?_)
    obtain ⟨q1, c9, rfl⟩ := q9
    cases q1
    refine xw_istore (ls' := [(6, _), (5, _), (4, _), (0, _), (1, _), (2, _), (3, _)]) 1443 dL_law_1441 rfl rfl rfl ?_
    refine xw_aload_n 1444 dL_law_1443 rfl rfl rfl ?_
    refine xw_pV 1447 dL_law_1444 rfl ok_M_thrown s_L_94 (S_M_thrown rfl) (mH_len) (xA rfl rfl) rfl rfl rfl rfl rfl rfl rfl ?_
    refine xw_iload 1449 dL_law_1447 rfl rfl ?_
    refine xw_icmp_eq 1454 1452 dL_law_1449 rfl rfl (fun h1449 => ?_) (fun h1449 => absurd (by rw [hr]) h1449)
    refine xw_iload 1456 dL_law_1454 rfl rfl ?_
    refine xw_if_ne 1471 1459 dL_law_1456 rfl rfl (fun h1456 => ?_) (fun h1456 => absurd h1456 (nI_ne0 (by omega) (by omega)))
    refine xw_goto 1649 dL_law_1471 rfl ?_
    refine xW.pick [2, 3, 4, 5, 6] rfl ?_
    refine xW.cast (hp' := lHp (w9, (w, sv, q, n, l, co).2) sx9 (z, hi, n, l, co) (nI (rNee z ((xgr G 0).2 (i + 1)) ((xgr G 0).2 (i + 2))).1) c9 f) rfl rfl rfl ?_
    exact next _ _ _ _ _ _ (xRel_w R g9)
theorem S_case_plan (S : xSta G) (R : xRel (w, sv, q, n, l, co) (z, hi, n, l, co)) (h3 : i + 3 ≤ (xgr G 0).1) (h15 : (xgr G 0).1 ≤ 1536) (next : ∀ (s' : xCS) (sx' : xSx) (m' : xMS) (th' : Int32) (c' : mS) (f' : Nat → Int64), xRel s' m' → xW G L_law lQ 1649 [(4, .int (nI i)), (0, .retAddr 0), (1, .ref 0), (2, .ref 71), (3, .ref 82)] [] (lHp s' sx' m' th' c' f') (x + 1) t (6 * t)) : xW G L_law lQ 1474 [(4, .int (nI i)), (0, .retAddr 0), (1, .ref 0), (2, .ref 71), (3, .ref 82)] [] (lHp (w, sv, q, n, l, co) sx (z, hi, n, l, co) th c f) x (t + 1) (6 * (t + 1)) := by
  obtain ⟨I, Ag, hq, hn, -, -, -, X, -⟩ := id R
  dsimp only at I Ag hq hn X
  have J := Ag.inv I
  have hr : (rPlan w ((xgr G 0).2 (i + 1)) ((xgr G 0).2 (i + 2))) = (rPlan z ((xgr G 0).2 (i + 1)) ((xgr G 0).2 (i + 2))) := T_plan Ag I
  have hK : (rPlan w ((xgr G 0).2 (i + 1)) ((xgr G 0).2 (i + 2))).1 ≤ 1 := K_plan
  refine xW.cast (hp' := cHp (w, sv, q, n, l, co) sx (lTO (mCq (z, hi, n, l, co) th c []) f)) rfl rfl rfl ?_
  refine xw_aload_n 1475 dL_law_1474 rfl rfl rfl ?_
  refine xw_aload_n 1476 dL_law_1475 rfl rfl rfl ?_
  refine xw_iload 1478 dL_law_1476 rfl rfl ?_
  refine xw_iconst 1479 (nI 1) dL_law_1478 rfl (xofI 1) ?_
  refine xw_iadd 1480 dL_law_1479 rfl ?_
  refine xw_ialoadR (j := i + 1) 1481 dL_law_1480 rfl (by decide) (nI_add _ _) (by omega) (by omega) ?_
  refine xw_aload_n 1482 dL_law_1481 rfl rfl rfl ?_
  refine xw_iload 1484 dL_law_1482 rfl rfl ?_
  refine xw_iconst 1485 (nI 2) dL_law_1484 rfl (xofI 2) ?_
  refine xw_iadd 1486 dL_law_1485 rfl ?_
  refine xw_ialoadR (j := i + 2) 1487 dL_law_1486 rfl (by decide) (nI_add _ _) (by omega) (by omega) ?_
  refine xw_aload_n 1488 dL_law_1487 rfl rfl rfl ?_
  refine xw_lS 1491 dL_law_1488 rfl ok_L_plan s_L_168 (S_L_plan (r := (rPlan w ((xgr G 0).2 (i + 1)) ((xgr G 0).2 (i + 2)))) (s' := (w, sv, q, n, l, co)) (M := mCq (z, hi, n, l, co) th c []) (f := f) rfl hK (xQr_c (s := (w, sv, q, n, l, co)) (S_B_plan J))) rfl rfl rfl rfl rfl rfl rfl rfl (fun w9 sx9 g9 => ?_)
  by_cases e0 : (rPlan w ((xgr G 0).2 (i + 1)) ((xgr G 0).2 (i + 2))).1 = 0
  · rw [if_pos e0]
    refine xw_istore (ls' := [(5, _), (4, _), (0, _), (1, _), (2, _), (3, _)]) 1493 dL_law_1491 rfl rfl rfl ?_
    refine xW.cast (hp' := (mH (cHp (w9, (w, sv, q, n, l, co).2) sx9 []) z (nI n) hi (nI l) co th c.1 c.2.1 c.2.2.1 c.2.2.2.1 c.2.2.2.2.1 c.2.2.2.2.2.1 c.2.2.2.2.2.2.1 c.2.2.2.2.2.2.2.1 c.2.2.2.2.2.2.2.2.1 c.2.2.2.2.2.2.2.2.2.1 c.2.2.2.2.2.2.2.2.2.2.1 c.2.2.2.2.2.2.2.2.2.2.2.1 c.2.2.2.2.2.2.2.2.2.2.2.2.1 c.2.2.2.2.2.2.2.2.2.2.2.2.2 [.inl (2, 1, .inr (.inl (vp_updL f 0 (rPlan w ((xgr G 0).2 (i + 1)) ((xgr G 0).2 (i + 2))).2.toInt64)))])) rfl rfl rfl ?_
    refine xw_aload_n 1494 dL_law_1493 rfl rfl rfl ?_
    refine xw_aload_n 1495 dL_law_1494 rfl rfl rfl ?_
    refine xw_iload 1497 dL_law_1495 rfl rfl ?_
    refine xw_iconst 1498 (nI 1) dL_law_1497 rfl (xofI 1) ?_
    refine xw_iadd 1499 dL_law_1498 rfl ?_
    refine xw_ialoadR (j := i + 1) 1500 dL_law_1499 rfl (by decide) (nI_add _ _) (by omega) (by omega) ?_
    refine xw_aload_n 1501 dL_law_1500 rfl rfl rfl ?_
    refine xw_iload 1503 dL_law_1501 rfl rfl ?_
    refine xw_iconst 1504 (nI 2) dL_law_1503 rfl (xofI 2) ?_
    refine xw_iadd 1505 dL_law_1504 rfl ?_
    refine xw_ialoadR (j := i + 2) 1506 dL_law_1505 rfl (by decide) (nI_add _ _) (by omega) (by omega) ?_
    refine xw_qV 1509 dL_law_1506 rfl ok_M_plan s_L_170 ((S_M_plan rfl I)) (fun E hp9 q9 => by cases q9.1) (fun o9 hp9 q9 => by obtain ⟨_, _, q9⟩ := q9; rw [q9]; exact mH_len) (xA rfl rfl) rfl rfl rfl rfl rfl rfl rfl (fun ov9 hp9 q9 => ?_)
    obtain ⟨q1, c9, rfl⟩ := q9
    cases q1
    refine xw_istore (ls' := [(6, _), (5, _), (4, _), (0, _), (1, _), (2, _), (3, _)]) 1511 dL_law_1509 rfl rfl rfl ?_
    refine xw_aload_n 1512 dL_law_1511 rfl rfl rfl ?_
    refine xw_pV 1515 dL_law_1512 rfl ok_M_thrown s_L_94 (S_M_thrown rfl) (mH_len) (xA rfl rfl) rfl rfl rfl rfl rfl rfl rfl ?_
    refine xw_iload 1517 dL_law_1515 rfl rfl ?_
    refine xw_icmp_eq 1522 1520 dL_law_1517 rfl rfl (fun h1517 => ?_) (fun h1517 => absurd (by rw [hr]) h1517)
    refine xw_iload 1524 dL_law_1522 rfl rfl ?_
    refine xw_if_ne 1539 1527 dL_law_1524 rfl rfl (fun h1524 => absurd (by rw [e0]; rfl) h1524) (fun h1524 => ?_)
    refine xw_aload_n 1528 dL_law_1527 rfl rfl rfl ?_
    refine xw_iconst 1529 (nI 0) dL_law_1528 rfl (xofI 0) ?_
    refine xw_laload (j := 0) 1530 dL_law_1529 rfl (xA (j := 11) rfl rfl) (rfl) (by decide) (by omega) ?_
    refine xw_iload 1532 dL_law_1530 rfl rfl ?_
    refine xw_i2l 1533 dL_law_1532 rfl ?_
    refine xw_lcmp 1534 dL_law_1533 rfl ?_
    have hc9 : lg_cmp (vp_updL f 0 (rPlan w ((xgr G 0).2 (i + 1)) ((xgr G 0).2 (i + 2))).2.toInt64 0) (rPlan z ((xgr G 0).2 (i + 1)) ((xgr G 0).2 (i + 2))).2.toInt64 = 0 := by rw [show vp_updL f 0 (rPlan w ((xgr G 0).2 (i + 1)) ((xgr G 0).2 (i + 2))).2.toInt64 0 = (rPlan w ((xgr G 0).2 (i + 1)) ((xgr G 0).2 (i + 2))).2.toInt64 from if_pos rfl, hr, lg_cmp_self]
    refine xw_if_eq 1539 1537 dL_law_1534 rfl rfl (fun h1534 => ?_) (fun h1534 => absurd (hc9) h1534)
    refine xw_goto 1649 dL_law_1539 rfl ?_
    refine xW.pick [2, 3, 4, 5, 6] rfl ?_
    refine xW.cast (hp' := lHp (w9, (w, sv, q, n, l, co).2) sx9 (z, hi, n, l, co) (nI (rPlan z ((xgr G 0).2 (i + 1)) ((xgr G 0).2 (i + 2))).1) c9 (vp_updL f 0 (rPlan w ((xgr G 0).2 (i + 1)) ((xgr G 0).2 (i + 2))).2.toInt64)) rfl rfl rfl ?_
    exact next _ _ _ _ _ _ (xRel_w R g9)
  · rw [if_neg e0]
    refine xw_istore (ls' := [(5, _), (4, _), (0, _), (1, _), (2, _), (3, _)]) 1493 dL_law_1491 rfl rfl rfl ?_
    refine xW.cast (hp' := (mH (cHp (w9, (w, sv, q, n, l, co).2) sx9 []) z (nI n) hi (nI l) co th c.1 c.2.1 c.2.2.1 c.2.2.2.1 c.2.2.2.2.1 c.2.2.2.2.2.1 c.2.2.2.2.2.2.1 c.2.2.2.2.2.2.2.1 c.2.2.2.2.2.2.2.2.1 c.2.2.2.2.2.2.2.2.2.1 c.2.2.2.2.2.2.2.2.2.2.1 c.2.2.2.2.2.2.2.2.2.2.2.1 c.2.2.2.2.2.2.2.2.2.2.2.2.1 c.2.2.2.2.2.2.2.2.2.2.2.2.2 [.inl (2, 1, .inr (.inl f))])) rfl rfl rfl ?_
    refine xw_aload_n 1494 dL_law_1493 rfl rfl rfl ?_
    refine xw_aload_n 1495 dL_law_1494 rfl rfl rfl ?_
    refine xw_iload 1497 dL_law_1495 rfl rfl ?_
    refine xw_iconst 1498 (nI 1) dL_law_1497 rfl (xofI 1) ?_
    refine xw_iadd 1499 dL_law_1498 rfl ?_
    refine xw_ialoadR (j := i + 1) 1500 dL_law_1499 rfl (by decide) (nI_add _ _) (by omega) (by omega) ?_
    refine xw_aload_n 1501 dL_law_1500 rfl rfl rfl ?_
    refine xw_iload 1503 dL_law_1501 rfl rfl ?_
    refine xw_iconst 1504 (nI 2) dL_law_1503 rfl (xofI 2) ?_
    refine xw_iadd 1505 dL_law_1504 rfl ?_
    refine xw_ialoadR (j := i + 2) 1506 dL_law_1505 rfl (by decide) (nI_add _ _) (by omega) (by omega) ?_
    refine xw_qV 1509 dL_law_1506 rfl ok_M_plan s_L_170 ((S_M_plan rfl I)) (fun E hp9 q9 => by cases q9.1) (fun o9 hp9 q9 => by obtain ⟨_, _, q9⟩ := q9; rw [q9]; exact mH_len) (xA rfl rfl) rfl rfl rfl rfl rfl rfl rfl (fun ov9 hp9 q9 => ?_)
    obtain ⟨q1, c9, rfl⟩ := q9
    cases q1
    refine xw_istore (ls' := [(6, _), (5, _), (4, _), (0, _), (1, _), (2, _), (3, _)]) 1511 dL_law_1509 rfl rfl rfl ?_
    refine xw_aload_n 1512 dL_law_1511 rfl rfl rfl ?_
    refine xw_pV 1515 dL_law_1512 rfl ok_M_thrown s_L_94 (S_M_thrown rfl) (mH_len) (xA rfl rfl) rfl rfl rfl rfl rfl rfl rfl ?_
    refine xw_iload 1517 dL_law_1515 rfl rfl ?_
    refine xw_icmp_eq 1522 1520 dL_law_1517 rfl rfl (fun h1517 => ?_) (fun h1517 => absurd (by rw [hr]) h1517)
    refine xw_iload 1524 dL_law_1522 rfl rfl ?_
    refine xw_if_ne 1539 1527 dL_law_1524 rfl rfl (fun h1524 => ?_) (fun h1524 => absurd h1524 (nI_ne0 (by omega) (by omega)))
    refine xw_goto 1649 dL_law_1539 rfl ?_
    refine xW.pick [2, 3, 4, 5, 6] rfl ?_
    refine xW.cast (hp' := lHp (w9, (w, sv, q, n, l, co).2) sx9 (z, hi, n, l, co) (nI (rPlan z ((xgr G 0).2 (i + 1)) ((xgr G 0).2 (i + 2))).1) c9 f) rfl rfl rfl ?_
    exact next _ _ _ _ _ _ (xRel_w R g9)
end P62

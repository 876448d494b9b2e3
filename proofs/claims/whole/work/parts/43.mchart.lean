/-! ===== the model: charts turned, recoloured; settings, beads bought, characters ===== -/
section P43
variable {G : xG} {x : Nat} {A T : List xE} {z hi tx ot wa pR pC pM fe kc : Nat → Int32} {s ln : Nat} {th oR oC ps rr ha nu : Int32} {hs : Int64}
theorem S_M_layTurned {how : Nat} (hA : A.length = 71) (I : xInv z) (hh : how < 5) (h4 : how = 4 → zI z 5 ≤ 10) : xMet G M_layTurned [.ref 71, .int (nI how)] (mH A z (nI s) hi (nI ln) tx th ot oR oC wa pR pC pM ps rr ha nu fe kc hs T) x 0 0 (xRet none (mH A z (nI s) hi (nI ln) tx th (xlay (xtc (fun k => z (27 + k)) (zI z 4) (zI z 5) how) ot (zTR z how) (zTC z how)) (nI (zTR z how)) (nI (zTC z how)) wa pR pC pM ps rr ha nu fe kc hs T)) := by
  have hA1 := I.iA.2.1
  have hA2 := I.iA.2.2
  have hS2 := I.iS.2.2
  have hR1 := I.iR.2.1
  have hR2 := I.iR.2.2
  have hC1 := I.iC.2.1
  have hC2 := I.iC.2.2
  have hM2 := I.iM.2.2
  have hK1 := I.iK.2.1
  have hK2 := I.iK.2.2
  have hR10 : zTR z how ≤ 10 ∧ 1 ≤ zTR z how := by unfold zTR; split <;> omega
  have hC12 : zTC z how ≤ 12 := by unfold zTC; split <;> omega
  have hC0 : 1 ≤ zTC z how := by unfold zTC; split <;> omega
  have inner : ∀ (i : Nat), i < zTR z how → xW G M_layTurned (xRet none (mH A z (nI s) hi (nI ln) tx th (xlay (xtc (fun k => z (27 + k)) (zI z 4) (zI z 5) how) ot (zTR z how) (zTC z how)) (nI (zTR z how)) (nI (zTC z how)) wa pR pC pM ps rr ha nu fe kc hs T)) 50 [(2, .int (nI (i + 1))), (0, .ref 71), (1, .int (nI how))] [] (mH A z (nI s) hi (nI ln) tx th (xlayP (xtc (fun k => z (27 + k)) (zI z 4) (zI z 5) how) ot (i + 1) 0 (zTC z how)) (nI (zTR z how)) (nI (zTC z how)) wa pR pC pM ps rr ha nu fe kc hs T) x 0 0 →
      ∀ (t j : Nat), j + t = zTC z how → xW G M_layTurned (xRet none (mH A z (nI s) hi (nI ln) tx th (xlay (xtc (fun k => z (27 + k)) (zI z 4) (zI z 5) how) ot (zTR z how) (zTC z how)) (nI (zTR z how)) (nI (zTC z how)) wa pR pC pM ps rr ha nu fe kc hs T)) 60 [(3, .int (nI j)), (2, .int (nI i)), (0, .ref 71), (1, .int (nI how))] [] (mH A z (nI s) hi (nI ln) tx th (xlayP (xtc (fun k => z (27 + k)) (zI z 4) (zI z 5) how) ot i j (zTC z how)) (nI (zTR z how)) (nI (zTC z how)) wa pR pC pM ps rr ha nu fe kc hs T) x 0 0 := by
    intro i hi8 kk t
    induction t with
    | zero =>
      intro j hj9
      have e : j = zTC z how := by omega
      rw [e, xlayP_r]
      refine xw_iload_n 61 dX5_layTurned_60 rfl rfl ?_
      refine xw_aload_n 62 dX5_layTurned_61 rfl rfl rfl ?_
      refine xw_get 65 dX5_layTurned_62 rfl f_X5_78 (xA hA rfl) rfl ?_
      refine xw_icmp_ge 180 68 dX5_layTurned_65 rfl rfl (fun h65 => ?_) (fun h65 => absurd (nI_le (Nat.le_refl _) (by omega)) h65)
      refine xw_iinc (ls' := [(2, _), (3, _), (0, _), (1, _)]) 183 _ dX5_layTurned_180 rfl rfl (xnI_inc _) rfl rfl ?_
      refine xw_goto 50 dX5_layTurned_183 rfl ?_
      exact xW.pick [0, 2, 3] rfl (kk)
    | succ t ih =>
      intro j hj9
      have ih := ih (j + 1) (by omega)
      have hj : j < zTC z how := by omega
      rcases (show how = 0 ∨ how = 1 ∨ how = 2 ∨ how = 3 ∨ how = 4 by omega) with rfl | rfl | rfl | rfl | rfl
      · have a1 : zTR z 0 = zI z 4 := rfl
        have a2 : zTC z 0 = zI z 5 := rfl
        refine xw_iload_n 61 dX5_layTurned_60 rfl rfl ?_
        refine xw_aload_n 62 dX5_layTurned_61 rfl rfl rfl ?_
        refine xw_get 65 dX5_layTurned_62 rfl f_X5_78 (xA hA rfl) rfl ?_
        refine xw_icmp_ge 180 68 dX5_layTurned_65 rfl rfl (fun h65 => absurd h65 (nI_ge (by omega) (by omega))) (fun h65 => ?_)
        refine xw_iload_n 69 dX5_layTurned_68 rfl rfl ?_
        refine xw_iconst 70 (nI 1) dX5_layTurned_69 rfl (xofI 1) ?_
        refine xw_icmp_ne 84 73 dX5_layTurned_70 rfl rfl (fun h70 => ?_) (fun h70 => absurd h70 (by decide))
        refine xw_iload_n 85 dX5_layTurned_84 rfl rfl ?_
        refine xw_iconst 86 (nI 3) dX5_layTurned_85 rfl (xofI 3) ?_
        refine xw_icmp_ne 100 89 dX5_layTurned_86 rfl rfl (fun h86 => ?_) (fun h86 => absurd h86 (by decide))
        refine xw_iload_n 101 dX5_layTurned_100 rfl rfl ?_
        refine xw_iconst 102 (nI 4) dX5_layTurned_101 rfl (xofI 4) ?_
        refine xw_icmp_ne 109 105 dX5_layTurned_102 rfl rfl (fun h102 => ?_) (fun h102 => absurd h102 (by decide))
        refine xw_iload_n 110 dX5_layTurned_109 rfl rfl ?_
        refine xw_istore (ls' := [(4, _), (3, _), (2, _), (0, _), (1, _)]) 112 dX5_layTurned_110 rfl rfl rfl ?_
        refine xw_iload_n 113 dX5_layTurned_112 rfl rfl ?_
        refine xw_if_ne 127 116 dX5_layTurned_113 rfl rfl (fun h113 => absurd (rfl) h113) (fun h113 => ?_)
        refine xw_aload_n 117 dX5_layTurned_116 rfl rfl rfl ?_
        refine xw_get 120 dX5_layTurned_117 rfl f_X5_78 (xA hA rfl) rfl ?_
        refine xw_iconst 121 (nI 1) dX5_layTurned_120 rfl (xofI 1) ?_
        refine xw_isub 122 dX5_layTurned_121 rfl ?_
        refine xw_iload_n 123 dX5_layTurned_122 rfl rfl ?_
        refine xw_isub 124 dX5_layTurned_123 rfl ?_
        rw [nI_1s (by omega), pk_sub (by omega)]
        refine xw_goto 153 dX5_layTurned_124 rfl ?_
        refine xw_istore (ls' := [(5, _), (4, _), (3, _), (2, _), (0, _), (1, _)]) 155 dX5_layTurned_153 rfl rfl rfl ?_
        refine xw_aload_n 156 dX5_layTurned_155 rfl rfl rfl ?_
        refine xw_get 159 dX5_layTurned_156 rfl f_X5_19 (xA hA rfl) rfl ?_
        refine xw_bipush 161 (nI 12) dX5_layTurned_159 rfl (by decide) ?_
        refine xw_iload_n 162 dX5_layTurned_161 rfl rfl ?_
        refine xw_imul 163 dX5_layTurned_162 rfl ?_
        refine xw_iload_n 164 dX5_layTurned_163 rfl rfl ?_
        refine xw_iadd 165 dX5_layTurned_164 rfl ?_
        rw [pk_mul, nI_add]
        refine xw_aload_n 166 dX5_layTurned_165 rfl rfl rfl ?_
        refine xw_iload 168 dX5_layTurned_166 rfl rfl ?_
        refine xw_iload 170 dX5_layTurned_168 rfl rfl ?_
        refine xw_pV 173 dX5_layTurned_170 rfl ok_M_chartAt s_X5_61 (S_M_chartAt (r := i) (c := (zTC z 0 - 1 - j)) (xA hA rfl) (xA hA rfl) (by omega)) (mH_len) (xA hA rfl) rfl rfl rfl rfl rfl rfl rfl ?_
        refine xw_iastore (j := i * 12 + j) (hp' := (mH A z (nI s) hi (nI ln) tx th (xlayP (xtc (fun k => z (27 + k)) (zI z 4) (zI z 5) 0) ot i (j + 1) (zTC z 0)) (nI (zTR z 0)) (nI (zTC z 0)) wa pR pC pM ps rr ha nu fe kc hs T)) 174 dX5_layTurned_173 rfl (xA hA rfl) (congrArg nI (by omega)) (by omega) (by omega) (by rw [← xlayP_s (xtc (fun k => z (27 + k)) (zI z 4) (zI z 5) 0) ot (r := i) hj hC12]; exact xAs hA rfl) ?_
        refine xw_iinc (ls' := [(3, _), (5, _), (4, _), (2, _), (0, _), (1, _)]) 177 _ dX5_layTurned_174 rfl rfl (xnI_inc _) rfl rfl ?_
        refine xw_goto 60 dX5_layTurned_177 rfl ?_
        exact xW.pick [0, 3, 4, 5] rfl (ih)
      · have a1 : zTR z 1 = zI z 4 := rfl
        have a2 : zTC z 1 = zI z 5 := rfl
        refine xw_iload_n 61 dX5_layTurned_60 rfl rfl ?_
        refine xw_aload_n 62 dX5_layTurned_61 rfl rfl rfl ?_
        refine xw_get 65 dX5_layTurned_62 rfl f_X5_78 (xA hA rfl) rfl ?_
        refine xw_icmp_ge 180 68 dX5_layTurned_65 rfl rfl (fun h65 => absurd h65 (nI_ge (by omega) (by omega))) (fun h65 => ?_)
        refine xw_iload_n 69 dX5_layTurned_68 rfl rfl ?_
        refine xw_iconst 70 (nI 1) dX5_layTurned_69 rfl (xofI 1) ?_
        refine xw_icmp_ne 84 73 dX5_layTurned_70 rfl rfl (fun h70 => absurd (rfl) h70) (fun h70 => ?_)
        refine xw_aload_n 74 dX5_layTurned_73 rfl rfl rfl ?_
        refine xw_get 77 dX5_layTurned_74 rfl f_X5_75 (xA hA rfl) rfl ?_
        refine xw_iconst 78 (nI 1) dX5_layTurned_77 rfl (xofI 1) ?_
        refine xw_isub 79 dX5_layTurned_78 rfl ?_
        refine xw_iload_n 80 dX5_layTurned_79 rfl rfl ?_
        refine xw_isub 81 dX5_layTurned_80 rfl ?_
        rw [nI_1s (by omega), pk_sub (by omega)]
        refine xw_goto 110 dX5_layTurned_81 rfl ?_
        refine xw_istore (ls' := [(4, _), (3, _), (2, _), (0, _), (1, _)]) 112 dX5_layTurned_110 rfl rfl rfl ?_
        refine xw_iload_n 113 dX5_layTurned_112 rfl rfl ?_
        refine xw_if_ne 127 116 dX5_layTurned_113 rfl rfl (fun h113 => ?_) (fun h113 => absurd h113 (by decide))
        refine xw_iload_n 128 dX5_layTurned_127 rfl rfl ?_
        refine xw_iconst 129 (nI 2) dX5_layTurned_128 rfl (xofI 2) ?_
        refine xw_icmp_ne 143 132 dX5_layTurned_129 rfl rfl (fun h129 => ?_) (fun h129 => absurd h129 (by decide))
        refine xw_iload_n 144 dX5_layTurned_143 rfl rfl ?_
        refine xw_iconst 145 (nI 4) dX5_layTurned_144 rfl (xofI 4) ?_
        refine xw_icmp_ne 152 148 dX5_layTurned_145 rfl rfl (fun h145 => ?_) (fun h145 => absurd h145 (by decide))
        refine xw_iload_n 153 dX5_layTurned_152 rfl rfl ?_
        refine xw_istore (ls' := [(5, _), (4, _), (3, _), (2, _), (0, _), (1, _)]) 155 dX5_layTurned_153 rfl rfl rfl ?_
        refine xw_aload_n 156 dX5_layTurned_155 rfl rfl rfl ?_
        refine xw_get 159 dX5_layTurned_156 rfl f_X5_19 (xA hA rfl) rfl ?_
        refine xw_bipush 161 (nI 12) dX5_layTurned_159 rfl (by decide) ?_
        refine xw_iload_n 162 dX5_layTurned_161 rfl rfl ?_
        refine xw_imul 163 dX5_layTurned_162 rfl ?_
        refine xw_iload_n 164 dX5_layTurned_163 rfl rfl ?_
        refine xw_iadd 165 dX5_layTurned_164 rfl ?_
        rw [pk_mul, nI_add]
        refine xw_aload_n 166 dX5_layTurned_165 rfl rfl rfl ?_
        refine xw_iload 168 dX5_layTurned_166 rfl rfl ?_
        refine xw_iload 170 dX5_layTurned_168 rfl rfl ?_
        refine xw_pV 173 dX5_layTurned_170 rfl ok_M_chartAt s_X5_61 (S_M_chartAt (r := (zTR z 1 - 1 - i)) (c := j) (xA hA rfl) (xA hA rfl) (by omega)) (mH_len) (xA hA rfl) rfl rfl rfl rfl rfl rfl rfl ?_
        refine xw_iastore (j := i * 12 + j) (hp' := (mH A z (nI s) hi (nI ln) tx th (xlayP (xtc (fun k => z (27 + k)) (zI z 4) (zI z 5) 1) ot i (j + 1) (zTC z 1)) (nI (zTR z 1)) (nI (zTC z 1)) wa pR pC pM ps rr ha nu fe kc hs T)) 174 dX5_layTurned_173 rfl (xA hA rfl) (congrArg nI (by omega)) (by omega) (by omega) (by rw [← xlayP_s (xtc (fun k => z (27 + k)) (zI z 4) (zI z 5) 1) ot (r := i) hj hC12]; exact xAs hA rfl) ?_
        refine xw_iinc (ls' := [(3, _), (5, _), (4, _), (2, _), (0, _), (1, _)]) 177 _ dX5_layTurned_174 rfl rfl (xnI_inc _) rfl rfl ?_
        refine xw_goto 60 dX5_layTurned_177 rfl ?_
        exact xW.pick [0, 3, 4, 5] rfl (ih)
      · have a1 : zTR z 2 = zI z 4 := rfl
        have a2 : zTC z 2 = zI z 5 := rfl
        refine xw_iload_n 61 dX5_layTurned_60 rfl rfl ?_
        refine xw_aload_n 62 dX5_layTurned_61 rfl rfl rfl ?_
        refine xw_get 65 dX5_layTurned_62 rfl f_X5_78 (xA hA rfl) rfl ?_
        have hmod := Nat.mod_lt (j + 1) (show 0 < zTC z 2 by omega)
        refine xw_icmp_ge 180 68 dX5_layTurned_65 rfl rfl (fun h65 => absurd h65 (nI_ge (by omega) (by omega))) (fun h65 => ?_)
        refine xw_iload_n 69 dX5_layTurned_68 rfl rfl ?_
        refine xw_iconst 70 (nI 1) dX5_layTurned_69 rfl (xofI 1) ?_
        refine xw_icmp_ne 84 73 dX5_layTurned_70 rfl rfl (fun h70 => ?_) (fun h70 => absurd h70 (by decide))
        refine xw_iload_n 85 dX5_layTurned_84 rfl rfl ?_
        refine xw_iconst 86 (nI 3) dX5_layTurned_85 rfl (xofI 3) ?_
        refine xw_icmp_ne 100 89 dX5_layTurned_86 rfl rfl (fun h86 => ?_) (fun h86 => absurd h86 (by decide))
        refine xw_iload_n 101 dX5_layTurned_100 rfl rfl ?_
        refine xw_iconst 102 (nI 4) dX5_layTurned_101 rfl (xofI 4) ?_
        refine xw_icmp_ne 109 105 dX5_layTurned_102 rfl rfl (fun h102 => ?_) (fun h102 => absurd h102 (by decide))
        refine xw_iload_n 110 dX5_layTurned_109 rfl rfl ?_
        refine xw_istore (ls' := [(4, _), (3, _), (2, _), (0, _), (1, _)]) 112 dX5_layTurned_110 rfl rfl rfl ?_
        refine xw_iload_n 113 dX5_layTurned_112 rfl rfl ?_
        refine xw_if_ne 127 116 dX5_layTurned_113 rfl rfl (fun h113 => ?_) (fun h113 => absurd h113 (by decide))
        refine xw_iload_n 128 dX5_layTurned_127 rfl rfl ?_
        refine xw_iconst 129 (nI 2) dX5_layTurned_128 rfl (xofI 2) ?_
        refine xw_icmp_ne 143 132 dX5_layTurned_129 rfl rfl (fun h129 => absurd (rfl) h129) (fun h129 => ?_)
        refine xw_iload_n 133 dX5_layTurned_132 rfl rfl ?_
        refine xw_iconst 134 (nI 1) dX5_layTurned_133 rfl (xofI 1) ?_
        refine xw_iadd 135 dX5_layTurned_134 rfl ?_
        rw [nI_add]
        refine xw_aload_n 136 dX5_layTurned_135 rfl rfl rfl ?_
        refine xw_get 139 dX5_layTurned_136 rfl f_X5_78 (xA hA rfl) rfl ?_
        refine xw_irem 140 dX5_layTurned_139 rfl (nI_ne0 (by omega) (by omega)) ?_
        rw [pk_rem (by omega) (by omega) (by omega)]
        refine xw_goto 153 dX5_layTurned_140 rfl ?_
        refine xw_istore (ls' := [(5, _), (4, _), (3, _), (2, _), (0, _), (1, _)]) 155 dX5_layTurned_153 rfl rfl rfl ?_
        refine xw_aload_n 156 dX5_layTurned_155 rfl rfl rfl ?_
        refine xw_get 159 dX5_layTurned_156 rfl f_X5_19 (xA hA rfl) rfl ?_
        refine xw_bipush 161 (nI 12) dX5_layTurned_159 rfl (by decide) ?_
        refine xw_iload_n 162 dX5_layTurned_161 rfl rfl ?_
        refine xw_imul 163 dX5_layTurned_162 rfl ?_
        refine xw_iload_n 164 dX5_layTurned_163 rfl rfl ?_
        refine xw_iadd 165 dX5_layTurned_164 rfl ?_
        rw [pk_mul, nI_add]
        refine xw_aload_n 166 dX5_layTurned_165 rfl rfl rfl ?_
        refine xw_iload 168 dX5_layTurned_166 rfl rfl ?_
        refine xw_iload 170 dX5_layTurned_168 rfl rfl ?_
        refine xw_pV 173 dX5_layTurned_170 rfl ok_M_chartAt s_X5_61 (S_M_chartAt (r := i) (c := ((j + 1) % zTC z 2)) (xA hA rfl) (xA hA rfl) (by omega)) (mH_len) (xA hA rfl) rfl rfl rfl rfl rfl rfl rfl ?_
        refine xw_iastore (j := i * 12 + j) (hp' := (mH A z (nI s) hi (nI ln) tx th (xlayP (xtc (fun k => z (27 + k)) (zI z 4) (zI z 5) 2) ot i (j + 1) (zTC z 2)) (nI (zTR z 2)) (nI (zTC z 2)) wa pR pC pM ps rr ha nu fe kc hs T)) 174 dX5_layTurned_173 rfl (xA hA rfl) (congrArg nI (by omega)) (by omega) (by omega) (by rw [← xlayP_s (xtc (fun k => z (27 + k)) (zI z 4) (zI z 5) 2) ot (r := i) hj hC12]; exact xAs hA rfl) ?_
        refine xw_iinc (ls' := [(3, _), (5, _), (4, _), (2, _), (0, _), (1, _)]) 177 _ dX5_layTurned_174 rfl rfl (xnI_inc _) rfl rfl ?_
        refine xw_goto 60 dX5_layTurned_177 rfl ?_
        exact xW.pick [0, 3, 4, 5] rfl (ih)
      · have a1 : zTR z 3 = zI z 4 := rfl
        have a2 : zTC z 3 = zI z 5 := rfl
        refine xw_iload_n 61 dX5_layTurned_60 rfl rfl ?_
        refine xw_aload_n 62 dX5_layTurned_61 rfl rfl rfl ?_
        refine xw_get 65 dX5_layTurned_62 rfl f_X5_78 (xA hA rfl) rfl ?_
        have hmod := Nat.mod_lt (i + 1) (show 0 < zTR z 3 by omega)
        refine xw_icmp_ge 180 68 dX5_layTurned_65 rfl rfl (fun h65 => absurd h65 (nI_ge (by omega) (by omega))) (fun h65 => ?_)
        refine xw_iload_n 69 dX5_layTurned_68 rfl rfl ?_
        refine xw_iconst 70 (nI 1) dX5_layTurned_69 rfl (xofI 1) ?_
        refine xw_icmp_ne 84 73 dX5_layTurned_70 rfl rfl (fun h70 => ?_) (fun h70 => absurd h70 (by decide))
        refine xw_iload_n 85 dX5_layTurned_84 rfl rfl ?_
        refine xw_iconst 86 (nI 3) dX5_layTurned_85 rfl (xofI 3) ?_
        refine xw_icmp_ne 100 89 dX5_layTurned_86 rfl rfl (fun h86 => absurd (rfl) h86) (fun h86 => ?_)
        refine xw_iload_n 90 dX5_layTurned_89 rfl rfl ?_
        refine xw_iconst 91 (nI 1) dX5_layTurned_90 rfl (xofI 1) ?_
        refine xw_iadd 92 dX5_layTurned_91 rfl ?_
        rw [nI_add]
        refine xw_aload_n 93 dX5_layTurned_92 rfl rfl rfl ?_
        refine xw_get 96 dX5_layTurned_93 rfl f_X5_75 (xA hA rfl) rfl ?_
        refine xw_irem 97 dX5_layTurned_96 rfl (nI_ne0 (by omega) (by omega)) ?_
        rw [pk_rem (by omega) (by omega) (by omega)]
        refine xw_goto 110 dX5_layTurned_97 rfl ?_
        refine xw_istore (ls' := [(4, _), (3, _), (2, _), (0, _), (1, _)]) 112 dX5_layTurned_110 rfl rfl rfl ?_
        refine xw_iload_n 113 dX5_layTurned_112 rfl rfl ?_
        refine xw_if_ne 127 116 dX5_layTurned_113 rfl rfl (fun h113 => ?_) (fun h113 => absurd h113 (by decide))
        refine xw_iload_n 128 dX5_layTurned_127 rfl rfl ?_
        refine xw_iconst 129 (nI 2) dX5_layTurned_128 rfl (xofI 2) ?_
        refine xw_icmp_ne 143 132 dX5_layTurned_129 rfl rfl (fun h129 => ?_) (fun h129 => absurd h129 (by decide))
        refine xw_iload_n 144 dX5_layTurned_143 rfl rfl ?_
        refine xw_iconst 145 (nI 4) dX5_layTurned_144 rfl (xofI 4) ?_
        refine xw_icmp_ne 152 148 dX5_layTurned_145 rfl rfl (fun h145 => ?_) (fun h145 => absurd h145 (by decide))
        refine xw_iload_n 153 dX5_layTurned_152 rfl rfl ?_
        refine xw_istore (ls' := [(5, _), (4, _), (3, _), (2, _), (0, _), (1, _)]) 155 dX5_layTurned_153 rfl rfl rfl ?_
        refine xw_aload_n 156 dX5_layTurned_155 rfl rfl rfl ?_
        refine xw_get 159 dX5_layTurned_156 rfl f_X5_19 (xA hA rfl) rfl ?_
        refine xw_bipush 161 (nI 12) dX5_layTurned_159 rfl (by decide) ?_
        refine xw_iload_n 162 dX5_layTurned_161 rfl rfl ?_
        refine xw_imul 163 dX5_layTurned_162 rfl ?_
        refine xw_iload_n 164 dX5_layTurned_163 rfl rfl ?_
        refine xw_iadd 165 dX5_layTurned_164 rfl ?_
        rw [pk_mul, nI_add]
        refine xw_aload_n 166 dX5_layTurned_165 rfl rfl rfl ?_
        refine xw_iload 168 dX5_layTurned_166 rfl rfl ?_
        refine xw_iload 170 dX5_layTurned_168 rfl rfl ?_
        refine xw_pV 173 dX5_layTurned_170 rfl ok_M_chartAt s_X5_61 (S_M_chartAt (r := ((i + 1) % zTR z 3)) (c := j) (xA hA rfl) (xA hA rfl) (by omega)) (mH_len) (xA hA rfl) rfl rfl rfl rfl rfl rfl rfl ?_
        refine xw_iastore (j := i * 12 + j) (hp' := (mH A z (nI s) hi (nI ln) tx th (xlayP (xtc (fun k => z (27 + k)) (zI z 4) (zI z 5) 3) ot i (j + 1) (zTC z 3)) (nI (zTR z 3)) (nI (zTC z 3)) wa pR pC pM ps rr ha nu fe kc hs T)) 174 dX5_layTurned_173 rfl (xA hA rfl) (congrArg nI (by omega)) (by omega) (by omega) (by rw [← xlayP_s (xtc (fun k => z (27 + k)) (zI z 4) (zI z 5) 3) ot (r := i) hj hC12]; exact xAs hA rfl) ?_
        refine xw_iinc (ls' := [(3, _), (5, _), (4, _), (2, _), (0, _), (1, _)]) 177 _ dX5_layTurned_174 rfl rfl (xnI_inc _) rfl rfl ?_
        refine xw_goto 60 dX5_layTurned_177 rfl ?_
        exact xW.pick [0, 3, 4, 5] rfl (ih)
      · have a1 : zTR z 4 = zI z 5 := rfl
        have a2 : zTC z 4 = zI z 4 := rfl
        refine xw_iload_n 61 dX5_layTurned_60 rfl rfl ?_
        refine xw_aload_n 62 dX5_layTurned_61 rfl rfl rfl ?_
        refine xw_get 65 dX5_layTurned_62 rfl f_X5_78 (xA hA rfl) rfl ?_
        refine xw_icmp_ge 180 68 dX5_layTurned_65 rfl rfl (fun h65 => absurd h65 (nI_ge (by omega) (by omega))) (fun h65 => ?_)
        refine xw_iload_n 69 dX5_layTurned_68 rfl rfl ?_
        refine xw_iconst 70 (nI 1) dX5_layTurned_69 rfl (xofI 1) ?_
        refine xw_icmp_ne 84 73 dX5_layTurned_70 rfl rfl (fun h70 => ?_) (fun h70 => absurd h70 (by decide))
        refine xw_iload_n 85 dX5_layTurned_84 rfl rfl ?_
        refine xw_iconst 86 (nI 3) dX5_layTurned_85 rfl (xofI 3) ?_
        refine xw_icmp_ne 100 89 dX5_layTurned_86 rfl rfl (fun h86 => ?_) (fun h86 => absurd h86 (by decide))
        refine xw_iload_n 101 dX5_layTurned_100 rfl rfl ?_
        refine xw_iconst 102 (nI 4) dX5_layTurned_101 rfl (xofI 4) ?_
        refine xw_icmp_ne 109 105 dX5_layTurned_102 rfl rfl (fun h102 => absurd (rfl) h102) (fun h102 => ?_)
        refine xw_iload_n 106 dX5_layTurned_105 rfl rfl ?_
        refine xw_goto 110 dX5_layTurned_106 rfl ?_
        refine xw_istore (ls' := [(4, _), (3, _), (2, _), (0, _), (1, _)]) 112 dX5_layTurned_110 rfl rfl rfl ?_
        refine xw_iload_n 113 dX5_layTurned_112 rfl rfl ?_
        refine xw_if_ne 127 116 dX5_layTurned_113 rfl rfl (fun h113 => ?_) (fun h113 => absurd h113 (by decide))
        refine xw_iload_n 128 dX5_layTurned_127 rfl rfl ?_
        refine xw_iconst 129 (nI 2) dX5_layTurned_128 rfl (xofI 2) ?_
        refine xw_icmp_ne 143 132 dX5_layTurned_129 rfl rfl (fun h129 => ?_) (fun h129 => absurd h129 (by decide))
        refine xw_iload_n 144 dX5_layTurned_143 rfl rfl ?_
        refine xw_iconst 145 (nI 4) dX5_layTurned_144 rfl (xofI 4) ?_
        refine xw_icmp_ne 152 148 dX5_layTurned_145 rfl rfl (fun h145 => absurd (rfl) h145) (fun h145 => ?_)
        refine xw_iload_n 149 dX5_layTurned_148 rfl rfl ?_
        refine xw_goto 153 dX5_layTurned_149 rfl ?_
        refine xw_istore (ls' := [(5, _), (4, _), (3, _), (2, _), (0, _), (1, _)]) 155 dX5_layTurned_153 rfl rfl rfl ?_
        refine xw_aload_n 156 dX5_layTurned_155 rfl rfl rfl ?_
        refine xw_get 159 dX5_layTurned_156 rfl f_X5_19 (xA hA rfl) rfl ?_
        refine xw_bipush 161 (nI 12) dX5_layTurned_159 rfl (by decide) ?_
        refine xw_iload_n 162 dX5_layTurned_161 rfl rfl ?_
        refine xw_imul 163 dX5_layTurned_162 rfl ?_
        refine xw_iload_n 164 dX5_layTurned_163 rfl rfl ?_
        refine xw_iadd 165 dX5_layTurned_164 rfl ?_
        rw [pk_mul, nI_add]
        refine xw_aload_n 166 dX5_layTurned_165 rfl rfl rfl ?_
        refine xw_iload 168 dX5_layTurned_166 rfl rfl ?_
        refine xw_iload 170 dX5_layTurned_168 rfl rfl ?_
        refine xw_pV 173 dX5_layTurned_170 rfl ok_M_chartAt s_X5_61 (S_M_chartAt (r := j) (c := i) (xA hA rfl) (xA hA rfl) (by omega)) (mH_len) (xA hA rfl) rfl rfl rfl rfl rfl rfl rfl ?_
        refine xw_iastore (j := i * 12 + j) (hp' := (mH A z (nI s) hi (nI ln) tx th (xlayP (xtc (fun k => z (27 + k)) (zI z 4) (zI z 5) 4) ot i (j + 1) (zTC z 4)) (nI (zTR z 4)) (nI (zTC z 4)) wa pR pC pM ps rr ha nu fe kc hs T)) 174 dX5_layTurned_173 rfl (xA hA rfl) (congrArg nI (by omega)) (by omega) (by omega) (by rw [← xlayP_s (xtc (fun k => z (27 + k)) (zI z 4) (zI z 5) 4) ot (r := i) hj hC12]; exact xAs hA rfl) ?_
        refine xw_iinc (ls' := [(3, _), (5, _), (4, _), (2, _), (0, _), (1, _)]) 177 _ dX5_layTurned_174 rfl rfl (xnI_inc _) rfl rfl ?_
        refine xw_goto 60 dX5_layTurned_177 rfl ?_
        exact xW.pick [0, 3, 4, 5] rfl (ih)
  have outer : ∀ (t i : Nat), i + t = zTR z how → xW G M_layTurned (xRet none (mH A z (nI s) hi (nI ln) tx th (xlay (xtc (fun k => z (27 + k)) (zI z 4) (zI z 5) how) ot (zTR z how) (zTC z how)) (nI (zTR z how)) (nI (zTC z how)) wa pR pC pM ps rr ha nu fe kc hs T)) 50 [(2, .int (nI i)), (0, .ref 71), (1, .int (nI how))] [] (mH A z (nI s) hi (nI ln) tx th (xlayP (xtc (fun k => z (27 + k)) (zI z 4) (zI z 5) how) ot i 0 (zTC z how)) (nI (zTR z how)) (nI (zTC z how)) wa pR pC pM ps rr ha nu fe kc hs T) x 0 0 := by
    intro t
    induction t with
    | zero =>
      intro i hi8
      have e : i = zTR z how := by omega
      rw [e, xlayP_e]
      refine xw_iload_n 51 dX5_layTurned_50 rfl rfl ?_
      refine xw_aload_n 52 dX5_layTurned_51 rfl rfl rfl ?_
      refine xw_get 55 dX5_layTurned_52 rfl f_X5_75 (xA hA rfl) rfl ?_
      refine xw_icmp_ge 186 58 dX5_layTurned_55 rfl rfl (fun h55 => ?_) (fun h55 => absurd (nI_le (Nat.le_refl _) (by omega)) h55)
      exact xw_return dX5_layTurned_186 rfl (⟨rfl, rfl⟩)
    | succ t ih =>
      intro i hi8
      refine xw_iload_n 51 dX5_layTurned_50 rfl rfl ?_
      refine xw_aload_n 52 dX5_layTurned_51 rfl rfl rfl ?_
      refine xw_get 55 dX5_layTurned_52 rfl f_X5_75 (xA hA rfl) rfl ?_
      refine xw_icmp_ge 186 58 dX5_layTurned_55 rfl rfl (fun h55 => absurd h55 (nI_ge (by omega) (by omega))) (fun h55 => ?_)
      refine xw_iconst 59 (nI 0) dX5_layTurned_58 rfl (xofI 0) ?_
      refine xw_istore_n (ls' := [(3, _), (2, _), (0, _), (1, _)]) 60 dX5_layTurned_59 rfl rfl rfl ?_
      exact inner i (by omega) (ih (i + 1) (by omega)) (zTC z how) 0 (by omega)
  by_cases g4 : how = 4
  · subst g4
    refine xw_aload_n 1 dX5_layTurned_0 rfl rfl rfl ?_
    refine xw_iload_n 2 dX5_layTurned_1 rfl rfl ?_
    refine xw_iconst 3 (nI 4) dX5_layTurned_2 rfl (xofI 4) ?_
    refine xw_icmp_ne 15 6 dX5_layTurned_3 rfl rfl (fun h3 => absurd (rfl) h3) (fun h3 => ?_)
    refine xw_aload_n 7 dX5_layTurned_6 rfl rfl rfl ?_
    refine xw_get 10 dX5_layTurned_7 rfl f_X5_7 (xA hA rfl) rfl ?_
    refine xw_iconst 11 (nI 5) dX5_layTurned_10 rfl (xofI 5) ?_
    refine xw_ialv (j := 5) 12 dX5_layTurned_11 rfl (xA hA rfl) (rfl) (by decide) (by decide) ((I.iC.1 : z 5 = nI (zTR z 4))) ?_
    refine xw_goto 21 dX5_layTurned_12 rfl ?_
    refine xw_put (hp' := (mH A z (nI s) hi (nI ln) tx th ot (nI (zTR z 4)) oC wa pR pC pM ps rr ha nu fe kc hs T)) 24 dX5_layTurned_21 rfl f_X5_75 (xA hA rfl) ⟨rfl, rfl⟩ rfl rfl (xAs hA rfl) ?_
    refine xw_aload_n 25 dX5_layTurned_24 rfl rfl rfl ?_
    refine xw_iload_n 26 dX5_layTurned_25 rfl rfl ?_
    refine xw_iconst 27 (nI 4) dX5_layTurned_26 rfl (xofI 4) ?_
    refine xw_icmp_ne 39 30 dX5_layTurned_27 rfl rfl (fun h27 => absurd (rfl) h27) (fun h27 => ?_)
    refine xw_aload_n 31 dX5_layTurned_30 rfl rfl rfl ?_
    refine xw_get 34 dX5_layTurned_31 rfl f_X5_7 (xA hA rfl) rfl ?_
    refine xw_iconst 35 (nI 4) dX5_layTurned_34 rfl (xofI 4) ?_
    refine xw_ialv (j := 4) 36 dX5_layTurned_35 rfl (xA hA rfl) (rfl) (by decide) (by decide) ((I.iR.1 : z 4 = nI (zTC z 4))) ?_
    refine xw_goto 45 dX5_layTurned_36 rfl ?_
    refine xw_put (hp' := (mH A z (nI s) hi (nI ln) tx th ot (nI (zTR z 4)) (nI (zTC z 4)) wa pR pC pM ps rr ha nu fe kc hs T)) 48 dX5_layTurned_45 rfl f_X5_78 (xA hA rfl) ⟨rfl, rfl⟩ rfl rfl (xAs hA rfl) ?_
    refine xw_iconst 49 (nI 0) dX5_layTurned_48 rfl (xofI 0) ?_
    refine xw_istore_n (ls' := [(2, _), (0, _), (1, _)]) 50 dX5_layTurned_49 rfl rfl rfl ?_
    have h9 := outer (zTR z 4) 0 (by omega)
    rw [xlayP_0] at h9
    exact h9
  · have g5 : ¬ nI how = nI 4 := fun q => g4 ((nI_eq (by omega) (by decide)).mp q)
    have t1 : z 4 = nI (zTR z how) := by unfold zTR; rw [if_neg g4]; exact I.iR.1
    have t2 : z 5 = nI (zTC z how) := by unfold zTC; rw [if_neg g4]; exact I.iC.1
    refine xw_aload_n 1 dX5_layTurned_0 rfl rfl rfl ?_
    refine xw_iload_n 2 dX5_layTurned_1 rfl rfl ?_
    refine xw_iconst 3 (nI 4) dX5_layTurned_2 rfl (xofI 4) ?_
    refine xw_icmp_ne 15 6 dX5_layTurned_3 rfl rfl (fun h3 => ?_) (fun h3 => absurd h3 (g5))
    refine xw_aload_n 16 dX5_layTurned_15 rfl rfl rfl ?_
    refine xw_get 19 dX5_layTurned_16 rfl f_X5_7 (xA hA rfl) rfl ?_
    refine xw_iconst 20 (nI 4) dX5_layTurned_19 rfl (xofI 4) ?_
    refine xw_ialv (j := 4) 21 dX5_layTurned_20 rfl (xA hA rfl) (rfl) (by decide) (by decide) (t1) ?_
    refine xw_put (hp' := (mH A z (nI s) hi (nI ln) tx th ot (nI (zTR z how)) oC wa pR pC pM ps rr ha nu fe kc hs T)) 24 dX5_layTurned_21 rfl f_X5_75 (xA hA rfl) ⟨rfl, rfl⟩ rfl rfl (xAs hA rfl) ?_
    refine xw_aload_n 25 dX5_layTurned_24 rfl rfl rfl ?_
    refine xw_iload_n 26 dX5_layTurned_25 rfl rfl ?_
    refine xw_iconst 27 (nI 4) dX5_layTurned_26 rfl (xofI 4) ?_
    refine xw_icmp_ne 39 30 dX5_layTurned_27 rfl rfl (fun h27 => ?_) (fun h27 => absurd h27 (g5))
    refine xw_aload_n 40 dX5_layTurned_39 rfl rfl rfl ?_
    refine xw_get 43 dX5_layTurned_40 rfl f_X5_7 (xA hA rfl) rfl ?_
    refine xw_iconst 44 (nI 5) dX5_layTurned_43 rfl (xofI 5) ?_
    refine xw_ialv (j := 5) 45 dX5_layTurned_44 rfl (xA hA rfl) (rfl) (by decide) (by decide) (t2) ?_
    refine xw_put (hp' := (mH A z (nI s) hi (nI ln) tx th ot (nI (zTR z how)) (nI (zTC z how)) wa pR pC pM ps rr ha nu fe kc hs T)) 48 dX5_layTurned_45 rfl f_X5_78 (xA hA rfl) ⟨rfl, rfl⟩ rfl rfl (xAs hA rfl) ?_
    refine xw_iconst 49 (nI 0) dX5_layTurned_48 rfl (xofI 0) ?_
    refine xw_istore_n (ls' := [(2, _), (0, _), (1, _)]) 50 dX5_layTurned_49 rfl rfl rfl ?_
    have h9 := outer (zTR z how) 0 (by omega)
    rw [xlayP_0] at h9
    exact h9
def oTurM (m : xMS) (p : Int32) : (Nat × Int32) × xMS := if xlt p 5 then (if pN p ≠ 4 ∨ zI m.1 5 ≤ 10 then ((0, nI (zTR m.1 (pN p))), mSav m (zturn m.1 (pN p)) m.2.2.2.1) else ((2, 0), m)) else ((1, 0), m)
def oRecM (m : xMS) (p r : Int32) : (Nat × Int32) × xMS := if xlt p 6 then (if xlt r 6 then ((0, nI (zrecN m.1 (pN p) (pN r))), mSav m (zrec m.1 (pN p) (pN r)) m.2.2.2.1) else ((1, 0), m)) else ((1, 0), m)
def oSetM (m : xMS) (p v : Int32) : (Nat × Int32) × xMS := if xlt p 4 then (if xin v (zlo (pN p)) (zhi (pN p)) then ((0, m.1 (pN p)), mSav m (upd m.1 (pN p) v) m.2.2.2.1) else ((2, 0), m)) else ((1, 0), m)
def oBuyM (m : xMS) (p r : Int32) : (Nat × Int32) × xMS := if xlt p 6 then (if xin r 1 100 then (if ¬ nI 600 < m.1 (15 + pN p) + r then ((0, zbuy m.1 (pN p) r (9 + pN p)), mSav m (zbuy m.1 (pN p) r) m.2.2.2.1) else ((2, 0), m)) else ((1, 0), m)) else ((1, 0), m)
def oAppM (m : xMS) (p : Int32) : (Nat × Int32) × xMS := if xin p 33 126 then (if m.2.2.2.1 < 60 then ((0, nI (m.2.2.2.1 + 1)), (m.1, m.2.1, m.2.2.1, m.2.2.2.1 + 1, upd m.2.2.2.2 m.2.2.2.1 p)) else ((2, 0), m)) else ((1, 0), m)
theorem S_M_turn {p : Int32} (hA : A.length = 71) (I : xInv z) (hs6 : s ≤ 6) : xMet G M_turn [.ref 71, .int p] (mH A z (nI s) hi (nI ln) tx th ot oR oC wa pR pC pM ps rr ha nu fe kc hs T) x 0 0 (xQm A T (oTurM (z, hi, s, ln, tx) p).1 (oTurM (z, hi, s, ln, tx) p).2) := by
  have hA1 := I.iA.2.1
  have hA2 := I.iA.2.2
  have hS2 := I.iS.2.2
  have hR1 := I.iR.2.1
  have hR2 := I.iR.2.2
  have hC1 := I.iC.2.1
  have hC2 := I.iC.2.2
  have hM2 := I.iM.2.2
  have hK1 := I.iK.2.1
  have hK2 := I.iK.2.2
  unfold oTurM
  dsimp only
  by_cases g0 : xlt p 5
  · have w1 : nI (if xlt p 5 then 1 else 0) = nI 1 := bIf g0
    rw [if_pos g0]
    obtain ⟨a, a1, rfl⟩ := xlt_y (by decide) g0
    rw [pN_k (by omega)]
    have hct := S_M_canTurn (G := G) (x := x) (hp := (mH A z (nI s) hi (nI ln) tx th ot oR oC wa pR pC pM ps rr ha nu fe kc hs T)) (how := a) (xA hA rfl) (xA hA rfl) I a1
    by_cases g1 : a ≠ 4 ∨ zI z 5 ≤ 10
    · rw [if_pos g1]
      rw [if_pos g1] at hct
      have hR10 : zTR z a ≤ 10 := by unfold zTR; split <;> omega
      have hC12 : zTC z a ≤ 12 := by unfold zTC; split <;> omega
      have e9 : zlaid z (zTR z a) (zTC z a) (fun r c => (xlay (xtc (fun k => z (27 + k)) (zI z 4) (zI z 5) a) ot (zTR z a) (zTC z a)) (r * 12 + c)) = zturn z a := zlaid_congr fun r c hr hc => by
        unfold xlay
        rw [show (r * 12 + c) / 12 = r by omega, show (r * 12 + c) % 12 = c by omega, if_pos ⟨hr, hc⟩]
      have hto := S_M_takeOther (G := G) (x := x) (A := A) (T := T) (z := z) (hi := mhis z hi s) (s := zrM s) (ln := ln) (tx := tx) (th := nI 0) (ot := (xlay (xtc (fun k => z (27 + k)) (zI z 4) (zI z 5) a) ot (zTR z a) (zTC z a))) (wa := wa) (pR := pR) (pC := pC) (pM := pM) (ps := ps) (rr := rr) (ha := ha) (nu := nu) (fe := fe) (kc := kc) (hs := hs) (R := zTR z a) (C := zTC z a) hA (by omega) (by omega)
      rw [e9] at hto
      refine xw_aload_n 1 dX5_turn_0 rfl rfl rfl ?_
      refine xw_iload_n 2 dX5_turn_1 rfl rfl ?_
      refine xw_iconst 3 (nI 0) dX5_turn_2 rfl (xofI 0) ?_
      refine xw_iconst 4 (nI 4) dX5_turn_3 rfl (xofI 4) ?_
      refine xw_pS 7 dX5_turn_4 rfl ok_M_within s_X5_47 (xcast_t (.int (nI (if xlt (nI a) 5 then 1 else 0))) S_M_within (congrArg Value.int (bIff (xin_lt (n := 4) (by decide))))) (mH_len) rfl rfl rfl rfl rfl rfl ?_
      refine xw_if_ne 14 10 dX5_turn_7 rfl rfl (fun h7 => ?_) (fun h7 => absurd h7 (by rw [w1]; decide))
      refine xw_aload_n 15 dX5_turn_14 rfl rfl rfl ?_
      refine xw_iload_n 16 dX5_turn_15 rfl rfl ?_
      refine xw_pV 19 dX5_turn_16 rfl ok_M_canTurn s_X5_101 (hct) (mH_len) (xA hA rfl) rfl rfl rfl rfl rfl rfl rfl ?_
      refine xw_if_eq 26 22 dX5_turn_19 rfl rfl (fun h19 => absurd h19 (by decide)) (fun h19 => ?_)
      refine xw_iconst 23 (nI 0) dX5_turn_22 rfl (xofI 0) ?_
      refine xw_goto 27 dX5_turn_23 rfl ?_
      refine xw_put (hp' := (mH A z (nI s) hi (nI ln) tx (nI 0) ot oR oC wa pR pC pM ps rr ha nu fe kc hs T)) 30 dX5_turn_27 rfl f_X5_40 (xA hA rfl) ⟨rfl, rfl⟩ rfl rfl (xAs hA rfl) ?_
      refine xw_aload_n 31 dX5_turn_30 rfl rfl rfl ?_
      refine xw_get 34 dX5_turn_31 rfl f_X5_40 (xA hA rfl) rfl ?_
      refine xw_if_le 39 37 dX5_turn_34 rfl rfl (fun h34 => ?_) (fun h34 => absurd (by decide) h34)
      refine xw_aload_n 40 dX5_turn_39 rfl rfl rfl ?_
      refine xw_pVv 43 dX5_turn_40 rfl ok_M_save s_X5_95 (S_M_save hA hs6) (mH_len) (xA hA rfl) rfl rfl rfl rfl rfl rfl rfl ?_
      refine xw_aload_n 44 dX5_turn_43 rfl rfl rfl ?_
      refine xw_iload_n 45 dX5_turn_44 rfl rfl ?_
      refine xw_pVv 48 dX5_turn_45 rfl ok_M_layTurned s_X5_104 (S_M_layTurned hA I a1 (by omega)) (mH_len) (xA hA rfl) rfl rfl rfl rfl rfl rfl rfl ?_
      refine xw_aload_n 49 dX5_turn_48 rfl rfl rfl ?_
      refine xw_pVv 52 dX5_turn_49 rfl ok_M_takeOther s_X5_98 (hto) (mH_len) (xA hA rfl) rfl rfl rfl rfl rfl rfl rfl ?_
      refine xw_aload_n 53 dX5_turn_52 rfl rfl rfl ?_
      refine xw_get 56 dX5_turn_53 rfl f_X5_7 (xA hA rfl) rfl ?_
      refine xw_iconst 57 (nI 4) dX5_turn_56 rfl (xofI 4) ?_
      refine xw_ialv (j := 4) 58 dX5_turn_57 rfl (xA hA rfl) (rfl) (by decide) (by decide) ((zlaid_4 : zturn z a 4 = nI (zTR z a))) ?_
      exact xw_ireturn dX5_turn_58 rfl (⟨rfl, ((xlay (xtc (fun k => z (27 + k)) (zI z 4) (zI z 5) a) ot (zTR z a) (zTC z a)), (nI (zTR z a)), (nI (zTC z a)), wa, pR, pC, pM, ps, rr, ha, nu, fe, kc, hs), rfl⟩)
    · rw [if_neg g1]
      rw [if_neg g1] at hct
      refine xw_aload_n 1 dX5_turn_0 rfl rfl rfl ?_
      refine xw_iload_n 2 dX5_turn_1 rfl rfl ?_
      refine xw_iconst 3 (nI 0) dX5_turn_2 rfl (xofI 0) ?_
      refine xw_iconst 4 (nI 4) dX5_turn_3 rfl (xofI 4) ?_
      refine xw_pS 7 dX5_turn_4 rfl ok_M_within s_X5_47 (xcast_t (.int (nI (if xlt (nI a) 5 then 1 else 0))) S_M_within (congrArg Value.int (bIff (xin_lt (n := 4) (by decide))))) (mH_len) rfl rfl rfl rfl rfl rfl ?_
      refine xw_if_ne 14 10 dX5_turn_7 rfl rfl (fun h7 => ?_) (fun h7 => absurd h7 (by rw [w1]; decide))
      refine xw_aload_n 15 dX5_turn_14 rfl rfl rfl ?_
      refine xw_iload_n 16 dX5_turn_15 rfl rfl ?_
      refine xw_pV 19 dX5_turn_16 rfl ok_M_canTurn s_X5_101 (hct) (mH_len) (xA hA rfl) rfl rfl rfl rfl rfl rfl rfl ?_
      refine xw_if_eq 26 22 dX5_turn_19 rfl rfl (fun h19 => ?_) (fun h19 => absurd (rfl) h19)
      refine xw_iconst 27 (nI 2) dX5_turn_26 rfl (xofI 2) ?_
      refine xw_put (hp' := (mH A z (nI s) hi (nI ln) tx (nI 2) ot oR oC wa pR pC pM ps rr ha nu fe kc hs T)) 30 dX5_turn_27 rfl f_X5_40 (xA hA rfl) ⟨rfl, rfl⟩ rfl rfl (xAs hA rfl) ?_
      refine xw_aload_n 31 dX5_turn_30 rfl rfl rfl ?_
      refine xw_get 34 dX5_turn_31 rfl f_X5_40 (xA hA rfl) rfl ?_
      refine xw_if_le 39 37 dX5_turn_34 rfl rfl (fun h34 => absurd h34 (by decide)) (fun h34 => ?_)
      refine xw_iconst 38 (nI 0) dX5_turn_37 rfl (xofI 0) ?_
      exact xw_ireturn dX5_turn_38 rfl (⟨rfl, (ot, oR, oC, wa, pR, pC, pM, ps, rr, ha, nu, fe, kc, hs), rfl⟩)
  · have w1 : nI (if xlt p 5 then 1 else 0) = nI 0 := bIfn g0
    rw [if_neg g0]
    refine xw_aload_n 1 dX5_turn_0 rfl rfl rfl ?_
    refine xw_iload_n 2 dX5_turn_1 rfl rfl ?_
    refine xw_iconst 3 (nI 0) dX5_turn_2 rfl (xofI 0) ?_
    refine xw_iconst 4 (nI 4) dX5_turn_3 rfl (xofI 4) ?_
    refine xw_pS 7 dX5_turn_4 rfl ok_M_within s_X5_47 (xcast_t (.int (nI (if xlt p 5 then 1 else 0))) S_M_within (congrArg Value.int (bIff (xin_lt (n := 4) (by decide))))) (mH_len) rfl rfl rfl rfl rfl rfl ?_
    refine xw_if_ne 14 10 dX5_turn_7 rfl rfl (fun h7 => absurd (w1) h7) (fun h7 => ?_)
    refine xw_iconst 11 (nI 1) dX5_turn_10 rfl (xofI 1) ?_
    refine xw_goto 27 dX5_turn_11 rfl ?_
    refine xw_put (hp' := (mH A z (nI s) hi (nI ln) tx (nI 1) ot oR oC wa pR pC pM ps rr ha nu fe kc hs T)) 30 dX5_turn_27 rfl f_X5_40 (xA hA rfl) ⟨rfl, rfl⟩ rfl rfl (xAs hA rfl) ?_
    refine xw_aload_n 31 dX5_turn_30 rfl rfl rfl ?_
    refine xw_get 34 dX5_turn_31 rfl f_X5_40 (xA hA rfl) rfl ?_
    refine xw_if_le 39 37 dX5_turn_34 rfl rfl (fun h34 => absurd h34 (by decide)) (fun h34 => ?_)
    refine xw_iconst 38 (nI 0) dX5_turn_37 rfl (xofI 0) ?_
    exact xw_ireturn dX5_turn_38 rfl (⟨rfl, (ot, oR, oC, wa, pR, pC, pM, ps, rr, ha, nu, fe, kc, hs), rfl⟩)
theorem S_M_set {p v : Int32} (hA : A.length = 71) (I : xInv z) (hs6 : s ≤ 6) : xMet G M_set [.ref 71, .int p, .int v] (mH A z (nI s) hi (nI ln) tx th ot oR oC wa pR pC pM ps rr ha nu fe kc hs T) x 0 0 (xQm A T (oSetM (z, hi, s, ln, tx) p v).1 (oSetM (z, hi, s, ln, tx) p v).2) := by
  unfold oSetM
  dsimp only
  by_cases g0 : xlt p 4
  · have w0 : nI (if xlt p 4 then 1 else 0) = nI 1 := bIf g0
    rw [if_pos g0]
    obtain ⟨a, a1, rfl⟩ := xlt_y (by decide) g0
    rw [pN_k (by omega)]
    by_cases g1 : xin v (zlo a) (zhi a)
    · rw [if_pos g1]
      refine xw_aload_n 1 dX5_set_0 rfl rfl rfl ?_
      refine xw_iload_n 2 dX5_set_1 rfl rfl ?_
      refine xw_pS 5 dX5_set_2 rfl ok_M_isSetting s_X5_115 (S_M_isSetting) (mH_len) rfl rfl rfl rfl rfl rfl ?_
      refine xw_if_ne 12 8 dX5_set_5 rfl rfl (fun h5 => ?_) (fun h5 => absurd h5 (by rw [w0]; decide))
      refine xw_iload_n 13 dX5_set_12 rfl rfl ?_
      refine xw_iload_n 14 dX5_set_13 rfl rfl ?_
      refine xw_pS 17 dX5_set_14 rfl ok_M_isValue s_X5_118 (S_M_isValue a1) (mH_len) rfl rfl rfl rfl rfl rfl ?_
      refine xw_if_eq 24 20 dX5_set_17 rfl rfl (fun h17 => absurd h17 (by rw [bIf g1]; decide)) (fun h17 => ?_)
      refine xw_iconst 21 (nI 0) dX5_set_20 rfl (xofI 0) ?_
      refine xw_goto 25 dX5_set_21 rfl ?_
      refine xw_put (hp' := (mH A z (nI s) hi (nI ln) tx (nI 0) ot oR oC wa pR pC pM ps rr ha nu fe kc hs T)) 28 dX5_set_25 rfl f_X5_40 (xA hA rfl) ⟨rfl, rfl⟩ rfl rfl (xAs hA rfl) ?_
      refine xw_aload_n 29 dX5_set_28 rfl rfl rfl ?_
      refine xw_get 32 dX5_set_29 rfl f_X5_40 (xA hA rfl) rfl ?_
      refine xw_if_le 37 35 dX5_set_32 rfl rfl (fun h32 => ?_) (fun h32 => absurd (by decide) h32)
      refine xw_aload_n 38 dX5_set_37 rfl rfl rfl ?_
      refine xw_pVv 41 dX5_set_38 rfl ok_M_save s_X5_95 (S_M_save hA hs6) (mH_len) (xA hA rfl) rfl rfl rfl rfl rfl rfl rfl ?_
      refine xw_aload_n 42 dX5_set_41 rfl rfl rfl ?_
      refine xw_get 45 dX5_set_42 rfl f_X5_7 (xA hA rfl) rfl ?_
      refine xw_iconst 46 (nI 0) dX5_set_45 rfl (xofI 0) ?_
      refine xw_iload_n 47 dX5_set_46 rfl rfl ?_
      refine xw_iadd 48 dX5_set_47 rfl ?_
      refine xw_iaload (j := a) 49 dX5_set_48 rfl (xA hA rfl) ((nI_add _ _).trans (congrArg nI (Nat.zero_add a))) (by omega) (by omega) ?_
      refine xw_istore_n (ls' := [(3, _), (0, _), (1, _), (2, _)]) 50 dX5_set_49 rfl rfl rfl ?_
      refine xw_aload_n 51 dX5_set_50 rfl rfl rfl ?_
      refine xw_get 54 dX5_set_51 rfl f_X5_7 (xA hA rfl) rfl ?_
      refine xw_iconst 55 (nI 0) dX5_set_54 rfl (xofI 0) ?_
      refine xw_iload_n 56 dX5_set_55 rfl rfl ?_
      refine xw_iadd 57 dX5_set_56 rfl ?_
      refine xw_iload_n 58 dX5_set_57 rfl rfl ?_
      refine xw_iastore (j := a) (hp' := (mH A (upd z a v) (nI (zrM s)) (mhis z hi s) (nI ln) tx (nI 0) ot oR oC wa pR pC pM ps rr ha nu fe kc hs T)) 59 dX5_set_58 rfl (xA hA rfl) ((nI_add _ _).trans (congrArg nI (Nat.zero_add a))) (by omega) (by omega) (xAs hA rfl) ?_
      refine xw_iload_n 60 dX5_set_59 rfl rfl ?_
      exact xw_ireturn dX5_set_60 rfl (⟨rfl, (ot, oR, oC, wa, pR, pC, pM, ps, rr, ha, nu, fe, kc, hs), rfl⟩)
    · rw [if_neg g1]
      refine xw_aload_n 1 dX5_set_0 rfl rfl rfl ?_
      refine xw_iload_n 2 dX5_set_1 rfl rfl ?_
      refine xw_pS 5 dX5_set_2 rfl ok_M_isSetting s_X5_115 (S_M_isSetting) (mH_len) rfl rfl rfl rfl rfl rfl ?_
      refine xw_if_ne 12 8 dX5_set_5 rfl rfl (fun h5 => ?_) (fun h5 => absurd h5 (by rw [w0]; decide))
      refine xw_iload_n 13 dX5_set_12 rfl rfl ?_
      refine xw_iload_n 14 dX5_set_13 rfl rfl ?_
      refine xw_pS 17 dX5_set_14 rfl ok_M_isValue s_X5_118 (S_M_isValue a1) (mH_len) rfl rfl rfl rfl rfl rfl ?_
      refine xw_if_eq 24 20 dX5_set_17 rfl rfl (fun h17 => ?_) (fun h17 => absurd (bIfn g1) h17)
      refine xw_iconst 25 (nI 2) dX5_set_24 rfl (xofI 2) ?_
      refine xw_put (hp' := (mH A z (nI s) hi (nI ln) tx (nI 2) ot oR oC wa pR pC pM ps rr ha nu fe kc hs T)) 28 dX5_set_25 rfl f_X5_40 (xA hA rfl) ⟨rfl, rfl⟩ rfl rfl (xAs hA rfl) ?_
      refine xw_aload_n 29 dX5_set_28 rfl rfl rfl ?_
      refine xw_get 32 dX5_set_29 rfl f_X5_40 (xA hA rfl) rfl ?_
      refine xw_if_le 37 35 dX5_set_32 rfl rfl (fun h32 => absurd h32 (by decide)) (fun h32 => ?_)
      refine xw_iconst 36 (nI 0) dX5_set_35 rfl (xofI 0) ?_
      exact xw_ireturn dX5_set_36 rfl (⟨rfl, (ot, oR, oC, wa, pR, pC, pM, ps, rr, ha, nu, fe, kc, hs), rfl⟩)
  · have w0 : nI (if xlt p 4 then 1 else 0) = nI 0 := bIfn g0
    rw [if_neg g0]
    refine xw_aload_n 1 dX5_set_0 rfl rfl rfl ?_
    refine xw_iload_n 2 dX5_set_1 rfl rfl ?_
    refine xw_pS 5 dX5_set_2 rfl ok_M_isSetting s_X5_115 (S_M_isSetting) (mH_len) rfl rfl rfl rfl rfl rfl ?_
    refine xw_if_ne 12 8 dX5_set_5 rfl rfl (fun h5 => absurd (w0) h5) (fun h5 => ?_)
    refine xw_iconst 9 (nI 1) dX5_set_8 rfl (xofI 1) ?_
    refine xw_goto 25 dX5_set_9 rfl ?_
    refine xw_put (hp' := (mH A z (nI s) hi (nI ln) tx (nI 1) ot oR oC wa pR pC pM ps rr ha nu fe kc hs T)) 28 dX5_set_25 rfl f_X5_40 (xA hA rfl) ⟨rfl, rfl⟩ rfl rfl (xAs hA rfl) ?_
    refine xw_aload_n 29 dX5_set_28 rfl rfl rfl ?_
    refine xw_get 32 dX5_set_29 rfl f_X5_40 (xA hA rfl) rfl ?_
    refine xw_if_le 37 35 dX5_set_32 rfl rfl (fun h32 => absurd h32 (by decide)) (fun h32 => ?_)
    refine xw_iconst 36 (nI 0) dX5_set_35 rfl (xofI 0) ?_
    exact xw_ireturn dX5_set_36 rfl (⟨rfl, (ot, oR, oC, wa, pR, pC, pM, ps, rr, ha, nu, fe, kc, hs), rfl⟩)
theorem zbuy_m (z : Nat → Int32) {a : Nat} (v : Int32) (ha : a < 6) : upd (upd z (9 + a) (z (9 + a) + v)) (15 + a) (upd z (9 + a) (z (9 + a) + v) (15 + a) + v) = zbuy z a v := by
  unfold zbuy
  rw [upd_ne (f := z) (i := 9 + a) (k := 15 + a) (by omega), upd_ne (f := z) (i := 15 + a) (k := 9 + a) (by omega)]
  funext k
  simp only [upd]
  by_cases h1 : k = 15 + a
  · rw [if_pos h1, if_neg (by omega), if_pos h1]
  · rw [if_neg h1, if_neg h1]
theorem S_M_buy {p r : Int32} (hA : A.length = 71) (I : xInv z) (hs6 : s ≤ 6) : xMet G M_buy [.ref 71, .int p, .int r] (mH A z (nI s) hi (nI ln) tx th ot oR oC wa pR pC pM ps rr ha nu fe kc hs T) x 0 0 (xQm A T (oBuyM (z, hi, s, ln, tx) p r).1 (oBuyM (z, hi, s, ln, tx) p r).2) := by
  unfold oBuyM
  dsimp only
  by_cases g0 : xlt p 6
  · have w0 : nI (if xlt p 6 then 1 else 0) = nI 1 := bIf g0
    rw [if_pos g0]
    obtain ⟨a, a1, rfl⟩ := xlt_y (by decide) g0
    rw [pN_k (by omega)]
    by_cases g1 : xin r 1 100
    · have w1 : nI (if xbt r (nI 1) (nI 100) then 1 else 0) = nI 1 := bIf g1
      rw [if_pos g1]
      obtain ⟨b, b1, b2, rfl⟩ := xin_y (by decide) (by decide) g1
      by_cases g2 : ¬ nI 600 < z (15 + a) + nI b
      · rw [if_pos g2, ← zbuy_m z (nI b) a1]
        have e9 : (upd (upd z (9 + a) (z (9 + a) + nI b)) (15 + a) ((upd z (9 + a) (z (9 + a) + nI b)) (15 + a) + nI b)) (9 + a) = (upd z (9 + a) (z (9 + a) + nI b)) (9 + a) := upd_ne (by omega)
        refine xw_aload_n 1 dX5_buy_0 rfl rfl rfl ?_
        refine xw_iload_n 2 dX5_buy_1 rfl rfl ?_
        refine xw_pS 5 dX5_buy_2 rfl ok_M_isColour s_X5_108 (S_M_isColour) (mH_len) rfl rfl rfl rfl rfl rfl ?_
        refine xw_if_eq 18 8 dX5_buy_5 rfl rfl (fun h5 => absurd h5 (by rw [w0]; decide)) (fun h5 => ?_)
        refine xw_iload_n 9 dX5_buy_8 rfl rfl ?_
        refine xw_iconst 10 (nI 1) dX5_buy_9 rfl (xofI 1) ?_
        refine xw_bipush 12 (nI 100) dX5_buy_10 rfl (by decide) ?_
        refine xw_pS 15 dX5_buy_12 rfl ok_M_within s_X5_47 (S_M_within) (mH_len) rfl rfl rfl rfl rfl rfl ?_
        refine xw_if_ne 22 18 dX5_buy_15 rfl rfl (fun h15 => ?_) (fun h15 => absurd h15 (by rw [w1]; decide))
        refine xw_aload_n 23 dX5_buy_22 rfl rfl rfl ?_
        refine xw_get 26 dX5_buy_23 rfl f_X5_7 (xA hA rfl) rfl ?_
        refine xw_bipush 28 (nI 15) dX5_buy_26 rfl (by decide) ?_
        refine xw_iload_n 29 dX5_buy_28 rfl rfl ?_
        refine xw_iadd 30 dX5_buy_29 rfl ?_
        refine xw_iaload (j := _) 31 dX5_buy_30 rfl (xA hA rfl) (nI_add _ _) (by omega) (by omega) ?_
        refine xw_iload_n 32 dX5_buy_31 rfl rfl ?_
        refine xw_iadd 33 dX5_buy_32 rfl ?_
        refine xw_sipush 36 (nI 600) dX5_buy_33 rfl (by decide) ?_
        refine xw_icmp_le 43 39 dX5_buy_36 rfl rfl (fun h36 => ?_) (fun h36 => absurd ((Int32.not_lt.mp g2)) h36)
        refine xw_iconst 44 (nI 0) dX5_buy_43 rfl (xofI 0) ?_
        refine xw_put (hp' := (mH A z (nI s) hi (nI ln) tx (nI 0) ot oR oC wa pR pC pM ps rr ha nu fe kc hs T)) 47 dX5_buy_44 rfl f_X5_40 (xA hA rfl) ⟨rfl, rfl⟩ rfl rfl (xAs hA rfl) ?_
        refine xw_aload_n 48 dX5_buy_47 rfl rfl rfl ?_
        refine xw_get 51 dX5_buy_48 rfl f_X5_40 (xA hA rfl) rfl ?_
        refine xw_if_le 56 54 dX5_buy_51 rfl rfl (fun h51 => ?_) (fun h51 => absurd (by decide) h51)
        refine xw_aload_n 57 dX5_buy_56 rfl rfl rfl ?_
        refine xw_pVv 60 dX5_buy_57 rfl ok_M_save s_X5_95 (S_M_save hA hs6) (mH_len) (xA hA rfl) rfl rfl rfl rfl rfl rfl rfl ?_
        refine xw_aload_n 61 dX5_buy_60 rfl rfl rfl ?_
        refine xw_get 64 dX5_buy_61 rfl f_X5_7 (xA hA rfl) rfl ?_
        refine xw_bipush 66 (nI 9) dX5_buy_64 rfl (by decide) ?_
        refine xw_iload_n 67 dX5_buy_66 rfl rfl ?_
        refine xw_iadd 68 dX5_buy_67 rfl ?_
        refine xw_dup2 69 dX5_buy_68 rfl rfl rfl ?_
        refine xw_iaload (j := _) 70 dX5_buy_69 rfl (xA hA rfl) (nI_add _ _) (by omega) (by omega) ?_
        refine xw_iload_n 71 dX5_buy_70 rfl rfl ?_
        refine xw_iadd 72 dX5_buy_71 rfl ?_
        refine xw_iastore (j := 9 + a) (hp' := (mH A (upd z (9 + a) (z (9 + a) + nI b)) (nI (zrM s)) (mhis z hi s) (nI ln) tx (nI 0) ot oR oC wa pR pC pM ps rr ha nu fe kc hs T)) 73 dX5_buy_72 rfl (xA hA rfl) (nI_add _ _) (by omega) (by omega) (xAs hA rfl) ?_
        refine xw_aload_n 74 dX5_buy_73 rfl rfl rfl ?_
        refine xw_get 77 dX5_buy_74 rfl f_X5_7 (xA hA rfl) rfl ?_
        refine xw_bipush 79 (nI 15) dX5_buy_77 rfl (by decide) ?_
        refine xw_iload_n 80 dX5_buy_79 rfl rfl ?_
        refine xw_iadd 81 dX5_buy_80 rfl ?_
        refine xw_dup2 82 dX5_buy_81 rfl rfl rfl ?_
        refine xw_iaload (j := _) 83 dX5_buy_82 rfl (xA hA rfl) (nI_add _ _) (by omega) (by omega) ?_
        refine xw_iload_n 84 dX5_buy_83 rfl rfl ?_
        refine xw_iadd 85 dX5_buy_84 rfl ?_
        refine xw_iastore (j := 15 + a) (hp' := (mH A (upd (upd z (9 + a) (z (9 + a) + nI b)) (15 + a) ((upd z (9 + a) (z (9 + a) + nI b)) (15 + a) + nI b)) (nI (zrM s)) (mhis z hi s) (nI ln) tx (nI 0) ot oR oC wa pR pC pM ps rr ha nu fe kc hs T)) 86 dX5_buy_85 rfl (xA hA rfl) (nI_add _ _) (by omega) (by omega) (xAs hA rfl) ?_
        refine xw_aload_n 87 dX5_buy_86 rfl rfl rfl ?_
        refine xw_get 90 dX5_buy_87 rfl f_X5_7 (xA hA rfl) rfl ?_
        refine xw_bipush 92 (nI 9) dX5_buy_90 rfl (by decide) ?_
        refine xw_iload_n 93 dX5_buy_92 rfl rfl ?_
        refine xw_iadd 94 dX5_buy_93 rfl ?_
        refine xw_iaload (j := _) 95 dX5_buy_94 rfl (xA hA rfl) (nI_add _ _) (by omega) (by omega) ?_
        exact xw_ireturn dX5_buy_95 rfl (⟨rfl, (ot, oR, oC, wa, pR, pC, pM, ps, rr, ha, nu, fe, kc, hs), rfl⟩)
      · rw [if_neg g2]
        refine xw_aload_n 1 dX5_buy_0 rfl rfl rfl ?_
        refine xw_iload_n 2 dX5_buy_1 rfl rfl ?_
        refine xw_pS 5 dX5_buy_2 rfl ok_M_isColour s_X5_108 (S_M_isColour) (mH_len) rfl rfl rfl rfl rfl rfl ?_
        refine xw_if_eq 18 8 dX5_buy_5 rfl rfl (fun h5 => absurd h5 (by rw [w0]; decide)) (fun h5 => ?_)
        refine xw_iload_n 9 dX5_buy_8 rfl rfl ?_
        refine xw_iconst 10 (nI 1) dX5_buy_9 rfl (xofI 1) ?_
        refine xw_bipush 12 (nI 100) dX5_buy_10 rfl (by decide) ?_
        refine xw_pS 15 dX5_buy_12 rfl ok_M_within s_X5_47 (S_M_within) (mH_len) rfl rfl rfl rfl rfl rfl ?_
        refine xw_if_ne 22 18 dX5_buy_15 rfl rfl (fun h15 => ?_) (fun h15 => absurd h15 (by rw [w1]; decide))
        refine xw_aload_n 23 dX5_buy_22 rfl rfl rfl ?_
        refine xw_get 26 dX5_buy_23 rfl f_X5_7 (xA hA rfl) rfl ?_
        refine xw_bipush 28 (nI 15) dX5_buy_26 rfl (by decide) ?_
        refine xw_iload_n 29 dX5_buy_28 rfl rfl ?_
        refine xw_iadd 30 dX5_buy_29 rfl ?_
        refine xw_iaload (j := _) 31 dX5_buy_30 rfl (xA hA rfl) (nI_add _ _) (by omega) (by omega) ?_
        refine xw_iload_n 32 dX5_buy_31 rfl rfl ?_
        refine xw_iadd 33 dX5_buy_32 rfl ?_
        refine xw_sipush 36 (nI 600) dX5_buy_33 rfl (by decide) ?_
        refine xw_icmp_le 43 39 dX5_buy_36 rfl rfl (fun h36 => absurd h36 ((Int32.not_le.mpr (Decidable.of_not_not g2)))) (fun h36 => ?_)
        refine xw_iconst 40 (nI 2) dX5_buy_39 rfl (xofI 2) ?_
        refine xw_goto 44 dX5_buy_40 rfl ?_
        refine xw_put (hp' := (mH A z (nI s) hi (nI ln) tx (nI 2) ot oR oC wa pR pC pM ps rr ha nu fe kc hs T)) 47 dX5_buy_44 rfl f_X5_40 (xA hA rfl) ⟨rfl, rfl⟩ rfl rfl (xAs hA rfl) ?_
        refine xw_aload_n 48 dX5_buy_47 rfl rfl rfl ?_
        refine xw_get 51 dX5_buy_48 rfl f_X5_40 (xA hA rfl) rfl ?_
        refine xw_if_le 56 54 dX5_buy_51 rfl rfl (fun h51 => absurd h51 (by decide)) (fun h51 => ?_)
        refine xw_iconst 55 (nI 0) dX5_buy_54 rfl (xofI 0) ?_
        exact xw_ireturn dX5_buy_55 rfl (⟨rfl, (ot, oR, oC, wa, pR, pC, pM, ps, rr, ha, nu, fe, kc, hs), rfl⟩)
    · have w1 : nI (if xbt r (nI 1) (nI 100) then 1 else 0) = nI 0 := bIfn g1
      rw [if_neg g1]
      refine xw_aload_n 1 dX5_buy_0 rfl rfl rfl ?_
      refine xw_iload_n 2 dX5_buy_1 rfl rfl ?_
      refine xw_pS 5 dX5_buy_2 rfl ok_M_isColour s_X5_108 (S_M_isColour) (mH_len) rfl rfl rfl rfl rfl rfl ?_
      refine xw_if_eq 18 8 dX5_buy_5 rfl rfl (fun h5 => absurd h5 (by rw [w0]; decide)) (fun h5 => ?_)
      refine xw_iload_n 9 dX5_buy_8 rfl rfl ?_
      refine xw_iconst 10 (nI 1) dX5_buy_9 rfl (xofI 1) ?_
      refine xw_bipush 12 (nI 100) dX5_buy_10 rfl (by decide) ?_
      refine xw_pS 15 dX5_buy_12 rfl ok_M_within s_X5_47 (S_M_within) (mH_len) rfl rfl rfl rfl rfl rfl ?_
      refine xw_if_ne 22 18 dX5_buy_15 rfl rfl (fun h15 => absurd (w1) h15) (fun h15 => ?_)
      refine xw_iconst 19 (nI 1) dX5_buy_18 rfl (xofI 1) ?_
      refine xw_goto 44 dX5_buy_19 rfl ?_
      refine xw_put (hp' := (mH A z (nI s) hi (nI ln) tx (nI 1) ot oR oC wa pR pC pM ps rr ha nu fe kc hs T)) 47 dX5_buy_44 rfl f_X5_40 (xA hA rfl) ⟨rfl, rfl⟩ rfl rfl (xAs hA rfl) ?_
      refine xw_aload_n 48 dX5_buy_47 rfl rfl rfl ?_
      refine xw_get 51 dX5_buy_48 rfl f_X5_40 (xA hA rfl) rfl ?_
      refine xw_if_le 56 54 dX5_buy_51 rfl rfl (fun h51 => absurd h51 (by decide)) (fun h51 => ?_)
      refine xw_iconst 55 (nI 0) dX5_buy_54 rfl (xofI 0) ?_
      exact xw_ireturn dX5_buy_55 rfl (⟨rfl, (ot, oR, oC, wa, pR, pC, pM, ps, rr, ha, nu, fe, kc, hs), rfl⟩)
  · have w0 : nI (if xlt p 6 then 1 else 0) = nI 0 := bIfn g0
    rw [if_neg g0]
    refine xw_aload_n 1 dX5_buy_0 rfl rfl rfl ?_
    refine xw_iload_n 2 dX5_buy_1 rfl rfl ?_
    refine xw_pS 5 dX5_buy_2 rfl ok_M_isColour s_X5_108 (S_M_isColour) (mH_len) rfl rfl rfl rfl rfl rfl ?_
    refine xw_if_eq 18 8 dX5_buy_5 rfl rfl (fun h5 => ?_) (fun h5 => absurd (w0) h5)
    refine xw_iconst 19 (nI 1) dX5_buy_18 rfl (xofI 1) ?_
    refine xw_goto 44 dX5_buy_19 rfl ?_
    refine xw_put (hp' := (mH A z (nI s) hi (nI ln) tx (nI 1) ot oR oC wa pR pC pM ps rr ha nu fe kc hs T)) 47 dX5_buy_44 rfl f_X5_40 (xA hA rfl) ⟨rfl, rfl⟩ rfl rfl (xAs hA rfl) ?_
    refine xw_aload_n 48 dX5_buy_47 rfl rfl rfl ?_
    refine xw_get 51 dX5_buy_48 rfl f_X5_40 (xA hA rfl) rfl ?_
    refine xw_if_le 56 54 dX5_buy_51 rfl rfl (fun h51 => absurd h51 (by decide)) (fun h51 => ?_)
    refine xw_iconst 55 (nI 0) dX5_buy_54 rfl (xofI 0) ?_
    exact xw_ireturn dX5_buy_55 rfl (⟨rfl, (ot, oR, oC, wa, pR, pC, pM, ps, rr, ha, nu, fe, kc, hs), rfl⟩)
theorem S_M_append {p : Int32} (hA : A.length = 71) (I : xInv z) (hs6 : s ≤ 6) (hl : ln ≤ 60) : xMet G M_append [.ref 71, .int p] (mH A z (nI s) hi (nI ln) tx th ot oR oC wa pR pC pM ps rr ha nu fe kc hs T) x 0 0 (xQm A T (oAppM (z, hi, s, ln, tx) p).1 (oAppM (z, hi, s, ln, tx) p).2) := by
  unfold oAppM
  dsimp only
  by_cases g0 : xin p 33 126
  · have w0 : nI (if xbt p (nI 33) (nI 126) then 1 else 0) = nI 1 := bIf g0
    rw [if_pos g0]
    by_cases g1 : ln < 60
    · rw [if_pos g1]
      refine xw_aload_n 1 dX5_append_0 rfl rfl rfl ?_
      refine xw_iload_n 2 dX5_append_1 rfl rfl ?_
      refine xw_bipush 4 (nI 33) dX5_append_2 rfl (by decide) ?_
      refine xw_bipush 6 (nI 126) dX5_append_4 rfl (by decide) ?_
      refine xw_pS 9 dX5_append_6 rfl ok_M_within s_X5_47 (S_M_within) (mH_len) rfl rfl rfl rfl rfl rfl ?_
      refine xw_if_ne 16 12 dX5_append_9 rfl rfl (fun h9 => ?_) (fun h9 => absurd h9 (by rw [w0]; decide))
      refine xw_aload_n 17 dX5_append_16 rfl rfl rfl ?_
      refine xw_get 20 dX5_append_17 rfl f_X5_85 (xA hA rfl) rfl ?_
      refine xw_bipush 22 (nI 60) dX5_append_20 rfl (by decide) ?_
      refine xw_icmp_ne 29 25 dX5_append_22 rfl rfl (fun h22 => ?_) (fun h22 => absurd h22 (fun q => by rw [nI_eq (by omega) (by decide)] at q; omega))
      refine xw_iconst 30 (nI 0) dX5_append_29 rfl (xofI 0) ?_
      refine xw_put (hp' := (mH A z (nI s) hi (nI ln) tx (nI 0) ot oR oC wa pR pC pM ps rr ha nu fe kc hs T)) 33 dX5_append_30 rfl f_X5_40 (xA hA rfl) ⟨rfl, rfl⟩ rfl rfl (xAs hA rfl) ?_
      refine xw_aload_n 34 dX5_append_33 rfl rfl rfl ?_
      refine xw_get 37 dX5_append_34 rfl f_X5_40 (xA hA rfl) rfl ?_
      refine xw_if_le 42 40 dX5_append_37 rfl rfl (fun h37 => ?_) (fun h37 => absurd (by decide) h37)
      refine xw_aload_n 43 dX5_append_42 rfl rfl rfl ?_
      refine xw_get 46 dX5_append_43 rfl f_X5_16 (xA hA rfl) rfl ?_
      refine xw_aload_n 47 dX5_append_46 rfl rfl rfl ?_
      refine xw_get 50 dX5_append_47 rfl f_X5_85 (xA hA rfl) rfl ?_
      refine xw_iload_n 51 dX5_append_50 rfl rfl ?_
      refine xw_iastore (j := ln) (hp' := (mH A z (nI s) hi (nI ln) (upd tx ln p) (nI 0) ot oR oC wa pR pC pM ps rr ha nu fe kc hs T)) 52 dX5_append_51 rfl (xA hA rfl) (rfl) (by omega) (by omega) (xAs hA rfl) ?_
      refine xw_aload_n 53 dX5_append_52 rfl rfl rfl ?_
      refine xw_dup 54 dX5_append_53 rfl rfl ?_
      refine xw_get 57 dX5_append_54 rfl f_X5_85 (xA hA rfl) rfl ?_
      refine xw_iconst 58 (nI 1) dX5_append_57 rfl (xofI 1) ?_
      refine xw_iadd 59 dX5_append_58 rfl ?_
      rw [nI_add]
      refine xw_put (hp' := (mH A z (nI s) hi (nI (ln + 1)) (upd tx ln p) (nI 0) ot oR oC wa pR pC pM ps rr ha nu fe kc hs T)) 62 dX5_append_59 rfl f_X5_85 (xA hA rfl) ⟨rfl, rfl⟩ rfl rfl (xAs hA rfl) ?_
      refine xw_aload_n 63 dX5_append_62 rfl rfl rfl ?_
      refine xw_get 66 dX5_append_63 rfl f_X5_85 (xA hA rfl) rfl ?_
      exact xw_ireturn dX5_append_66 rfl (⟨rfl, (ot, oR, oC, wa, pR, pC, pM, ps, rr, ha, nu, fe, kc, hs), rfl⟩)
    · rw [if_neg g1]
      refine xw_aload_n 1 dX5_append_0 rfl rfl rfl ?_
      refine xw_iload_n 2 dX5_append_1 rfl rfl ?_
      refine xw_bipush 4 (nI 33) dX5_append_2 rfl (by decide) ?_
      refine xw_bipush 6 (nI 126) dX5_append_4 rfl (by decide) ?_
      refine xw_pS 9 dX5_append_6 rfl ok_M_within s_X5_47 (S_M_within) (mH_len) rfl rfl rfl rfl rfl rfl ?_
      refine xw_if_ne 16 12 dX5_append_9 rfl rfl (fun h9 => ?_) (fun h9 => absurd h9 (by rw [w0]; decide))
      refine xw_aload_n 17 dX5_append_16 rfl rfl rfl ?_
      refine xw_get 20 dX5_append_17 rfl f_X5_85 (xA hA rfl) rfl ?_
      refine xw_bipush 22 (nI 60) dX5_append_20 rfl (by decide) ?_
      refine xw_icmp_ne 29 25 dX5_append_22 rfl rfl (fun h22 => absurd (congrArg nI (show ln = 60 by omega)) h22) (fun h22 => ?_)
      refine xw_iconst 26 (nI 2) dX5_append_25 rfl (xofI 2) ?_
      refine xw_goto 30 dX5_append_26 rfl ?_
      refine xw_put (hp' := (mH A z (nI s) hi (nI ln) tx (nI 2) ot oR oC wa pR pC pM ps rr ha nu fe kc hs T)) 33 dX5_append_30 rfl f_X5_40 (xA hA rfl) ⟨rfl, rfl⟩ rfl rfl (xAs hA rfl) ?_
      refine xw_aload_n 34 dX5_append_33 rfl rfl rfl ?_
      refine xw_get 37 dX5_append_34 rfl f_X5_40 (xA hA rfl) rfl ?_
      refine xw_if_le 42 40 dX5_append_37 rfl rfl (fun h37 => absurd h37 (by decide)) (fun h37 => ?_)
      refine xw_iconst 41 (nI 0) dX5_append_40 rfl (xofI 0) ?_
      exact xw_ireturn dX5_append_41 rfl (⟨rfl, (ot, oR, oC, wa, pR, pC, pM, ps, rr, ha, nu, fe, kc, hs), rfl⟩)
  · have w0 : nI (if xbt p (nI 33) (nI 126) then 1 else 0) = nI 0 := bIfn g0
    rw [if_neg g0]
    refine xw_aload_n 1 dX5_append_0 rfl rfl rfl ?_
    refine xw_iload_n 2 dX5_append_1 rfl rfl ?_
    refine xw_bipush 4 (nI 33) dX5_append_2 rfl (by decide) ?_
    refine xw_bipush 6 (nI 126) dX5_append_4 rfl (by decide) ?_
    refine xw_pS 9 dX5_append_6 rfl ok_M_within s_X5_47 (S_M_within) (mH_len) rfl rfl rfl rfl rfl rfl ?_
    refine xw_if_ne 16 12 dX5_append_9 rfl rfl (fun h9 => absurd (w0) h9) (fun h9 => ?_)
    refine xw_iconst 13 (nI 1) dX5_append_12 rfl (xofI 1) ?_
    refine xw_goto 30 dX5_append_13 rfl ?_
    refine xw_put (hp' := (mH A z (nI s) hi (nI ln) tx (nI 1) ot oR oC wa pR pC pM ps rr ha nu fe kc hs T)) 33 dX5_append_30 rfl f_X5_40 (xA hA rfl) ⟨rfl, rfl⟩ rfl rfl (xAs hA rfl) ?_
    refine xw_aload_n 34 dX5_append_33 rfl rfl rfl ?_
    refine xw_get 37 dX5_append_34 rfl f_X5_40 (xA hA rfl) rfl ?_
    refine xw_if_le 42 40 dX5_append_37 rfl rfl (fun h37 => absurd h37 (by decide)) (fun h37 => ?_)
    refine xw_iconst 41 (nI 0) dX5_append_40 rfl (xofI 0) ?_
    exact xw_ireturn dX5_append_41 rfl (⟨rfl, (ot, oR, oC, wa, pR, pC, pM, ps, rr, ha, nu, fe, kc, hs), rfl⟩)
theorem S_M_clearBuffer (hA : A.length = 71) : xMet G M_clearBuffer [.ref 71] (mH A z (nI s) hi (nI ln) tx th ot oR oC wa pR pC pM ps rr ha nu fe kc hs T) x 0 0 (xQm A T (0, nI ln) (z, hi, s, 0, tx)) := by
  refine xw_aload_n 1 dX5_clearBuffer_0 rfl rfl rfl ?_
  refine xw_iconst 2 (nI 0) dX5_clearBuffer_1 rfl (xofI 0) ?_
  refine xw_put (hp' := (mH A z (nI s) hi (nI ln) tx (nI 0) ot oR oC wa pR pC pM ps rr ha nu fe kc hs T)) 5 dX5_clearBuffer_2 rfl f_X5_40 (xA hA rfl) ⟨rfl, rfl⟩ rfl rfl (xAs hA rfl) ?_
  refine xw_aload_n 6 dX5_clearBuffer_5 rfl rfl rfl ?_
  refine xw_get 9 dX5_clearBuffer_6 rfl f_X5_85 (xA hA rfl) rfl ?_
  refine xw_istore_n (ls' := [(1, _), (0, _)]) 10 dX5_clearBuffer_9 rfl rfl rfl ?_
  refine xw_aload_n 11 dX5_clearBuffer_10 rfl rfl rfl ?_
  refine xw_iconst 12 (nI 0) dX5_clearBuffer_11 rfl (xofI 0) ?_
  refine xw_put (hp' := (mH A z (nI s) hi (nI 0) tx (nI 0) ot oR oC wa pR pC pM ps rr ha nu fe kc hs T)) 15 dX5_clearBuffer_12 rfl f_X5_85 (xA hA rfl) ⟨rfl, rfl⟩ rfl rfl (xAs hA rfl) ?_
  refine xw_iload_n 16 dX5_clearBuffer_15 rfl rfl ?_
  exact xw_ireturn dX5_clearBuffer_16 rfl (⟨rfl, (ot, oR, oC, wa, pR, pC, pM, ps, rr, ha, nu, fe, kc, hs), rfl⟩)
theorem S_M_thrown (hA : A.length = 71) : xMet G M_thrown [.ref 71] (mH A z (nI s) hi (nI ln) tx th ot oR oC wa pR pC pM ps rr ha nu fe kc hs T) x 0 0 (xRetV (.int th) (mH A z (nI s) hi (nI ln) tx th ot oR oC wa pR pC pM ps rr ha nu fe kc hs T)) := by
  refine xw_aload_n 1 dX5_thrown_0 rfl rfl rfl ?_
  refine xw_get 4 dX5_thrown_1 rfl f_X5_40 (xA hA rfl) rfl ?_
  exact xw_ireturn dX5_thrown_4 rfl (⟨rfl, rfl⟩)
end P43

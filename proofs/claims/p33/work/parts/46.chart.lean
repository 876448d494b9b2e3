/-! ===== the law: chart ===== -/
theorem nI_gt1 {a : Nat} (h : a < 2 ^ 31) (q : ¬ nI a ≤ nI 1) : 2 ≤ a := Decidable.byContradiction fun g => q (nI_le (by omega) (by decide))
section P46
variable {G : xG} {x : Nat} {w n be st : Nat → Int32} {sv : Nat → Nat → Int32} {q m : Nat} {J : List xE} {a b a5 a8 : Int32} {kc ks R C : Nat}
theorem chP {i j M v : Nat} {ch1 : Nat → Int32} {w1 co1 : Nat → Int32} {ln1 : Nat} {sx1 : xSx} (hv : v < 6) (hi : i ≤ 3) (hj : j + M ≤ 7) (next : ∀ ch2 : Nat → Int32, (∀ b, b < M → bcol ch2 (i * 12 + (j + b)) = nI v) → (∀ p, p < i * 12 + j → bcol ch2 p = bcol ch1 p) → xW G L_chart lwQ 241 [(10, .int (nI M)), (9, .int (nI v)), (8, .int a8), (7, .int (nI j)), (6, .int (nI i)), (5, .int a5), (0, .ref 0), (1, .int a), (2, .int b), (3, .ref 71), (4, .ref 72)] [] (bHp w1 sv (nI q) (nI m) (nI ln1) co1 sx1 (lT n ch2 be st J)) x kc ks) :
    ∀ (t e : Nat) (ch2 : Nat → Int32), e + t = M → (∀ b, b < e → bcol ch2 (i * 12 + (j + b)) = nI v) → (∀ p, p < i * 12 + j → bcol ch2 p = bcol ch1 p) → xW G L_chart lwQ 210 [(11, .int (nI e)), (10, .int (nI M)), (9, .int (nI v)), (8, .int a8), (7, .int (nI j)), (6, .int (nI i)), (5, .int a5), (0, .ref 0), (1, .int a), (2, .int b), (3, .ref 71), (4, .ref 72)] [] (bHp w1 sv (nI q) (nI m) (nI ln1) co1 sx1 (lT n ch2 be st J)) x kc ks := by
  intro t
  induction t with
  | zero =>
    intro e ch2 he h1 h2
    obtain rfl : e = M := by omega
    have next := next ch2 h1 h2
    refine xw_iload 212 dL_chart_210 rfl rfl ?_
    refine xw_iload 214 dL_chart_212 rfl rfl ?_
    refine xw_icmp_ge 241 217 dL_chart_214 rfl rfl (fun h214 => ?_) (fun h214 => absurd (nI_le (by omega) (by omega)) h214)
    exact xW.pick [1, 2, 3, 4, 5, 6, 7, 8, 9, 10, 11] rfl (next)
  | succ t ih =>
    intro e ch2 he h1 h2
    have ih := ih (e + 1) (lput ch2 (12 * i + j + e) v) (by omega) (fun p hp => by
      rw [show i * 12 + (j + p) = 12 * i + j + p by omega]
      by_cases g : p = e
      · rw [g]; exact lput_at (by omega)
      · rw [lput_ne (by omega) (by omega), ← h1 p (by omega)]
        congr 1
        omega) (fun p hp => by rw [lput_ne (by omega) (by omega)]; exact h2 p hp)
    refine xw_iload 212 dL_chart_210 rfl rfl ?_
    refine xw_iload 214 dL_chart_212 rfl rfl ?_
    refine xw_icmp_ge 241 217 dL_chart_214 rfl rfl (fun h214 => absurd h214 (nI_ge (by omega) (by omega))) (fun h214 => ?_)
    refine xw_aload 219 dL_chart_217 rfl rfl rfl ?_
    refine xw_bipush 221 (nI 12) dL_chart_219 rfl (by decide) ?_
    refine xw_iload 223 dL_chart_221 rfl rfl ?_
    refine xw_imul 224 dL_chart_223 rfl ?_
    rw [pk_mul]
    refine xw_iload 226 dL_chart_224 rfl rfl ?_
    refine xw_iadd 227 dL_chart_226 rfl ?_
    rw [nI_add]
    refine xw_iload 229 dL_chart_227 rfl rfl ?_
    refine xw_iadd 230 dL_chart_229 rfl ?_
    rw [nI_add]
    refine xw_iload 232 dL_chart_230 rfl rfl ?_
    refine xw_pSv 235 dL_chart_232 rfl ok_L_put s_L_36 (S_L_put (h1 := (bHp w1 sv (nI q) (nI m) (nI ln1) co1 sx1 (lT n (lput ch2 (12 * i + j + e) v) be st J))) lT_c (by omega) (by omega) lT_sc) (rfl) rfl rfl rfl rfl rfl rfl ?_
    refine xw_iinc (ls' := [(11, _), (10, _), (9, _), (8, _), (7, _), (6, _), (5, _), (0, _), (1, _), (2, _), (3, _), (4, _)]) 238 _ dL_chart_235 rfl rfl (xnI_inc _) rfl rfl ?_
    refine xw_goto 210 dL_chart_238 rfl ?_
    exact xW.pick [0, 1, 2, 3, 4, 5, 6, 7, 8, 9, 10, 11] rfl (ih)
theorem chJ {i : Nat} (e1 : n 1 = nI C) (hi : i ≤ 3) (hC1 : 1 ≤ C) (hC7 : C ≤ 7) (next : ∀ (w1 : Nat → Int32) (sx1 : xSx) (ln1 : Nat) (co1 : Nat → Int32) (ch1 : Nat → Int32), xag w1 w → lCX C i C 0 ln1 co1 ch1 → xW G L_chart lwQ 254 [(6, .int (nI i)), (5, .int (nI ln1)), (0, .ref 0), (1, .int a), (2, .int b), (3, .ref 71), (4, .ref 72)] [] (bHp w1 sv (nI q) (nI m) (nI ln1) co1 sx1 (lT n ch1 be st J)) x kc ks) :
    ∀ (t j : Nat) (a8 : Int32) (w1 : Nat → Int32) (sx1 : xSx) (ln1 : Nat) (co1 : Nat → Int32) (ch1 : Nat → Int32), xag w1 w → lCX C i j 0 ln1 co1 ch1 → j ≤ C → C ≤ j + t → xW G L_chart lwQ 69 [(8, .int a8), (7, .int (nI (j))), (6, .int (nI i)), (5, .int (nI ln1)), (0, .ref 0), (1, .int a), (2, .int b), (3, .ref 71), (4, .ref 72)] [] (bHp w1 sv (nI q) (nI m) (nI ln1) co1 sx1 (lT n ch1 be st J)) x (t * 2 + kc) (t * 12 + ks) := by
  intro t
  induction t with
  | zero =>
    intro j a8 w1 sx1 ln1 co1 ch1 A1 X hj hj2
    obtain rfl : j = C := by omega
    have next := next w1 sx1 ln1 co1 ch1 A1 X
    simp only [Nat.zero_mul, Nat.zero_add]
    refine xw_iload 71 dL_chart_69 rfl rfl ?_
    refine xw_aload_n 72 dL_chart_71 rfl rfl rfl ?_
    refine xw_iconst 73 (nI 1) dL_chart_72 rfl (xofI 1) ?_
    refine xw_ialv (j := 1) 74 dL_chart_73 rfl (lT_n) (rfl) (by decide) (by decide) (e1) ?_
    refine xw_icmp_ge 254 77 dL_chart_74 rfl rfl (fun h74 => ?_) (fun h74 => absurd (nI_le (by omega) (by omega)) h74)
    exact xW.pick [2, 3, 4, 5, 6, 7, 8] rfl (next)
  | succ t ih =>
    intro j a8 w1 sx1 ln1 co1 ch1 A1 X hj hj2
    by_cases hjC : j < C
    · rw [show (t + 1) * 2 + kc = t * 2 + kc + 2 by omega, show (t + 1) * 12 + ks = t * 12 + ks + 12 by omega]
      have s178 : ∀ (M M0 v : Nat) (w1 : Nat → Int32) (sx1 : xSx) (ln1 : Nat) (co1 : Nat → Int32), M = max 1 M0 → M0 ≠ 1 → v < 6 → j + M ≤ C → xag w1 w → lCX C i j M0 ln1 co1 ch1 → xW G L_chart lwQ 178 [(10, .int (nI M)), (9, .int (nI v)), (8, .int a8), (7, .int (nI j)), (6, .int (nI i)), (5, .int (nI ln1)), (0, .ref 0), (1, .int a), (2, .int b), (3, .ref 71), (4, .ref 72)] [] (bHp w1 sv (nI q) (nI m) (nI ln1) co1 sx1 (lT n ch1 be st J)) x (t * 2 + kc + 1) (t * 12 + ks + 6) := by
        intro M M0 v w1 sx1 ln1 co1 hMM hM0 hv hjM A1 X
        have hln : ln1 ≤ 8 * i + j + (if M0 = 0 then 0 else 1) := X.2.2.2.2.2.2.1
        have hln2 : ln1 ≤ 8 * i + j + 1 := by split at hln <;> omega
        refine xw_aload_n 179 dL_chart_178 rfl rfl rfl ?_
        refine xw_iconst 180 (nI 1) dL_chart_179 rfl (xofI 1) ?_
        refine xw_pV 183 dL_chart_180 rfl ok_B_firstError s_L_32 (S_B_firstError (ch := true) (X.txt (by omega))) (rfl) (lT_o) rfl rfl rfl rfl rfl rfl rfl ?_
        rw [X.err]
        refine xw_iload 185 dL_chart_183 rfl rfl ?_
        refine xw_icmp_ne 205 188 dL_chart_185 rfl rfl (fun h185 => absurd (rfl) h185) (fun h185 => ?_)
        refine xw_aload_n 189 dL_chart_188 rfl rfl rfl ?_
        refine xw_bipush 191 (nI 97) dL_chart_189 rfl (by decide) ?_
        refine xw_iload 193 dL_chart_191 rfl rfl ?_
        refine xw_iadd 194 dL_chart_193 rfl ?_
        rw [nI_add]
        refine xw_lVQ 197 dL_chart_194 rfl ok_B_append s_L_28 (S_L_app (by omega) (by omega) (by omega)) (lq_nt) (lT_o) rfl rfl rfl rfl rfl rfl rfl rfl rfl (fun ov9 hp9 q9 => ?_)
        obtain ⟨q1, w2, sx2, A2, rfl⟩ := q9
        cases q1
        refine xW.cast (hp' := (bHp w2 sv (nI q) (nI m) (nI (ln1 + 1)) (upd co1 ln1 (nI (97 + v))) sx2 (lT n ch1 be st J))) rfl rfl rfl ?_
        refine xw_iinc (ls' := [(5, _), (10, _), (9, _), (8, _), (7, _), (6, _), (0, _), (1, _), (2, _), (3, _), (4, _)]) 200 _ dL_chart_197 rfl rfl (xnI_inc _) rfl rfl ?_
        refine xw_iload 202 dL_chart_200 rfl rfl ?_
        refine xw_icmp_eq 207 205 dL_chart_202 rfl rfl (fun h202 => ?_) (fun h202 => absurd (rfl) h202)
        refine xw_iconst 208 (nI 0) dL_chart_207 rfl (xofI 0) ?_
        refine xw_istore (ls' := [(11, _), (5, _), (10, _), (9, _), (8, _), (7, _), (6, _), (0, _), (1, _), (2, _), (3, _), (4, _)]) 210 dL_chart_208 rfl rfl rfl ?_
        refine xW.pick [0, 2, 3, 4, 5, 6, 1, 7, 8, 9, 10, 11] rfl (chP hv hi (by omega) (ch1 := ch1) (fun ch2 g1 g2 => ?_) M 0 ch1 (Nat.zero_add _) (fun b hb => absurd hb (Nat.not_lt_zero _)) (fun p hp => rfl))
        subst hMM
        have ih := ih (j + max 1 M0) (a8 + Int32.ofInt 1) w2 sx2 (ln1 + 1) (upd co1 ln1 (nI (97 + v))) ch2 (A2.trans A1) (X.letter hM0 hv hjM (by omega) g1 g2) hjM (by omega)
        refine xw_iload 243 dL_chart_241 rfl rfl ?_
        refine xw_iload 245 dL_chart_243 rfl rfl ?_
        refine xw_iadd 246 dL_chart_245 rfl ?_
        rw [nI_add]
        refine xw_istore (ls' := [(7, _), (10, _), (9, _), (8, _), (6, _), (5, _), (0, _), (1, _), (2, _), (3, _), (4, _)]) 248 dL_chart_246 rfl rfl rfl ?_
        refine xw_iinc (ls' := [(8, _), (7, _), (10, _), (9, _), (6, _), (5, _), (0, _), (1, _), (2, _), (3, _), (4, _)]) 251 _ dL_chart_248 rfl rfl (rfl) rfl rfl ?_
        refine xw_goto 69 dL_chart_251 rfl ?_
        exact xW.pick [0, 1, 4, 5, 6, 7, 8, 9, 10] rfl (xW.less (by omega) (by omega) ih)
      have s153 : ∀ M v, 1 ≤ M → v < 6 → j + M ≤ C → xW G L_chart lwQ 153 [(10, .int (nI M)), (9, .int (nI v)), (8, .int a8), (7, .int (nI j)), (6, .int (nI i)), (5, .int (nI ln1)), (0, .ref 0), (1, .int a), (2, .int b), (3, .ref 71), (4, .ref 72)] [] (bHp w1 sv (nI q) (nI m) (nI ln1) co1 sx1 (lT n ch1 be st J)) x (t * 2 + kc + 2) (t * 12 + ks + 12) := by
        intro M v hM1 hv hjM
        have hln : ln1 ≤ 8 * i + j + (if 0 = 0 then 0 else 1) := X.2.2.2.2.2.2.1
        rw [if_pos rfl] at hln
        by_cases hM : M = 1
        · subst hM
          have s := s178 1 0 v w1 sx1 ln1 co1 rfl (by decide) hv hjM A1 X
          refine xw_iload 155 dL_chart_153 rfl rfl ?_
          refine xw_iconst 156 (nI 1) dL_chart_155 rfl (xofI 1) ?_
          refine xw_icmp_le 178 159 dL_chart_156 rfl rfl (fun h156 => ?_) (fun h156 => absurd (by decide) h156)
          exact xW.pick [0, 1, 2, 3, 4, 5, 6, 7, 8, 9, 10] rfl (xW.less (by omega) (by omega) s)
        · have s := fun w2 sx2 (A2 : xag w2 w1) => s178 M M v w2 sx2 (ln1 + 1) (upd co1 ln1 (nI (48 + M))) (by omega) (by omega) hv hjM (A2.trans A1) (X.num (by omega) (by omega))
          refine xw_iload 155 dL_chart_153 rfl rfl ?_
          refine xw_iconst 156 (nI 1) dL_chart_155 rfl (xofI 1) ?_
          refine xw_icmp_le 178 159 dL_chart_156 rfl rfl (fun h156 => absurd h156 (nI_ge (by omega) (by omega))) (fun h156 => ?_)
          refine xw_aload_n 160 dL_chart_159 rfl rfl rfl ?_
          refine xw_bipush 162 (nI 48) dL_chart_160 rfl (by decide) ?_
          refine xw_iload 164 dL_chart_162 rfl rfl ?_
          refine xw_iadd 165 dL_chart_164 rfl ?_
          rw [nI_add]
          refine xw_lVQ 168 dL_chart_165 rfl ok_B_append s_L_28 (S_L_app (by omega) (by omega) (by omega)) (lq_nt) (lT_o) rfl rfl rfl rfl rfl rfl rfl rfl rfl (fun ov9 hp9 q9 => ?_)
          obtain ⟨q1, w2, sx2, A2, rfl⟩ := q9
          cases q1
          refine xW.cast (hp' := (bHp w2 sv (nI q) (nI m) (nI (ln1 + 1)) (upd co1 ln1 (nI (48 + M))) sx2 (lT n ch1 be st J))) rfl rfl rfl ?_
          refine xw_iinc (ls' := [(5, _), (10, _), (9, _), (8, _), (7, _), (6, _), (0, _), (1, _), (2, _), (3, _), (4, _)]) 171 _ dL_chart_168 rfl rfl (xnI_inc _) rfl rfl ?_
          refine xw_iload 173 dL_chart_171 rfl rfl ?_
          refine xw_icmp_eq 178 176 dL_chart_173 rfl rfl (fun h173 => ?_) (fun h173 => absurd (rfl) h173)
          exact xW.pick [1, 2, 3, 4, 5, 0, 6, 7, 8, 9, 10] rfl (s w2 sx2 A2)
      refine xw_iload 71 dL_chart_69 rfl rfl ?_
      refine xw_aload_n 72 dL_chart_71 rfl rfl rfl ?_
      refine xw_iconst 73 (nI 1) dL_chart_72 rfl (xofI 1) ?_
      refine xw_ialv (j := 1) 74 dL_chart_73 rfl (lT_n) (rfl) (by decide) (by decide) (e1) ?_
      refine xw_icmp_ge 254 77 dL_chart_74 rfl rfl (fun h74 => absurd h74 (nI_ge hjC (by omega))) (fun h74 => ?_)
      refine xw_iload_n 78 dL_chart_77 rfl rfl ?_
      refine xw_iconst 79 (nI 2) dL_chart_78 rfl (xofI 2) ?_
      refine xw_iload 81 dL_chart_79 rfl rfl ?_
      refine xw_imul 82 dL_chart_81 rfl ?_
      refine xw_iconst 83 (nI 3) dL_chart_82 rfl (xofI 3) ?_
      refine xw_iload 85 dL_chart_83 rfl rfl ?_
      refine xw_imul 86 dL_chart_85 rfl ?_
      refine xw_iadd 87 dL_chart_86 rfl ?_
      refine xw_bipush 89 (nI 29) dL_chart_87 rfl (by decide) ?_
      refine xw_irem 90 dL_chart_89 rfl (nI_ne0 (by decide) (by decide)) ?_
      refine xw_ishr 91 dL_chart_90 rfl ?_
      refine xw_bipush 93 (nI 6) dL_chart_91 rfl (by decide) ?_
      refine xw_lSQ 96 dL_chart_93 rfl ok_L_at s_L_24 (S_L_atQ (by decide) (by decide)) (lAt_nt) rfl rfl rfl rfl rfl rfl rfl rfl (fun ov9 hp9 q9 => ?_)
      obtain ⟨⟨v, hv, q1⟩, rfl⟩ := q9
      cases q1
      refine xw_istore (ls' := [(9, _), (8, _), (7, _), (6, _), (5, _), (0, _), (1, _), (2, _), (3, _), (4, _)]) 98 dL_chart_96 rfl rfl rfl ?_
      refine xw_iload_n 99 dL_chart_98 rfl rfl ?_
      refine xw_iload 101 dL_chart_99 rfl rfl ?_
      refine xw_iconst 102 (nI 5) dL_chart_101 rfl (xofI 5) ?_
      refine xw_iload 104 dL_chart_102 rfl rfl ?_
      refine xw_imul 105 dL_chart_104 rfl ?_
      refine xw_iadd 106 dL_chart_105 rfl ?_
      refine xw_bipush 108 (nI 27) dL_chart_106 rfl (by decide) ?_
      refine xw_irem 109 dL_chart_108 rfl (nI_ne0 (by decide) (by decide)) ?_
      refine xw_ishr 110 dL_chart_109 rfl ?_
      refine xw_iconst 111 (nI 3) dL_chart_110 rfl (xofI 3) ?_
      refine xw_lSQ 114 dL_chart_111 rfl ok_L_at s_L_24 (S_L_atQ (by decide) (by decide)) (lAt_nt) rfl rfl rfl rfl rfl rfl rfl rfl (fun ov9 hp9 q9 => ?_)
      obtain ⟨⟨u, hu, q1⟩, rfl⟩ := q9
      cases q1
      refine xw_if_ne 150 117 dL_chart_114 rfl rfl (fun hu0 => ?_) (fun hu0 => ?_)
      · refine xw_iconst 151 (nI 1) dL_chart_150 rfl (xofI 1) ?_
        refine xw_istore (ls' := [(10, _), (9, _), (8, _), (7, _), (6, _), (5, _), (0, _), (1, _), (2, _), (3, _), (4, _)]) 153 dL_chart_151 rfl rfl rfl ?_
        exact xW.pick [0, 1, 2, 3, 4, 5, 6, 7, 8, 9, 10] rfl (s153 1 v (by omega) hv (by omega))
      · refine xw_aload_n 118 dL_chart_117 rfl rfl rfl ?_
        refine xw_iconst 119 (nI 1) dL_chart_118 rfl (xofI 1) ?_
        refine xw_ialv (j := 1) 120 dL_chart_119 rfl (lT_n) (rfl) (by decide) (by decide) (e1) ?_
        refine xw_iload 122 dL_chart_120 rfl rfl ?_
        refine xw_isub 123 dL_chart_122 rfl ?_
        rw [pk_sub hj]
        refine xw_iconst 124 (nI 1) dL_chart_123 rfl (xofI 1) ?_
        refine xw_icmp_le 150 127 dL_chart_124 rfl rfl (fun hu1 => ?_) (fun hu1 => ?_)
        · refine xw_iconst 151 (nI 1) dL_chart_150 rfl (xofI 1) ?_
          refine xw_istore (ls' := [(10, _), (9, _), (8, _), (7, _), (6, _), (5, _), (0, _), (1, _), (2, _), (3, _), (4, _)]) 153 dL_chart_151 rfl rfl rfl ?_
          exact xW.pick [0, 1, 2, 3, 4, 5, 6, 7, 8, 9, 10] rfl (s153 1 v (by omega) hv (by omega))
        · refine xw_iconst 128 (nI 2) dL_chart_127 rfl (xofI 2) ?_
          refine xw_iload_n 129 dL_chart_128 rfl rfl ?_
          refine xw_iload 131 dL_chart_129 rfl rfl ?_
          refine xw_iload 133 dL_chart_131 rfl rfl ?_
          refine xw_iadd 134 dL_chart_133 rfl ?_
          refine xw_ishr 135 dL_chart_134 rfl ?_
          refine xw_aload_n 136 dL_chart_135 rfl rfl rfl ?_
          refine xw_iconst 137 (nI 1) dL_chart_136 rfl (xofI 1) ?_
          refine xw_ialv (j := 1) 138 dL_chart_137 rfl (lT_n) (rfl) (by decide) (by decide) (e1) ?_
          refine xw_iload 140 dL_chart_138 rfl rfl ?_
          refine xw_isub 141 dL_chart_140 rfl ?_
          rw [pk_sub hj]
          refine xw_iconst 142 (nI 1) dL_chart_141 rfl (xofI 1) ?_
          refine xw_isub 143 dL_chart_142 rfl ?_
          rw [pk_sub (show 1 ≤ C - j from Nat.le_of_lt (nI_gt1 (by omega) hu1))]
          refine xw_lSQ 146 dL_chart_143 rfl ok_L_at s_L_24 (S_L_atQ (by have := nI_gt1 (a := C - j) (by omega) hu1; omega) (by omega)) (lAt_nt) rfl rfl rfl rfl rfl rfl rfl rfl (fun ov9 hp9 q9 => ?_)
          obtain ⟨⟨y, hy, q1⟩, rfl⟩ := q9
          cases q1
          refine xw_iadd 147 dL_chart_146 rfl ?_
          rw [nI_add]
          refine xw_goto 151 dL_chart_147 rfl ?_
          refine xw_istore (ls' := [(10, _), (9, _), (8, _), (7, _), (6, _), (5, _), (0, _), (1, _), (2, _), (3, _), (4, _)]) 153 dL_chart_151 rfl rfl rfl ?_
          have hu9 := nI_gt1 (a := C - j) (by omega) hu1
          exact xW.pick [0, 1, 2, 3, 4, 5, 6, 7, 8, 9, 10] rfl (s153 (2 + y) v (by omega) hv (by omega))
    · obtain rfl : j = C := by omega
      have next := next w1 sx1 ln1 co1 ch1 A1 X
      refine xW.less (kc' := kc) (ks' := ks) (by omega) (by omega) ?_
      refine xw_iload 71 dL_chart_69 rfl rfl ?_
      refine xw_aload_n 72 dL_chart_71 rfl rfl rfl ?_
      refine xw_iconst 73 (nI 1) dL_chart_72 rfl (xofI 1) ?_
      refine xw_ialv (j := 1) 74 dL_chart_73 rfl (lT_n) (rfl) (by decide) (by decide) (e1) ?_
      refine xw_icmp_ge 254 77 dL_chart_74 rfl rfl (fun h74 => ?_) (fun h74 => absurd (nI_le (by omega) (by omega)) h74)
      exact xW.pick [2, 3, 4, 5, 6, 7, 8] rfl (next)
theorem chI (e0 : n 0 = nI R) (e1 : n 1 = nI C) (hR1 : 1 ≤ R) (hR4 : R ≤ 4) (hC1 : 1 ≤ C) (hC7 : C ≤ 7) (fin : ∀ (w1 : Nat → Int32) (sx1 : xSx) (ln1 : Nat) (co1 : Nat → Int32) (ch1 : Nat → Int32), xag w1 w → lCX C (R - 1) C 0 ln1 co1 ch1 → xW G L_chart lwQ 260 [(5, .int (nI ln1)), (0, .ref 0), (1, .int a), (2, .int b), (3, .ref 71), (4, .ref 72)] [] (bHp w1 sv (nI q) (nI m) (nI ln1) co1 sx1 (lT n ch1 be st J)) x kc ks) :
    ∀ (t i : Nat) (w1 : Nat → Int32) (sx1 : xSx) (ln1 : Nat) (co1 : Nat → Int32) (ch1 : Nat → Int32), i + t = R → xag w1 w → (if i = 0 then lCX C 0 0 0 ln1 co1 ch1 else lCX C (i - 1) C 0 ln1 co1 ch1) → xW G L_chart lwQ 34 [(6, .int (nI (i))), (5, .int (nI ln1)), (0, .ref 0), (1, .int a), (2, .int b), (3, .ref 71), (4, .ref 72)] [] (bHp w1 sv (nI q) (nI m) (nI ln1) co1 sx1 (lT n ch1 be st J)) x (t * 15 + kc) (t * 90 + ks) := by
  intro t
  induction t with
  | zero =>
    intro i w1 sx1 ln1 co1 ch1 hi A1 X
    obtain rfl : i = R := by omega
    rw [if_neg (by omega)] at X
    have fin := fin w1 sx1 ln1 co1 ch1 A1 X
    simp only [Nat.zero_mul, Nat.zero_add]
    refine xw_iload 36 dL_chart_34 rfl rfl ?_
    refine xw_aload_n 37 dL_chart_36 rfl rfl rfl ?_
    refine xw_iconst 38 (nI 0) dL_chart_37 rfl (xofI 0) ?_
    refine xw_ialv (j := 0) 39 dL_chart_38 rfl (lT_n) (rfl) (by decide) (by decide) (e0) ?_
    refine xw_icmp_ge 260 42 dL_chart_39 rfl rfl (fun h39 => ?_) (fun h39 => absurd (nI_le (by omega) (by omega)) h39)
    exact xW.pick [1, 2, 3, 4, 5, 6] rfl (fin)
  | succ t ih =>
    intro i w1 sx1 ln1 co1 ch1 hi A1 X
    rw [show (t + 1) * 15 + kc = t * 15 + kc + 15 by omega, show (t + 1) * 90 + ks = t * 90 + ks + 90 by omega]
    have s63 : ∀ (w1 : Nat → Int32) (sx1 : xSx) (ln1 : Nat) (co1 : Nat → Int32) (ch1 : Nat → Int32), xag w1 w → lCX C i 0 0 ln1 co1 ch1 → xW G L_chart lwQ 63 [(6, .int (nI (i))), (5, .int (nI ln1)), (0, .ref 0), (1, .int a), (2, .int b), (3, .ref 71), (4, .ref 72)] [] (bHp w1 sv (nI q) (nI m) (nI ln1) co1 sx1 (lT n ch1 be st J)) x (7 * 2 + (t * 15 + kc)) (7 * 12 + (t * 90 + ks)) := by
      intro w1 sx1 ln1 co1 ch1 A1 X
      refine xw_iconst 64 (nI 0) dL_chart_63 rfl (xofI 0) ?_
      refine xw_istore (ls' := [(7, _), (6, _), (5, _), (0, _), (1, _), (2, _), (3, _), (4, _)]) 66 dL_chart_64 rfl rfl rfl ?_
      refine xw_iconst 67 (nI 0) dL_chart_66 rfl (xofI 0) ?_
      refine xw_istore (ls' := [(8, _), (7, _), (6, _), (5, _), (0, _), (1, _), (2, _), (3, _), (4, _)]) 69 dL_chart_67 rfl rfl rfl ?_
      refine xW.pick [0, 1, 2, 3, 4, 5, 6, 7, 8] rfl (chJ (i := i) e1 (by omega) hC1 hC7 (fun w1 sx1 ln1 co1 ch1 A1 X => ?_) 7 0 (nI 0) w1 sx1 ln1 co1 ch1 A1 X (Nat.zero_le _) (by omega))
      have ih := ih (i + 1) w1 sx1 ln1 co1 ch1 (by omega) A1 (by rw [if_neg (by omega)]; exact X)
      refine xw_iinc (ls' := [(6, _), (5, _), (0, _), (1, _), (2, _), (3, _), (4, _)]) 257 _ dL_chart_254 rfl rfl (xnI_inc _) rfl rfl ?_
      refine xw_goto 34 dL_chart_257 rfl ?_
      exact xW.pick [0, 1, 2, 3, 4, 5, 6] rfl (ih)
    by_cases i0 : i = 0
    · subst i0
      rw [if_pos rfl] at X
      have s := s63 w1 sx1 ln1 co1 ch1 A1 X
      refine xw_iload 36 dL_chart_34 rfl rfl ?_
      refine xw_aload_n 37 dL_chart_36 rfl rfl rfl ?_
      refine xw_iconst 38 (nI 0) dL_chart_37 rfl (xofI 0) ?_
      refine xw_ialv (j := 0) 39 dL_chart_38 rfl (lT_n) (rfl) (by decide) (by decide) (e0) ?_
      refine xw_icmp_ge 260 42 dL_chart_39 rfl rfl (fun h39 => absurd h39 (nI_ge (by omega) (by omega))) (fun h39 => ?_)
      refine xw_iload 44 dL_chart_42 rfl rfl ?_
      refine xw_if_le 63 47 dL_chart_44 rfl rfl (fun h44 => ?_) (fun h44 => absurd (by decide) h44)
      exact xW.pick [0, 1, 2, 3, 4, 5, 6] rfl (xW.less (by omega) (by omega) s)
    · rw [if_neg i0] at X
      have hln : ln1 ≤ 8 * (i - 1) + C + (if 0 = 0 then 0 else 1) := X.2.2.2.2.2.2.1
      rw [if_pos rfl] at hln
      have X2 : lCX C i 0 0 (ln1 + 1) (upd co1 ln1 (nI 47)) ch1 := by
        have := X.slash hC1 hC7
        rw [show i - 1 + 1 = i by omega] at this
        exact this
      have s := fun w2 sx2 (A2 : xag w2 w1) => s63 w2 sx2 (ln1 + 1) (upd co1 ln1 (nI 47)) ch1 (A2.trans A1) X2
      refine xw_iload 36 dL_chart_34 rfl rfl ?_
      refine xw_aload_n 37 dL_chart_36 rfl rfl rfl ?_
      refine xw_iconst 38 (nI 0) dL_chart_37 rfl (xofI 0) ?_
      refine xw_ialv (j := 0) 39 dL_chart_38 rfl (lT_n) (rfl) (by decide) (by decide) (e0) ?_
      refine xw_icmp_ge 260 42 dL_chart_39 rfl rfl (fun h39 => absurd h39 (nI_ge (by omega) (by omega))) (fun h39 => ?_)
      refine xw_iload 44 dL_chart_42 rfl rfl ?_
      refine xw_if_le 63 47 dL_chart_44 rfl rfl (fun h44 => absurd h44 (nI_nle (by omega) (by omega))) (fun h44 => ?_)
      refine xw_aload_n 48 dL_chart_47 rfl rfl rfl ?_
      refine xw_bipush 50 (nI 47) dL_chart_48 rfl (by decide) ?_
      refine xw_lVQ 53 dL_chart_50 rfl ok_B_append s_L_28 (S_L_app (by omega) (by omega) (by omega)) (lq_nt) (lT_o) rfl rfl rfl rfl rfl rfl rfl rfl rfl (fun ov9 hp9 q9 => ?_)
      obtain ⟨q1, w2, sx2, A2, rfl⟩ := q9
      cases q1
      refine xW.cast (hp' := (bHp w2 sv (nI q) (nI m) (nI (ln1 + 1)) (upd co1 ln1 (nI 47)) sx2 (lT n ch1 be st J))) rfl rfl rfl ?_
      refine xw_iinc (ls' := [(5, _), (6, _), (0, _), (1, _), (2, _), (3, _), (4, _)]) 56 _ dL_chart_53 rfl rfl (xnI_inc _) rfl rfl ?_
      refine xw_iload 58 dL_chart_56 rfl rfl ?_
      refine xw_icmp_eq 63 61 dL_chart_58 rfl rfl (fun h58 => ?_) (fun h58 => absurd (rfl) h58)
      exact xW.pick [1, 0, 2, 3, 4, 5, 6] rfl (xW.less (by omega) (by omega) (s w2 sx2 A2))
theorem S_L_chart {ch : Nat → Int32} {co : Nat → Int32} {ln : Nat} {sx : xSx} (hq : q < 6) (hm : m ≤ 6) (L : lwA w ch be st) (N : lwN w (zrM m) n) : xMet G L_chart [.ref 0, .int a, .int b, .ref 71, .ref 72] (bHp w sv (nI q) (nI m) (nI ln) co sx (lT n ch be st J)) x 64 384 lwQ := by
  refine xw_aload_n 1 dL_chart_0 rfl rfl rfl ?_
  refine xw_pV 4 dL_chart_1 rfl ok_B_clearBuffer s_L_18 (S_B_clearBuffer) (bHp_len) (lT_o) rfl rfl rfl rfl rfl rfl rfl ?_
  refine xw_pop 5 dL_chart_4 rfl rfl ?_
  refine xw_aload_n 6 dL_chart_5 rfl rfl rfl ?_
  refine xw_iconst 7 (nI 0) dL_chart_6 rfl (xofI 0) ?_
  refine xw_iconst 8 (nI 1) dL_chart_7 rfl (xofI 1) ?_
  refine xw_iload_n 9 dL_chart_8 rfl rfl ?_
  refine xw_iconst 10 (nI 4) dL_chart_9 rfl (xofI 4) ?_
  refine xw_lSQ 13 dL_chart_10 rfl ok_L_at s_L_24 (S_L_atQ (by decide) (by decide)) (lAt_nt) rfl rfl rfl rfl rfl rfl rfl rfl (fun ov9 hp9 q9 => ?_)
  obtain ⟨⟨r, hr, q1⟩, rfl⟩ := q9
  cases q1
  refine xw_iadd 14 dL_chart_13 rfl ?_
  rw [nI_add]
  refine xw_iastore (j := 0) 15 dL_chart_14 rfl (lT_n) (rfl) (by decide) (by decide) (lT_sn) ?_
  refine xw_aload_n 16 dL_chart_15 rfl rfl rfl ?_
  refine xw_iconst 17 (nI 1) dL_chart_16 rfl (xofI 1) ?_
  refine xw_iconst 18 (nI 1) dL_chart_17 rfl (xofI 1) ?_
  refine xw_iload_n 19 dL_chart_18 rfl rfl ?_
  refine xw_iconst 20 (nI 3) dL_chart_19 rfl (xofI 3) ?_
  refine xw_ishr 21 dL_chart_20 rfl ?_
  refine xw_bipush 23 (nI 7) dL_chart_21 rfl (by decide) ?_
  refine xw_lSQ 26 dL_chart_23 rfl ok_L_at s_L_24 (S_L_atQ (by decide) (by decide)) (lAt_nt) rfl rfl rfl rfl rfl rfl rfl rfl (fun ov9 hp9 q9 => ?_)
  obtain ⟨⟨c, hc, q1⟩, rfl⟩ := q9
  cases q1
  refine xw_iadd 27 dL_chart_26 rfl ?_
  rw [nI_add]
  refine xw_iastore (j := 1) 28 dL_chart_27 rfl (lT_n) (rfl) (by decide) (by decide) (lT_sn) ?_
  refine xw_iconst 29 (nI 0) dL_chart_28 rfl (xofI 0) ?_
  refine xw_istore (ls' := [(5, _), (0, _), (1, _), (2, _), (3, _), (4, _)]) 31 dL_chart_29 rfl rfl rfl ?_
  refine xw_iconst 32 (nI 0) dL_chart_31 rfl (xofI 0) ?_
  refine xw_istore (ls' := [(6, _), (5, _), (0, _), (1, _), (2, _), (3, _), (4, _)]) 34 dL_chart_32 rfl rfl rfl ?_
  have e0 : (upd (upd n 0 (nI (1 + r))) 1 (nI (1 + c))) 0 = nI (1 + r) := by rw [upd_ne (by decide), upd_at]
  have e1 : (upd (upd n 0 (nI (1 + r))) 1 (nI (1 + c))) 1 = nI (1 + c) := upd_at
  refine xW.less (kc' := (1 + r) * 15 + 4) (ks' := (1 + r) * 90 + 24) (by omega) (by omega) ?_
  refine xW.pick [0, 1, 2, 3, 4, 5, 6] rfl (chI (w := w) e0 e1 (by omega) (by omega) (by omega) (by omega) (fun w1 sx1 ln1 co1 ch1 A1 X => ?_) (1 + r) 0 w sx 0 co ch (Nat.zero_add _) (xag_refl w) lCX_0)
  have hln : ln1 ≤ 8 * (1 + r - 1) + (1 + c) + (if 0 = 0 then 0 else 1) := X.2.2.2.2.2.2.1
  rw [if_pos rfl] at hln
  have hz : zsr co1 ln1 + 1 = 1 + r := by rw [X.2.1]; omega
  have N9 : lwN (zload w1 co1 ln1) (zrM m) (upd (upd n 0 (nI (1 + r))) 1 (nI (1 + c))) := by
    rw [X.load, show 1 + r - 1 + 1 = 1 + r by omega]
    exact (N.ag A1).laid e0 e1 (fun k hk => by rw [upd_ne (by omega), upd_ne (by omega)])
  have L9 : lwA (zload w1 co1 ln1) ch1 be st := by
    rw [X.load, show 1 + r - 1 + 1 = 1 + r by omega]
    refine (L.ag A1).laid (by omega) (by omega) (by omega) (by omega) (fun r9 c9 g1 g2 => ?_) (fun r9 c9 g1 g2 => ?_)
    · exact ⟨_, by have := (X.2.2.2.2.2.1 r9 c9 (by omega)).1; omega, rfl⟩
    · exact (X.2.2.2.2.2.1 r9 c9 (by omega)).2
  refine xw_aload_n 261 dL_chart_260 rfl rfl rfl ?_
  refine xw_iconst 262 (nI 1) dL_chart_261 rfl (xofI 1) ?_
  refine xw_pV 265 dL_chart_262 rfl ok_B_firstError s_L_32 (S_B_firstError (ch := true) (X.txt (by omega))) (rfl) (lT_o) rfl rfl rfl rfl rfl rfl rfl ?_
  rw [X.err]
  refine xw_iload 267 dL_chart_265 rfl rfl ?_
  refine xw_icmp_ne 291 270 dL_chart_267 rfl rfl (fun h267 => absurd (rfl) h267) (fun h267 => ?_)
  refine xw_aload_n 271 dL_chart_270 rfl rfl rfl ?_
  refine xw_lVQ 274 dL_chart_271 rfl ok_B_load s_L_40 (S_L_load (X.txt (by omega)) hq hm (X.whole (by omega)) (X.ok (by omega) (by omega))) (lq_nt) (lT_o) rfl rfl rfl rfl rfl rfl rfl rfl rfl (fun ov9 hp9 q9 => ?_)
  obtain ⟨q1, w2, sx2, A2, rfl⟩ := q9
  cases q1
  rw [hz]
  refine xw_aload_n 275 dL_chart_274 rfl rfl rfl ?_
  refine xw_iconst 276 (nI 0) dL_chart_275 rfl (xofI 0) ?_
  refine xw_ialv (j := 0) 277 dL_chart_276 rfl (lT_n) (rfl) (by decide) (by decide) (e0) ?_
  refine xw_icmp_ne 291 280 dL_chart_277 rfl rfl (fun h277 => absurd (rfl) h277) (fun h277 => ?_)
  refine xw_aload_n 281 dL_chart_280 rfl rfl rfl ?_
  refine xw_pV 284 dL_chart_281 rfl ok_B_clearBuffer s_L_18 (S_B_clearBuffer) (bHp_len) (lT_o) rfl rfl rfl rfl rfl rfl rfl ?_
  refine xw_if_ne 291 287 dL_chart_284 rfl rfl (fun h284 => absurd (rfl) h284) (fun h284 => ?_)
  refine xw_iconst 288 (nI 1) dL_chart_287 rfl (xofI 1) ?_
  refine xw_goto 292 dL_chart_288 rfl ?_
  exact xw_zreturn dL_chart_292 rfl (by decide) (lwQ_sav hq N9 L9 A2)
end P46

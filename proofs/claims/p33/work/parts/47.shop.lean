/-! ===== the law: shop ===== -/
theorem lwQ_nt : ∀ (E : String) (hp' : List xE), ¬ lwQ (.inr E) hp' := fun E hp' h => by cases h.1
section P47a
variable {G : xG} {x : Nat} {w : Nat → Int32} {sv : Nat → Nat → Int32} {q m ln : Nat} {co : Nat → Int32} {sx : xSx} {T : List xE} {c k a b : Nat}
theorem S_L_buy (hq : q < 6) (hm : m ≤ 6) (hc : c < 6) (h1 : 1 ≤ k) (h2 : k ≤ 100) (h3 : w (15 + c) + nI k ≤ nI 600) : xMet G B_buy [.ref 0, .int (nI c), .int (nI k)] (bHp w sv (nI q) (nI m) (nI ln) co sx T) x 1 6 (xQ3 T (zbuy w c (nI k) (9 + c)) (cSav (w, sv, q, m, ln, co) (zbuy w c (nI k)) ln)) := by
  have h := S_B_buy (G := G) (x := x) (w := w) (sv := sv) (ln := ln) (co := co) (sx := sx) (T := T) (p := nI c) (r := nI k) hq hm
  have e : oBuy (w, sv, q, m, ln, co) (nI c) (nI k) = ((0, zbuy w c (nI k) (9 + c)), cSav (w, sv, q, m, ln, co) (zbuy w c (nI k)) ln) := by
    unfold oBuy
    rw [if_pos (xlt_k (by decide) hc), if_pos ⟨nI_nlt h1 (by omega), nI_nlt h2 (by omega)⟩, pN_k (by omega), if_pos (Int32.not_lt.mpr h3)]
  rw [e] at h
  exact xQ3_ok h rfl
theorem S_L_set {v : Nat} (S : xSta G) (hq : q < 6) (hm : m ≤ 6) (hk : k < 4) (h1 : zlo k ≤ v) (h2 : v ≤ zhi k) (h3 : v ≤ 1000) : xMet G B_set [.ref 0, .int (nI k), .int (nI v)] (bHp w sv (nI q) (nI m) (nI ln) co sx T) x 1 6 (xQ3 T (w k) (cSav (w, sv, q, m, ln, co) (upd w k (nI v)) ln)) := by
  have h := S_B_set (G := G) (x := x) (w := w) (sv := sv) (ln := ln) (co := co) (sx := sx) (T := T) (p := nI k) (v := nI v) S hq hm
  have h9 : zhi k ≤ 1000 := by unfold zhi; repeat' split
                               all_goals omega
  have e : oSet (w, sv, q, m, ln, co) (nI k) (nI v) = ((0, w k), cSav (w, sv, q, m, ln, co) (upd w k (nI v)) ln) := by
    unfold oSet
    rw [if_pos (xlt_k (by decide) hk), pN_k (by omega), if_pos ⟨nI_nlt h1 (by omega), nI_nlt h2 (by omega)⟩]
  rw [e] at h
  exact xQ3_ok h rfl
theorem S_L_rec (I : xInv w) (hq : q < 6) (hm : m ≤ 6) (ha : a < 6) (hb : b < 6) : xMet G B_recolour [.ref 0, .int (nI a), .int (nI b)] (bHp w sv (nI q) (nI m) (nI ln) co sx T) x 1 6 (xQ3 T (nI (zrecN w a b)) (cSav (w, sv, q, m, ln, co) (zrec w a b) ln)) := by
  have h := S_B_recolour (G := G) (x := x) (w := w) (sv := sv) (ln := ln) (co := co) (sx := sx) (T := T) (p := nI a) (r := nI b) I hq hm
  have e : oRec (w, sv, q, m, ln, co) (nI a) (nI b) = ((0, nI (zrecN w a b)), cSav (w, sv, q, m, ln, co) (zrec w a b) ln) := by
    unfold oRec
    rw [if_pos (xlt_k (by decide) ha), if_pos (xlt_k (by decide) hb), pN_k (by omega), pN_k (by omega)]
  rw [e] at h
  exact xQ3_ok h rfl
end P47a
/-- recoloured up to the place i -/
def lRP (C a b i : Nat) (ch ch' : Nat → Int32) : Prop := ∀ j, bcol ch' j = if j < i ∧ j % 12 < C ∧ ¬ a = b then xsw (nI a) (nI b) (bcol ch j) else bcol ch j
def lRc (C a b : Nat) (ch : Nat → Int32) : Nat → Bool := fun k => decide (k % 12 < C) && (decide (¬ a = b) && decide (bcol ch k = nI a ∨ bcol ch k = nI b))
section P47b
variable {C a b i : Nat} {ch ch' : Nat → Int32}
theorem lRP_0 : lRP C a b 0 ch ch := fun j => by rw [if_neg (by omega)]
theorem lRP.at (P : lRP C a b i ch ch') : bcol ch' i = bcol ch i := by rw [P i, if_neg (by omega)]
theorem lRP.keep (P : lRP C a b i ch ch') (h : i % 12 < C → ¬ a = b → xsw (nI a) (nI b) (bcol ch i) = bcol ch i) : lRP C a b (i + 1) ch ch' := by
  intro j
  by_cases g : j = i
  · subst g
    rw [P.at]
    by_cases g2 : j < j + 1 ∧ j % 12 < C ∧ ¬ a = b
    · rw [if_pos g2, h g2.2.1 g2.2.2]
    · rw [if_neg g2]
  · rw [P j]
    by_cases g2 : j < i ∧ j % 12 < C ∧ ¬ a = b
    · rw [if_pos g2, if_pos ⟨by omega, g2.2⟩]
    · rw [if_neg g2, if_neg (fun q => g2 ⟨by omega, q.2⟩)]
theorem lRP.put {v : Nat} (P : lRP C a b i ch ch') (hi : i % 12 < C) (hab : ¬ a = b) (hv : v < 8) (h : nI v = xsw (nI a) (nI b) (bcol ch i)) : lRP C a b (i + 1) ch (lput ch' i v) := by
  intro j
  by_cases g : j = i
  · subst g
    rw [lput_at hv, if_pos ⟨by omega, hi, hab⟩, h]
  · rw [lput_ne hv g, P j]
    by_cases g2 : j < i ∧ j % 12 < C ∧ ¬ a = b
    · rw [if_pos g2, if_pos ⟨by omega, g2.2⟩]
    · rw [if_neg g2, if_neg (fun q => g2 ⟨by omega, q.2⟩)]
theorem lRc_N {w : Nat → Int32} (I : xInv w) (L : lwC w ch) : zrecN w a b = xct (lRc (zI w 5) a b ch) (12 * zI w 4) := by
  unfold zrecN
  by_cases hab : a = b
  · rw [if_pos hab, xct_z (fun k hk => by unfold lRc; simp [hab])]
  · rw [if_neg hab, ← xct_rows I.iC.2.2]
    refine xct_congr (fun k hk => ?_)
    unfold lRc
    by_cases h : k % 12 < zI w 5
    · have e := L (k / 12) (k % 12) (by omega) h
      rw [show k / 12 * 12 + k % 12 = k by omega] at e
      rw [show k / 12 * 12 + k % 12 = k by omega, e]
      simp [hab]
    · rw [decide_eq_false h]
      rfl
end P47b
section P47
variable {G : xG} {x : Nat} {w n be st : Nat → Int32} {sv : Nat → Nat → Int32} {q m : Nat} {co : Nat → Int32} {sx : xSx} {J : List xE} {a0 b0 : Int32}
theorem shR {a b : Nat} {ch : Nat → Int32} {mm kc ks : Nat} (I : xInv w) (N : lwN w mm n) (ha : a < 6) (hb : b < 6) (next : ∀ ch2 : Nat → Int32, lRP (zI w 5) a b (12 * zI w 4) ch ch2 → xW G L_shop lwQ 250 [(8, .int (nI (xct (lRc (zI w 5) a b ch) (12 * zI w 4)))), (7, .int (nI b)), (6, .int (nI a)), (0, .ref 0), (1, .int a0), (2, .int b0), (3, .ref 71), (4, .ref 72)] [] (bHp w sv (nI q) (nI m) (nI 0) co sx (lT n ch2 be st J)) x kc ks) :
    ∀ (t i : Nat) (ch2 : Nat → Int32), i + t = 12 * zI w 4 → lRP (zI w 5) a b i ch ch2 → xW G L_shop lwQ 162 [(9, .int (nI (i))), (8, .int (nI (xct (lRc (zI w 5) a b ch) (i)))), (7, .int (nI b)), (6, .int (nI a)), (0, .ref 0), (1, .int a0), (2, .int b0), (3, .ref 71), (4, .ref 72)] [] (bHp w sv (nI q) (nI m) (nI 0) co sx (lT n ch2 be st J)) x kc ks := by
  have hR2 := I.iR.2.2
  have hC2 := I.iC.2.2
  intro t
  induction t with
  | zero =>
    intro i ch2 hi P
    obtain rfl : i = 12 * zI w 4 := by omega
    have next := next ch2 P
    refine xw_iload 164 dL_shop_162 rfl rfl ?_
    refine xw_bipush 166 (nI 12) dL_shop_164 rfl (by decide) ?_
    refine xw_aload_n 167 dL_shop_166 rfl rfl rfl ?_
    refine xw_iconst 168 (nI 0) dL_shop_167 rfl (xofI 0) ?_
    refine xw_ialv (j := 0) 169 dL_shop_168 rfl (lT_n) (rfl) (by decide) (by decide) (N.v0 I) ?_
    refine xw_imul 170 dL_shop_169 rfl ?_
    rw [pk_mul]
    refine xw_icmp_ge 250 173 dL_shop_170 rfl rfl (fun h170 => ?_) (fun h170 => absurd (nI_le (by omega) (by omega)) h170)
    exact xW.pick [1, 2, 3, 4, 5, 6, 7, 8] rfl (next)
  | succ t ih =>
    intro i ch2 hi P
    have hlt : i % 12 < 12 := Nat.mod_lt _ (by decide)
    have ih := fun ch2 => ih (i + 1) ch2 (by omega)
    by_cases hd : i % 12 < zI w 5
    · by_cases hab : a = b
      · have ih := ih ch2 (P.keep (fun _ q => absurd hab q))
        have e1 : xct (lRc (zI w 5) a b ch) (i + 1) = xct (lRc (zI w 5) a b ch) i := xct_n (by unfold lRc; simp [hab])
        rw [e1] at ih
        refine xw_iload 164 dL_shop_162 rfl rfl ?_
        refine xw_bipush 166 (nI 12) dL_shop_164 rfl (by decide) ?_
        refine xw_aload_n 167 dL_shop_166 rfl rfl rfl ?_
        refine xw_iconst 168 (nI 0) dL_shop_167 rfl (xofI 0) ?_
        refine xw_ialv (j := 0) 169 dL_shop_168 rfl (lT_n) (rfl) (by decide) (by decide) (N.v0 I) ?_
        refine xw_imul 170 dL_shop_169 rfl ?_
        rw [pk_mul]
        refine xw_icmp_ge 250 173 dL_shop_170 rfl rfl (fun h170 => absurd h170 (nI_ge (by omega) (by omega))) (fun h170 => ?_)
        refine xw_iload 175 dL_shop_173 rfl rfl ?_
        refine xw_bipush 177 (nI 12) dL_shop_175 rfl (by decide) ?_
        refine xw_irem 178 dL_shop_177 rfl (nI_ne0 (by decide) (by decide)) ?_
        rw [pk_rem (by omega) (by decide) (by decide)]
        refine xw_aload_n 179 dL_shop_178 rfl rfl rfl ?_
        refine xw_iconst 180 (nI 1) dL_shop_179 rfl (xofI 1) ?_
        refine xw_ialv (j := 1) 181 dL_shop_180 rfl (lT_n) (rfl) (by decide) (by decide) (N.v1 I) ?_
        refine xw_icmp_ge 244 184 dL_shop_181 rfl rfl (fun h181 => absurd h181 (nI_ge hd (by omega))) (fun h181 => ?_)
        refine xw_iload 186 dL_shop_184 rfl rfl ?_
        refine xw_iload 188 dL_shop_186 rfl rfl ?_
        refine xw_icmp_eq 244 191 dL_shop_188 rfl rfl (fun h188 => ?_) (fun h188 => absurd (congrArg nI hab) h188)
        refine xw_iinc (ls' := [(9, _), (8, _), (7, _), (6, _), (0, _), (1, _), (2, _), (3, _), (4, _)]) 247 _ dL_shop_244 rfl rfl (xnI_inc _) rfl rfl ?_
        refine xw_goto 162 dL_shop_247 rfl ?_
        exact xW.pick [0, 1, 2, 3, 4, 5, 6, 7, 8] rfl (ih)
      · have hab2 : ¬ nI a = nI b := fun q => hab ((nI_eq (by omega) (by omega)).mp q)
        by_cases hz : bcol ch i = nI a
        · have ih := ih (lput ch2 i b) (P.put hd hab (by omega) (by unfold xsw; rw [if_pos hz]))
          have e1 : xct (lRc (zI w 5) a b ch) (i + 1) = xct (lRc (zI w 5) a b ch) i + 1 := xct_y (by unfold lRc; simp [hab, hd, hz])
          rw [e1] at ih
          refine xw_iload 164 dL_shop_162 rfl rfl ?_
          refine xw_bipush 166 (nI 12) dL_shop_164 rfl (by decide) ?_
          refine xw_aload_n 167 dL_shop_166 rfl rfl rfl ?_
          refine xw_iconst 168 (nI 0) dL_shop_167 rfl (xofI 0) ?_
          refine xw_ialv (j := 0) 169 dL_shop_168 rfl (lT_n) (rfl) (by decide) (by decide) (N.v0 I) ?_
          refine xw_imul 170 dL_shop_169 rfl ?_
          rw [pk_mul]
          refine xw_icmp_ge 250 173 dL_shop_170 rfl rfl (fun h170 => absurd h170 (nI_ge (by omega) (by omega))) (fun h170 => ?_)
          refine xw_iload 175 dL_shop_173 rfl rfl ?_
          refine xw_bipush 177 (nI 12) dL_shop_175 rfl (by decide) ?_
          refine xw_irem 178 dL_shop_177 rfl (nI_ne0 (by decide) (by decide)) ?_
          rw [pk_rem (by omega) (by decide) (by decide)]
          refine xw_aload_n 179 dL_shop_178 rfl rfl rfl ?_
          refine xw_iconst 180 (nI 1) dL_shop_179 rfl (xofI 1) ?_
          refine xw_ialv (j := 1) 181 dL_shop_180 rfl (lT_n) (rfl) (by decide) (by decide) (N.v1 I) ?_
          refine xw_icmp_ge 244 184 dL_shop_181 rfl rfl (fun h181 => absurd h181 (nI_ge hd (by omega))) (fun h181 => ?_)
          refine xw_iload 186 dL_shop_184 rfl rfl ?_
          refine xw_iload 188 dL_shop_186 rfl rfl ?_
          refine xw_icmp_eq 244 191 dL_shop_188 rfl rfl (fun h188 => absurd h188 (hab2)) (fun h188 => ?_)
          refine xw_aload 193 dL_shop_191 rfl rfl rfl ?_
          refine xw_iload 195 dL_shop_193 rfl rfl ?_
          refine xw_pS 198 dL_shop_195 rfl ok_L_colour s_L_8 (S_L_colour lT_c (by omega) (by omega)) (rfl) rfl rfl rfl rfl rfl rfl ?_
          rw [P.at]
          refine xw_iload 200 dL_shop_198 rfl rfl ?_
          refine xw_icmp_eq 215 203 dL_shop_200 rfl rfl (fun h200 => ?_) (fun h200 => absurd (hz) h200)
          refine xw_aload 217 dL_shop_215 rfl rfl rfl ?_
          refine xw_iload 219 dL_shop_217 rfl rfl ?_
          refine xw_aload 221 dL_shop_219 rfl rfl rfl ?_
          refine xw_iload 223 dL_shop_221 rfl rfl ?_
          refine xw_pS 226 dL_shop_223 rfl ok_L_colour s_L_8 (S_L_colour lT_c (by omega) (by omega)) (rfl) rfl rfl rfl rfl rfl rfl ?_
          rw [P.at]
          refine xw_iload 228 dL_shop_226 rfl rfl ?_
          refine xw_icmp_ne 236 231 dL_shop_228 rfl rfl (fun h228 => absurd (hz) h228) (fun h228 => ?_)
          refine xw_iload 233 dL_shop_231 rfl rfl ?_
          refine xw_goto 238 dL_shop_233 rfl ?_
          refine xw_pSv 241 dL_shop_238 rfl ok_L_put s_L_36 (S_L_put (h1 := (bHp w sv (nI q) (nI m) (nI 0) co sx (lT n (lput ch2 i b) be st J))) lT_c (by omega) (by omega) lT_sc) (rfl) rfl rfl rfl rfl rfl rfl ?_
          refine xw_iinc (ls' := [(8, _), (9, _), (7, _), (6, _), (0, _), (1, _), (2, _), (3, _), (4, _)]) 244 _ dL_shop_241 rfl rfl (xnI_inc _) rfl rfl ?_
          refine xw_iinc (ls' := [(9, _), (8, _), (7, _), (6, _), (0, _), (1, _), (2, _), (3, _), (4, _)]) 247 _ dL_shop_244 rfl rfl (xnI_inc _) rfl rfl ?_
          refine xw_goto 162 dL_shop_247 rfl ?_
          exact xW.pick [0, 1, 2, 3, 4, 5, 6, 7, 8] rfl (ih)
        · by_cases hy : bcol ch i = nI b
          · have ih := ih (lput ch2 i a) (P.put hd hab (by omega) (by unfold xsw; rw [if_neg hz, if_pos hy]))
            have e1 : xct (lRc (zI w 5) a b ch) (i + 1) = xct (lRc (zI w 5) a b ch) i + 1 := xct_y (by unfold lRc; simp [hab, hd, hy])
            rw [e1] at ih
            refine xw_iload 164 dL_shop_162 rfl rfl ?_
            refine xw_bipush 166 (nI 12) dL_shop_164 rfl (by decide) ?_
            refine xw_aload_n 167 dL_shop_166 rfl rfl rfl ?_
            refine xw_iconst 168 (nI 0) dL_shop_167 rfl (xofI 0) ?_
            refine xw_ialv (j := 0) 169 dL_shop_168 rfl (lT_n) (rfl) (by decide) (by decide) (N.v0 I) ?_
            refine xw_imul 170 dL_shop_169 rfl ?_
            rw [pk_mul]
            refine xw_icmp_ge 250 173 dL_shop_170 rfl rfl (fun h170 => absurd h170 (nI_ge (by omega) (by omega))) (fun h170 => ?_)
            refine xw_iload 175 dL_shop_173 rfl rfl ?_
            refine xw_bipush 177 (nI 12) dL_shop_175 rfl (by decide) ?_
            refine xw_irem 178 dL_shop_177 rfl (nI_ne0 (by decide) (by decide)) ?_
            rw [pk_rem (by omega) (by decide) (by decide)]
            refine xw_aload_n 179 dL_shop_178 rfl rfl rfl ?_
            refine xw_iconst 180 (nI 1) dL_shop_179 rfl (xofI 1) ?_
            refine xw_ialv (j := 1) 181 dL_shop_180 rfl (lT_n) (rfl) (by decide) (by decide) (N.v1 I) ?_
            refine xw_icmp_ge 244 184 dL_shop_181 rfl rfl (fun h181 => absurd h181 (nI_ge hd (by omega))) (fun h181 => ?_)
            refine xw_iload 186 dL_shop_184 rfl rfl ?_
            refine xw_iload 188 dL_shop_186 rfl rfl ?_
            refine xw_icmp_eq 244 191 dL_shop_188 rfl rfl (fun h188 => absurd h188 (hab2)) (fun h188 => ?_)
            refine xw_aload 193 dL_shop_191 rfl rfl rfl ?_
            refine xw_iload 195 dL_shop_193 rfl rfl ?_
            refine xw_pS 198 dL_shop_195 rfl ok_L_colour s_L_8 (S_L_colour lT_c (by omega) (by omega)) (rfl) rfl rfl rfl rfl rfl rfl ?_
            rw [P.at]
            refine xw_iload 200 dL_shop_198 rfl rfl ?_
            refine xw_icmp_eq 215 203 dL_shop_200 rfl rfl (fun h200 => absurd h200 (hz)) (fun h200 => ?_)
            refine xw_aload 205 dL_shop_203 rfl rfl rfl ?_
            refine xw_iload 207 dL_shop_205 rfl rfl ?_
            refine xw_pS 210 dL_shop_207 rfl ok_L_colour s_L_8 (S_L_colour lT_c (by omega) (by omega)) (rfl) rfl rfl rfl rfl rfl rfl ?_
            rw [P.at]
            refine xw_iload 212 dL_shop_210 rfl rfl ?_
            refine xw_icmp_ne 244 215 dL_shop_212 rfl rfl (fun h212 => absurd (hy) h212) (fun h212 => ?_)
            refine xw_aload 217 dL_shop_215 rfl rfl rfl ?_
            refine xw_iload 219 dL_shop_217 rfl rfl ?_
            refine xw_aload 221 dL_shop_219 rfl rfl rfl ?_
            refine xw_iload 223 dL_shop_221 rfl rfl ?_
            refine xw_pS 226 dL_shop_223 rfl ok_L_colour s_L_8 (S_L_colour lT_c (by omega) (by omega)) (rfl) rfl rfl rfl rfl rfl rfl ?_
            rw [P.at]
            refine xw_iload 228 dL_shop_226 rfl rfl ?_
            refine xw_icmp_ne 236 231 dL_shop_228 rfl rfl (fun h228 => ?_) (fun h228 => absurd h228 (hz))
            refine xw_iload 238 dL_shop_236 rfl rfl ?_
            refine xw_pSv 241 dL_shop_238 rfl ok_L_put s_L_36 (S_L_put (h1 := (bHp w sv (nI q) (nI m) (nI 0) co sx (lT n (lput ch2 i a) be st J))) lT_c (by omega) (by omega) lT_sc) (rfl) rfl rfl rfl rfl rfl rfl ?_
            refine xw_iinc (ls' := [(8, _), (9, _), (7, _), (6, _), (0, _), (1, _), (2, _), (3, _), (4, _)]) 244 _ dL_shop_241 rfl rfl (xnI_inc _) rfl rfl ?_
            refine xw_iinc (ls' := [(9, _), (8, _), (7, _), (6, _), (0, _), (1, _), (2, _), (3, _), (4, _)]) 247 _ dL_shop_244 rfl rfl (xnI_inc _) rfl rfl ?_
            refine xw_goto 162 dL_shop_247 rfl ?_
            exact xW.pick [0, 1, 2, 3, 4, 5, 6, 7, 8] rfl (ih)
          · have ih := ih ch2 (P.keep (fun _ _ => by unfold xsw; rw [if_neg hz, if_neg hy]))
            have e1 : xct (lRc (zI w 5) a b ch) (i + 1) = xct (lRc (zI w 5) a b ch) i := xct_n (by unfold lRc; simp [hz, hy])
            rw [e1] at ih
            refine xw_iload 164 dL_shop_162 rfl rfl ?_
            refine xw_bipush 166 (nI 12) dL_shop_164 rfl (by decide) ?_
            refine xw_aload_n 167 dL_shop_166 rfl rfl rfl ?_
            refine xw_iconst 168 (nI 0) dL_shop_167 rfl (xofI 0) ?_
            refine xw_ialv (j := 0) 169 dL_shop_168 rfl (lT_n) (rfl) (by decide) (by decide) (N.v0 I) ?_
            refine xw_imul 170 dL_shop_169 rfl ?_
            rw [pk_mul]
            refine xw_icmp_ge 250 173 dL_shop_170 rfl rfl (fun h170 => absurd h170 (nI_ge (by omega) (by omega))) (fun h170 => ?_)
            refine xw_iload 175 dL_shop_173 rfl rfl ?_
            refine xw_bipush 177 (nI 12) dL_shop_175 rfl (by decide) ?_
            refine xw_irem 178 dL_shop_177 rfl (nI_ne0 (by decide) (by decide)) ?_
            rw [pk_rem (by omega) (by decide) (by decide)]
            refine xw_aload_n 179 dL_shop_178 rfl rfl rfl ?_
            refine xw_iconst 180 (nI 1) dL_shop_179 rfl (xofI 1) ?_
            refine xw_ialv (j := 1) 181 dL_shop_180 rfl (lT_n) (rfl) (by decide) (by decide) (N.v1 I) ?_
            refine xw_icmp_ge 244 184 dL_shop_181 rfl rfl (fun h181 => absurd h181 (nI_ge hd (by omega))) (fun h181 => ?_)
            refine xw_iload 186 dL_shop_184 rfl rfl ?_
            refine xw_iload 188 dL_shop_186 rfl rfl ?_
            refine xw_icmp_eq 244 191 dL_shop_188 rfl rfl (fun h188 => absurd h188 (hab2)) (fun h188 => ?_)
            refine xw_aload 193 dL_shop_191 rfl rfl rfl ?_
            refine xw_iload 195 dL_shop_193 rfl rfl ?_
            refine xw_pS 198 dL_shop_195 rfl ok_L_colour s_L_8 (S_L_colour lT_c (by omega) (by omega)) (rfl) rfl rfl rfl rfl rfl rfl ?_
            rw [P.at]
            refine xw_iload 200 dL_shop_198 rfl rfl ?_
            refine xw_icmp_eq 215 203 dL_shop_200 rfl rfl (fun h200 => absurd h200 (hz)) (fun h200 => ?_)
            refine xw_aload 205 dL_shop_203 rfl rfl rfl ?_
            refine xw_iload 207 dL_shop_205 rfl rfl ?_
            refine xw_pS 210 dL_shop_207 rfl ok_L_colour s_L_8 (S_L_colour lT_c (by omega) (by omega)) (rfl) rfl rfl rfl rfl rfl rfl ?_
            rw [P.at]
            refine xw_iload 212 dL_shop_210 rfl rfl ?_
            refine xw_icmp_ne 244 215 dL_shop_212 rfl rfl (fun h212 => ?_) (fun h212 => absurd h212 (hy))
            refine xw_iinc (ls' := [(9, _), (8, _), (7, _), (6, _), (0, _), (1, _), (2, _), (3, _), (4, _)]) 247 _ dL_shop_244 rfl rfl (xnI_inc _) rfl rfl ?_
            refine xw_goto 162 dL_shop_247 rfl ?_
            exact xW.pick [0, 1, 2, 3, 4, 5, 6, 7, 8] rfl (ih)
    · have ih := ih ch2 (P.keep (fun q => absurd q hd))
      have e1 : xct (lRc (zI w 5) a b ch) (i + 1) = xct (lRc (zI w 5) a b ch) i := xct_n (by unfold lRc; simp [hd])
      rw [e1] at ih
      refine xw_iload 164 dL_shop_162 rfl rfl ?_
      refine xw_bipush 166 (nI 12) dL_shop_164 rfl (by decide) ?_
      refine xw_aload_n 167 dL_shop_166 rfl rfl rfl ?_
      refine xw_iconst 168 (nI 0) dL_shop_167 rfl (xofI 0) ?_
      refine xw_ialv (j := 0) 169 dL_shop_168 rfl (lT_n) (rfl) (by decide) (by decide) (N.v0 I) ?_
      refine xw_imul 170 dL_shop_169 rfl ?_
      rw [pk_mul]
      refine xw_icmp_ge 250 173 dL_shop_170 rfl rfl (fun h170 => absurd h170 (nI_ge (by omega) (by omega))) (fun h170 => ?_)
      refine xw_iload 175 dL_shop_173 rfl rfl ?_
      refine xw_bipush 177 (nI 12) dL_shop_175 rfl (by decide) ?_
      refine xw_irem 178 dL_shop_177 rfl (nI_ne0 (by decide) (by decide)) ?_
      rw [pk_rem (by omega) (by decide) (by decide)]
      refine xw_aload_n 179 dL_shop_178 rfl rfl rfl ?_
      refine xw_iconst 180 (nI 1) dL_shop_179 rfl (xofI 1) ?_
      refine xw_ialv (j := 1) 181 dL_shop_180 rfl (lT_n) (rfl) (by decide) (by decide) (N.v1 I) ?_
      refine xw_icmp_ge 244 184 dL_shop_181 rfl rfl (fun h181 => ?_) (fun h181 => absurd (nI_le (by omega) (by omega)) h181)
      refine xw_iinc (ls' := [(9, _), (8, _), (7, _), (6, _), (0, _), (1, _), (2, _), (3, _), (4, _)]) 247 _ dL_shop_244 rfl rfl (xnI_inc _) rfl rfl ?_
      refine xw_goto 162 dL_shop_247 rfl ?_
      exact xW.pick [0, 1, 2, 3, 4, 5, 6, 7, 8] rfl (ih)
theorem shA {u : Nat} {ch : Nat → Int32} (hq : q < 6) (hm : m ≤ 6) (N : lwN w m n) (L : lwA w ch be st) (hu : u < 3) : xW G L_shop lwQ 12 [(5, .int (nI u)), (0, .ref 0), (1, .int a0), (2, .int b0), (3, .ref 71), (4, .ref 72)] [] (bHp w sv (nI q) (nI m) (nI 0) co sx (lT (lsave n m) ch be st J)) x 65 390 := by
  refine xw_iload 14 dL_shop_12 rfl rfl ?_
  refine xw_iconst 15 (nI 3) dL_shop_14 rfl (xofI 3) ?_
  refine xw_icmp_ge 114 18 dL_shop_15 rfl rfl (fun h15 => absurd h15 (nI_ge hu (by omega))) (fun h15 => ?_)
  refine xw_iload_n 19 dL_shop_18 rfl rfl ?_
  refine xw_bipush 21 (nI 6) dL_shop_19 rfl (by decide) ?_
  refine xw_lSQ 24 dL_shop_21 rfl ok_L_at s_L_24 (S_L_atQ (by decide) (by decide)) (lAt_nt) rfl rfl rfl rfl rfl rfl rfl rfl (fun ov9 hp9 q9 => ?_)
  obtain ⟨⟨c, hc, q1⟩, rfl⟩ := q9
  cases q1
  refine xw_istore (ls' := [(6, _), (5, _), (0, _), (1, _), (2, _), (3, _), (4, _)]) 26 dL_shop_24 rfl rfl rfl ?_
  refine xw_iconst 27 (nI 1) dL_shop_26 rfl (xofI 1) ?_
  refine xw_iload_n 28 dL_shop_27 rfl rfl ?_
  refine xw_iconst 29 (nI 4) dL_shop_28 rfl (xofI 4) ?_
  refine xw_ishr 30 dL_shop_29 rfl ?_
  refine xw_bipush 32 (nI 100) dL_shop_30 rfl (by decide) ?_
  refine xw_lSQ 35 dL_shop_32 rfl ok_L_at s_L_24 (S_L_atQ (by decide) (by decide)) (lAt_nt) rfl rfl rfl rfl rfl rfl rfl rfl (fun ov9 hp9 q9 => ?_)
  obtain ⟨⟨k, hk, q1⟩, rfl⟩ := q9
  cases q1
  refine xw_iadd 36 dL_shop_35 rfl ?_
  rw [nI_add]
  refine xw_istore (ls' := [(7, _), (6, _), (5, _), (0, _), (1, _), (2, _), (3, _), (4, _)]) 38 dL_shop_36 rfl rfl rfl ?_
  refine xw_aload_n 39 dL_shop_38 rfl rfl rfl ?_
  refine xw_bipush 41 (nI 16) dL_shop_39 rfl (by decide) ?_
  refine xw_iload 43 dL_shop_41 rfl rfl ?_
  refine xw_iadd 44 dL_shop_43 rfl ?_
  refine xw_ialv (j := 16 + c) 45 dL_shop_44 rfl (lT_n) (nI_add _ _) (by omega) (by omega) (N.sv.b hc) ?_
  refine xw_iload 47 dL_shop_45 rfl rfl ?_
  refine xw_iadd 48 dL_shop_47 rfl ?_
  refine xw_sipush 51 (nI 600) dL_shop_48 rfl (by decide) ?_
  refine xw_icmp_le 66 54 dL_shop_51 rfl rfl (fun h600 => ?_) (fun h600 => ?_)
  · refine xw_aload_n 67 dL_shop_66 rfl rfl rfl ?_
    refine xw_bipush 69 (nI 10) dL_shop_67 rfl (by decide) ?_
    refine xw_iload 71 dL_shop_69 rfl rfl ?_
    refine xw_iadd 72 dL_shop_71 rfl ?_
    rw [nI_add]
    refine xw_dup2 73 dL_shop_72 rfl rfl rfl ?_
    refine xw_iaload (j := 10 + c) 74 dL_shop_73 rfl (lT_n) (rfl) (by omega) (by omega) ?_
    refine xw_iload 76 dL_shop_74 rfl rfl ?_
    refine xw_iadd 77 dL_shop_76 rfl ?_
    refine xw_iastore (j := 10 + c) 78 dL_shop_77 rfl (lT_n) (rfl) (by omega) (by omega) (lT_sn) ?_
    refine xw_aload_n 79 dL_shop_78 rfl rfl rfl ?_
    refine xw_bipush 81 (nI 16) dL_shop_79 rfl (by decide) ?_
    refine xw_iload 83 dL_shop_81 rfl rfl ?_
    refine xw_iadd 84 dL_shop_83 rfl ?_
    rw [nI_add]
    refine xw_dup2 85 dL_shop_84 rfl rfl rfl ?_
    refine xw_iaload (j := 16 + c) 86 dL_shop_85 rfl (lT_n) (rfl) (by omega) (by omega) ?_
    refine xw_iload 88 dL_shop_86 rfl rfl ?_
    refine xw_iadd 89 dL_shop_88 rfl ?_
    refine xw_iastore (j := 16 + c) 90 dL_shop_89 rfl (lT_n) (rfl) (by omega) (by omega) (lT_sn) ?_
    have N9 := N.sv.buy (v := (nI (1 + k))) hc
    refine xw_aload_n 91 dL_shop_90 rfl rfl rfl ?_
    refine xw_iload 93 dL_shop_91 rfl rfl ?_
    refine xw_iload 95 dL_shop_93 rfl rfl ?_
    refine xw_lVQ 98 dL_shop_95 rfl ok_B_buy s_L_50 (S_L_buy hq hm hc (by omega) (by omega) h600) (lq_nt) (lT_o) rfl rfl rfl rfl rfl rfl rfl rfl rfl (fun ov9 hp9 q9 => ?_)
    obtain ⟨q1, w2, sx2, A2, rfl⟩ := q9
    cases q1
    refine xw_aload_n 99 dL_shop_98 rfl rfl rfl ?_
    refine xw_bipush 101 (nI 10) dL_shop_99 rfl (by decide) ?_
    refine xw_iload 103 dL_shop_101 rfl rfl ?_
    refine xw_iadd 104 dL_shop_103 rfl ?_
    refine xw_ialv (j := 10 + c) 105 dL_shop_104 rfl (lT_n) (nI_add _ _) (by omega) (by omega) (N9.a hc) ?_
    refine xw_icmp_ne 112 108 dL_shop_105 rfl rfl (fun h105 => absurd (rfl) h105) (fun h105 => ?_)
    refine xw_iconst 109 (nI 1) dL_shop_108 rfl (xofI 1) ?_
    refine xw_goto 113 dL_shop_109 rfl ?_
    exact xw_zreturn dL_shop_113 rfl (by decide) (lwQ_sav hq N9 (L.buy hc) A2)
  · refine xw_aload_n 55 dL_shop_54 rfl rfl rfl ?_
    refine xw_bipush 57 (nI 9) dL_shop_55 rfl (by decide) ?_
    refine xw_aload_n 58 dL_shop_57 rfl rfl rfl ?_
    refine xw_bipush 60 (nI 12) dL_shop_58 rfl (by decide) ?_
    refine xw_lV 63 dL_shop_60 rfl ok_B_count s_L_47 (xQr_ok (S_B_count L.1) (rCnt_k (by decide))) (lT_o) rfl rfl rfl rfl rfl rfl rfl rfl rfl ?_
    refine xw_iastore (j := 9) 64 dL_shop_63 rfl (lT_n) (rfl) (by decide) (by decide) (lT_sn) ?_
    refine xw_iconst 65 (nI 1) dL_shop_64 rfl (xofI 1) ?_
    exact xw_zreturn dL_shop_65 rfl (by decide) (⟨rfl, (w, sv, q, m, 0, co), sx, _, ch, be, st, J, ⟨hq, hm, rfl, N.sv.hist, L⟩, rfl⟩)
theorem shB {ch : Nat → Int32} (hq : q < 6) (hm : m ≤ 6) (N : lwN w m n) (L : lwA w ch be st) : xW G L_shop lwQ 12 [(5, .int (nI 3)), (0, .ref 0), (1, .int a0), (2, .int b0), (3, .ref 71), (4, .ref 72)] [] (bHp w sv (nI q) (nI m) (nI 0) co sx (lT (lsave n m) ch be st J)) x 65 390 := by
  refine xw_iload 14 dL_shop_12 rfl rfl ?_
  refine xw_iconst 15 (nI 3) dL_shop_14 rfl (xofI 3) ?_
  refine xw_icmp_ge 114 18 dL_shop_15 rfl rfl (fun h15 => ?_) (fun h15 => absurd (by decide) h15)
  refine xw_iload 116 dL_shop_114 rfl rfl ?_
  refine xw_iconst 117 (nI 3) dL_shop_116 rfl (xofI 3) ?_
  refine xw_icmp_ne 132 120 dL_shop_117 rfl rfl (fun h117 => absurd (rfl) h117) (fun h117 => ?_)
  refine xw_aload_n 121 dL_shop_120 rfl rfl rfl ?_
  refine xw_iload_n 122 dL_shop_121 rfl rfl ?_
  refine xw_iload_n 123 dL_shop_122 rfl rfl ?_
  refine xw_iconst 124 (nI 4) dL_shop_123 rfl (xofI 4) ?_
  refine xw_ishr 125 dL_shop_124 rfl ?_
  refine xw_aload_n 126 dL_shop_125 rfl rfl rfl ?_
  refine xw_aload 128 dL_shop_126 rfl rfl rfl ?_
  refine xw_lSQ 131 dL_shop_128 rfl ok_L_chart s_L_53 (S_L_chart hq hm L N.sv) (lwQ_nt) rfl rfl rfl rfl rfl rfl rfl rfl (fun ov9 hp9 q9 => ?_)
  obtain ⟨q1, q2⟩ := q9
  cases q1
  exact xw_zreturn dL_shop_131 rfl (Or.inr rfl) (⟨rfl, q2⟩)
theorem shC {ch : Nat → Int32} (hq : q < 6) (hm : m ≤ 6) (N : lwN w m n) (L : lwA w ch be st) : xW G L_shop lwQ 12 [(5, .int (nI 4)), (0, .ref 0), (1, .int a0), (2, .int b0), (3, .ref 71), (4, .ref 72)] [] (bHp w sv (nI q) (nI m) (nI 0) co sx (lT (lsave n m) ch be st J)) x 65 390 := by
  refine xw_iload 14 dL_shop_12 rfl rfl ?_
  refine xw_iconst 15 (nI 3) dL_shop_14 rfl (xofI 3) ?_
  refine xw_icmp_ge 114 18 dL_shop_15 rfl rfl (fun h15 => ?_) (fun h15 => absurd (by decide) h15)
  refine xw_iload 116 dL_shop_114 rfl rfl ?_
  refine xw_iconst 117 (nI 3) dL_shop_116 rfl (xofI 3) ?_
  refine xw_icmp_ne 132 120 dL_shop_117 rfl rfl (fun h117 => ?_) (fun h117 => absurd h117 (by decide))
  refine xw_iload 134 dL_shop_132 rfl rfl ?_
  refine xw_iconst 135 (nI 4) dL_shop_134 rfl (xofI 4) ?_
  refine xw_icmp_ne 269 138 dL_shop_135 rfl rfl (fun h135 => absurd (rfl) h135) (fun h135 => ?_)
  refine xw_iload_n 139 dL_shop_138 rfl rfl ?_
  refine xw_bipush 141 (nI 6) dL_shop_139 rfl (by decide) ?_
  refine xw_lSQ 144 dL_shop_141 rfl ok_L_at s_L_24 (S_L_atQ (by decide) (by decide)) (lAt_nt) rfl rfl rfl rfl rfl rfl rfl rfl (fun ov9 hp9 q9 => ?_)
  obtain ⟨⟨a, ha, q1⟩, rfl⟩ := q9
  cases q1
  refine xw_istore (ls' := [(6, _), (5, _), (0, _), (1, _), (2, _), (3, _), (4, _)]) 146 dL_shop_144 rfl rfl rfl ?_
  refine xw_iload_n 147 dL_shop_146 rfl rfl ?_
  refine xw_iconst 148 (nI 3) dL_shop_147 rfl (xofI 3) ?_
  refine xw_ishr 149 dL_shop_148 rfl ?_
  refine xw_bipush 151 (nI 6) dL_shop_149 rfl (by decide) ?_
  refine xw_lSQ 154 dL_shop_151 rfl ok_L_at s_L_24 (S_L_atQ (by decide) (by decide)) (lAt_nt) rfl rfl rfl rfl rfl rfl rfl rfl (fun ov9 hp9 q9 => ?_)
  obtain ⟨⟨b, hb, q1⟩, rfl⟩ := q9
  cases q1
  refine xw_istore (ls' := [(7, _), (6, _), (5, _), (0, _), (1, _), (2, _), (3, _), (4, _)]) 156 dL_shop_154 rfl rfl rfl ?_
  refine xw_iconst 157 (nI 0) dL_shop_156 rfl (xofI 0) ?_
  refine xw_istore (ls' := [(8, _), (7, _), (6, _), (5, _), (0, _), (1, _), (2, _), (3, _), (4, _)]) 159 dL_shop_157 rfl rfl rfl ?_
  refine xw_iconst 160 (nI 0) dL_shop_159 rfl (xofI 0) ?_
  refine xw_istore (ls' := [(9, _), (8, _), (7, _), (6, _), (5, _), (0, _), (1, _), (2, _), (3, _), (4, _)]) 162 dL_shop_160 rfl rfl rfl ?_
  refine xW.pick [0, 1, 2, 3, 5, 6, 7, 8, 9] rfl (shR (a := a) (b := b) L.1 N.sv ha hb (fun ch2 P => ?_) (12 * zI w 4) 0 ch (Nat.zero_add _) lRP_0)
  have L9 : lwA (zrec w a b) ch2 be st := L.rec ha hb (fun j g1 g2 => by
    rw [P j]
    by_cases g : a = b
    · rw [if_pos g, if_neg (fun q => q.2.2 g)]
    · rw [if_neg g, if_pos ⟨g1, g2, g⟩])
  refine xw_aload_n 251 dL_shop_250 rfl rfl rfl ?_
  refine xw_iload 253 dL_shop_251 rfl rfl ?_
  refine xw_iload 255 dL_shop_253 rfl rfl ?_
  refine xw_lVQ 258 dL_shop_255 rfl ok_B_recolour s_L_57 (S_L_rec L.1 hq hm ha hb) (lq_nt) (lT_o) rfl rfl rfl rfl rfl rfl rfl rfl rfl (fun ov9 hp9 q9 => ?_)
  obtain ⟨q1, w2, sx2, A2, rfl⟩ := q9
  cases q1
  rw [lRc_N L.1 L.2.1]
  refine xw_iload 260 dL_shop_258 rfl rfl ?_
  refine xw_icmp_ne 267 263 dL_shop_260 rfl rfl (fun h260 => absurd (rfl) h260) (fun h260 => ?_)
  refine xw_iconst 264 (nI 1) dL_shop_263 rfl (xofI 1) ?_
  refine xw_goto 268 dL_shop_264 rfl ?_
  exact xw_zreturn dL_shop_268 rfl (by decide) (lwQ_sav hq N.sv.rec L9 A2)
theorem shD {u : Nat} {ch : Nat → Int32} (S : xSta G) (hq : q < 6) (hm : m ≤ 6) (N : lwN w m n) (L : lwA w ch be st) (hu : 5 ≤ u) (hu2 : u < 8) : xW G L_shop lwQ 12 [(5, .int (nI u)), (0, .ref 0), (1, .int a0), (2, .int b0), (3, .ref 71), (4, .ref 72)] [] (bHp w sv (nI q) (nI m) (nI 0) co sx (lT (lsave n m) ch be st J)) x 65 390 := by
  have s276 : ∀ k, k < 4 → xW G L_shop lwQ 276 [(6, .int (nI k)), (5, .int (nI u)), (0, .ref 0), (1, .int a0), (2, .int b0), (3, .ref 71), (4, .ref 72)] [] (bHp w sv (nI q) (nI m) (nI 0) co sx (lT (lsave n m) ch be st J)) x 65 390 := by
    intro k hk
    have s368 : ∀ v, zlo k ≤ v → v ≤ zhi k → v ≤ 1000 → xW G L_shop lwQ 368 [(7, .int (w k)), (6, .int (nI k)), (5, .int (nI u)), (0, .ref 0), (1, .int a0), (2, .int b0), (3, .ref 71), (4, .ref 72)] [.int (nI v), .int (nI (2 + k)), .ref 71] (bHp w sv (nI q) (nI m) (nI 0) co sx (lT (lsave n m) ch be st J)) x 65 390 := by
      intro v h1 h2 h3
      have N9 := N.sv.set (v := nI v) hk
      refine xw_iastore (j := 2 + k) 369 dL_shop_368 rfl (lT_n) (rfl) (by omega) (by omega) (lT_sn) ?_
      refine xw_aload_n 370 dL_shop_369 rfl rfl rfl ?_
      refine xw_iload 372 dL_shop_370 rfl rfl ?_
      refine xw_aload_n 373 dL_shop_372 rfl rfl rfl ?_
      refine xw_iconst 374 (nI 2) dL_shop_373 rfl (xofI 2) ?_
      refine xw_iload 376 dL_shop_374 rfl rfl ?_
      refine xw_iadd 377 dL_shop_376 rfl ?_
      refine xw_ialv (j := 2 + k) 378 dL_shop_377 rfl (lT_n) (nI_add _ _) (by omega) (by omega) (upd_at) ?_
      refine xw_lVQ 381 dL_shop_378 rfl ok_B_set s_L_60 (S_L_set S hq hm hk h1 h2 h3) (lq_nt) (lT_o) rfl rfl rfl rfl rfl rfl rfl rfl rfl (fun ov9 hp9 q9 => ?_)
      obtain ⟨q1, w2, sx2, A2, rfl⟩ := q9
      cases q1
      refine xw_iload 383 dL_shop_381 rfl rfl ?_
      refine xw_icmp_ne 390 386 dL_shop_383 rfl rfl (fun h383 => absurd (rfl) h383) (fun h383 => ?_)
      refine xw_iconst 387 (nI 1) dL_shop_386 rfl (xofI 1) ?_
      refine xw_goto 391 dL_shop_387 rfl ?_
      exact xw_zreturn dL_shop_391 rfl (by decide) (lwQ_sav hq N9 (L.set hk h1 h2) A2)
    have hw := N.sv.k hk
    rcases (show k = 0 ∨ k = 1 ∨ k = 2 ∨ k = 3 by omega) with rfl | rfl | rfl | rfl
    · refine xw_aload_n 277 dL_shop_276 rfl rfl rfl ?_
      refine xw_iconst 278 (nI 2) dL_shop_277 rfl (xofI 2) ?_
      refine xw_iload 280 dL_shop_278 rfl rfl ?_
      refine xw_iadd 281 dL_shop_280 rfl ?_
      refine xw_ialv (j := 2 + 0) 282 dL_shop_281 rfl (lT_n) (nI_add _ _) (by decide) (by decide) (hw) ?_
      refine xw_istore (ls' := [(7, _), (6, _), (5, _), (0, _), (1, _), (2, _), (3, _), (4, _)]) 284 dL_shop_282 rfl rfl rfl ?_
      refine xw_aload_n 285 dL_shop_284 rfl rfl rfl ?_
      refine xw_iconst 286 (nI 2) dL_shop_285 rfl (xofI 2) ?_
      refine xw_iload 288 dL_shop_286 rfl rfl ?_
      refine xw_iadd 289 dL_shop_288 rfl ?_
      rw [nI_add]
      refine xw_iload 291 dL_shop_289 rfl rfl ?_
      refine xw_if_ne 307 294 dL_shop_291 rfl rfl (fun h291 => absurd (rfl) h291) (fun h291 => ?_)
      refine xw_iconst 295 (nI 3) dL_shop_294 rfl (xofI 3) ?_
      refine xw_iload_n 296 dL_shop_295 rfl rfl ?_
      refine xw_iconst 297 (nI 3) dL_shop_296 rfl (xofI 3) ?_
      refine xw_ishr 298 dL_shop_297 rfl ?_
      refine xw_bipush 300 (nI 13) dL_shop_298 rfl (by decide) ?_
      refine xw_lSQ 303 dL_shop_300 rfl ok_L_at s_L_24 (S_L_atQ (by decide) (by decide)) (lAt_nt) rfl rfl rfl rfl rfl rfl rfl rfl (fun ov9 hp9 q9 => ?_)
      obtain ⟨⟨y, hy, q1⟩, rfl⟩ := q9
      cases q1
      refine xw_iadd 304 dL_shop_303 rfl ?_
      rw [nI_add]
      refine xw_goto 368 dL_shop_304 rfl ?_
      exact xW.pick [0, 1, 2, 3, 4, 5, 6, 7] rfl (s368 (3 + y) (show 3 ≤ 3 + y by omega) (show 3 + y ≤ 15 by omega) (by omega))
    · refine xw_aload_n 277 dL_shop_276 rfl rfl rfl ?_
      refine xw_iconst 278 (nI 2) dL_shop_277 rfl (xofI 2) ?_
      refine xw_iload 280 dL_shop_278 rfl rfl ?_
      refine xw_iadd 281 dL_shop_280 rfl ?_
      refine xw_ialv (j := 2 + 1) 282 dL_shop_281 rfl (lT_n) (nI_add _ _) (by decide) (by decide) (hw) ?_
      refine xw_istore (ls' := [(7, _), (6, _), (5, _), (0, _), (1, _), (2, _), (3, _), (4, _)]) 284 dL_shop_282 rfl rfl rfl ?_
      refine xw_aload_n 285 dL_shop_284 rfl rfl rfl ?_
      refine xw_iconst 286 (nI 2) dL_shop_285 rfl (xofI 2) ?_
      refine xw_iload 288 dL_shop_286 rfl rfl ?_
      refine xw_iadd 289 dL_shop_288 rfl ?_
      rw [nI_add]
      refine xw_iload 291 dL_shop_289 rfl rfl ?_
      refine xw_if_ne 307 294 dL_shop_291 rfl rfl (fun h291 => ?_) (fun h291 => absurd h291 (by decide))
      refine xw_iload 309 dL_shop_307 rfl rfl ?_
      refine xw_iconst 310 (nI 1) dL_shop_309 rfl (xofI 1) ?_
      refine xw_icmp_ne 324 313 dL_shop_310 rfl rfl (fun h310 => absurd (rfl) h310) (fun h310 => ?_)
      refine xw_iload_n 314 dL_shop_313 rfl rfl ?_
      refine xw_iconst 315 (nI 3) dL_shop_314 rfl (xofI 3) ?_
      refine xw_ishr 316 dL_shop_315 rfl ?_
      refine xw_bipush 318 (nI 12) dL_shop_316 rfl (by decide) ?_
      refine xw_lSQ 321 dL_shop_318 rfl ok_L_at s_L_24 (S_L_atQ (by decide) (by decide)) (lAt_nt) rfl rfl rfl rfl rfl rfl rfl rfl (fun ov9 hp9 q9 => ?_)
      obtain ⟨⟨y, hy, q1⟩, rfl⟩ := q9
      cases q1
      refine xw_goto 368 dL_shop_321 rfl ?_
      exact xW.pick [0, 1, 2, 3, 4, 5, 6, 7] rfl (s368 y (show 0 ≤ y by omega) (show y ≤ 11 by omega) (by omega))
    · refine xw_aload_n 277 dL_shop_276 rfl rfl rfl ?_
      refine xw_iconst 278 (nI 2) dL_shop_277 rfl (xofI 2) ?_
      refine xw_iload 280 dL_shop_278 rfl rfl ?_
      refine xw_iadd 281 dL_shop_280 rfl ?_
      refine xw_ialv (j := 2 + 2) 282 dL_shop_281 rfl (lT_n) (nI_add _ _) (by decide) (by decide) (hw) ?_
      refine xw_istore (ls' := [(7, _), (6, _), (5, _), (0, _), (1, _), (2, _), (3, _), (4, _)]) 284 dL_shop_282 rfl rfl rfl ?_
      refine xw_aload_n 285 dL_shop_284 rfl rfl rfl ?_
      refine xw_iconst 286 (nI 2) dL_shop_285 rfl (xofI 2) ?_
      refine xw_iload 288 dL_shop_286 rfl rfl ?_
      refine xw_iadd 289 dL_shop_288 rfl ?_
      rw [nI_add]
      refine xw_iload 291 dL_shop_289 rfl rfl ?_
      refine xw_if_ne 307 294 dL_shop_291 rfl rfl (fun h291 => ?_) (fun h291 => absurd h291 (by decide))
      refine xw_iload 309 dL_shop_307 rfl rfl ?_
      refine xw_iconst 310 (nI 1) dL_shop_309 rfl (xofI 1) ?_
      refine xw_icmp_ne 324 313 dL_shop_310 rfl rfl (fun h310 => ?_) (fun h310 => absurd h310 (by decide))
      refine xw_iload 326 dL_shop_324 rfl rfl ?_
      refine xw_iconst 327 (nI 2) dL_shop_326 rfl (xofI 2) ?_
      refine xw_icmp_ne 360 330 dL_shop_327 rfl rfl (fun h327 => absurd (rfl) h327) (fun h327 => ?_)
      refine xw_iconst 331 (nI 5) dL_shop_330 rfl (xofI 5) ?_
      refine xw_iload_n 332 dL_shop_331 rfl rfl ?_
      refine xw_iconst 333 (nI 3) dL_shop_332 rfl (xofI 3) ?_
      refine xw_ishr 334 dL_shop_333 rfl ?_
      refine xw_iload_n 335 dL_shop_334 rfl rfl ?_
      refine xw_bipush 337 (nI 12) dL_shop_335 rfl (by decide) ?_
      refine xw_ishr 338 dL_shop_337 rfl ?_
      refine xw_iconst 339 (nI 2) dL_shop_338 rfl (xofI 2) ?_
      refine xw_lSQ 342 dL_shop_339 rfl ok_L_at s_L_24 (S_L_atQ (by decide) (by decide)) (lAt_nt) rfl rfl rfl rfl rfl rfl rfl rfl (fun ov9 hp9 q9 => ?_)
      obtain ⟨⟨u2, hu2, q1⟩, rfl⟩ := q9
      cases q1
      refine xw_if_ne 351 345 dL_shop_342 rfl rfl (fun h342 => ?_) (fun h342 => ?_)
      · refine xw_bipush 353 (nI 12) dL_shop_351 rfl (by decide) ?_
        refine xw_lSQ 356 dL_shop_353 rfl ok_L_at s_L_24 (S_L_atQ (by decide) (by decide)) (lAt_nt) rfl rfl rfl rfl rfl rfl rfl rfl (fun ov9 hp9 q9 => ?_)
        obtain ⟨⟨y, hy, q1⟩, rfl⟩ := q9
        cases q1
        refine xw_iadd 357 dL_shop_356 rfl ?_
        rw [nI_add]
        refine xw_goto 368 dL_shop_357 rfl ?_
        exact xW.pick [0, 1, 2, 3, 4, 5, 6, 7] rfl (s368 (5 + y) (show 5 ≤ 5 + y by omega) (show 5 + y ≤ 240 by omega) (by omega))
      · refine xw_sipush 348 (nI 236) dL_shop_345 rfl (by decide) ?_
        refine xw_goto 353 dL_shop_348 rfl ?_
        refine xw_lSQ 356 dL_shop_353 rfl ok_L_at s_L_24 (S_L_atQ (by decide) (by decide)) (lAt_nt) rfl rfl rfl rfl rfl rfl rfl rfl (fun ov9 hp9 q9 => ?_)
        obtain ⟨⟨y, hy, q1⟩, rfl⟩ := q9
        cases q1
        refine xw_iadd 357 dL_shop_356 rfl ?_
        rw [nI_add]
        refine xw_goto 368 dL_shop_357 rfl ?_
        exact xW.pick [0, 1, 2, 3, 4, 5, 6, 7] rfl (s368 (5 + y) (show 5 ≤ 5 + y by omega) (show 5 + y ≤ 240 by omega) (by omega))
    · refine xw_aload_n 277 dL_shop_276 rfl rfl rfl ?_
      refine xw_iconst 278 (nI 2) dL_shop_277 rfl (xofI 2) ?_
      refine xw_iload 280 dL_shop_278 rfl rfl ?_
      refine xw_iadd 281 dL_shop_280 rfl ?_
      refine xw_ialv (j := 2 + 3) 282 dL_shop_281 rfl (lT_n) (nI_add _ _) (by decide) (by decide) (hw) ?_
      refine xw_istore (ls' := [(7, _), (6, _), (5, _), (0, _), (1, _), (2, _), (3, _), (4, _)]) 284 dL_shop_282 rfl rfl rfl ?_
      refine xw_aload_n 285 dL_shop_284 rfl rfl rfl ?_
      refine xw_iconst 286 (nI 2) dL_shop_285 rfl (xofI 2) ?_
      refine xw_iload 288 dL_shop_286 rfl rfl ?_
      refine xw_iadd 289 dL_shop_288 rfl ?_
      rw [nI_add]
      refine xw_iload 291 dL_shop_289 rfl rfl ?_
      refine xw_if_ne 307 294 dL_shop_291 rfl rfl (fun h291 => ?_) (fun h291 => absurd h291 (by decide))
      refine xw_iload 309 dL_shop_307 rfl rfl ?_
      refine xw_iconst 310 (nI 1) dL_shop_309 rfl (xofI 1) ?_
      refine xw_icmp_ne 324 313 dL_shop_310 rfl rfl (fun h310 => ?_) (fun h310 => absurd h310 (by decide))
      refine xw_iload 326 dL_shop_324 rfl rfl ?_
      refine xw_iconst 327 (nI 2) dL_shop_326 rfl (xofI 2) ?_
      refine xw_icmp_ne 360 330 dL_shop_327 rfl rfl (fun h327 => ?_) (fun h327 => absurd h327 (by decide))
      refine xw_iload_n 361 dL_shop_360 rfl rfl ?_
      refine xw_iconst 362 (nI 3) dL_shop_361 rfl (xofI 3) ?_
      refine xw_ishr 363 dL_shop_362 rfl ?_
      refine xw_bipush 365 (nI 6) dL_shop_363 rfl (by decide) ?_
      refine xw_lSQ 368 dL_shop_365 rfl ok_L_at s_L_24 (S_L_atQ (by decide) (by decide)) (lAt_nt) rfl rfl rfl rfl rfl rfl rfl rfl (fun ov9 hp9 q9 => ?_)
      obtain ⟨⟨y, hy, q1⟩, rfl⟩ := q9
      cases q1
      exact xW.pick [0, 1, 2, 3, 4, 5, 6, 7] rfl (s368 y (show 0 ≤ y by omega) (show y ≤ 5 by omega) (by omega))
  refine xw_iload 14 dL_shop_12 rfl rfl ?_
  refine xw_iconst 15 (nI 3) dL_shop_14 rfl (xofI 3) ?_
  refine xw_icmp_ge 114 18 dL_shop_15 rfl rfl (fun h15 => ?_) (fun h15 => absurd (nI_le (by omega) (by omega)) h15)
  refine xw_iload 116 dL_shop_114 rfl rfl ?_
  refine xw_iconst 117 (nI 3) dL_shop_116 rfl (xofI 3) ?_
  refine xw_icmp_ne 132 120 dL_shop_117 rfl rfl (fun h117 => ?_) (fun h117 => absurd h117 (fun q => by have := (nI_eq (by omega) (by decide)).mp q; omega))
  refine xw_iload 134 dL_shop_132 rfl rfl ?_
  refine xw_iconst 135 (nI 4) dL_shop_134 rfl (xofI 4) ?_
  refine xw_icmp_ne 269 138 dL_shop_135 rfl rfl (fun h135 => ?_) (fun h135 => absurd h135 (fun q => by have := (nI_eq (by omega) (by decide)).mp q; omega))
  refine xw_iload_n 270 dL_shop_269 rfl rfl ?_
  refine xw_iconst 271 (nI 4) dL_shop_270 rfl (xofI 4) ?_
  refine xw_lSQ 274 dL_shop_271 rfl ok_L_at s_L_24 (S_L_atQ (by decide) (by decide)) (lAt_nt) rfl rfl rfl rfl rfl rfl rfl rfl (fun ov9 hp9 q9 => ?_)
  obtain ⟨⟨k, hk, q1⟩, rfl⟩ := q9
  cases q1
  refine xw_istore (ls' := [(6, _), (5, _), (0, _), (1, _), (2, _), (3, _), (4, _)]) 276 dL_shop_274 rfl rfl rfl ?_
  exact xW.pick [0, 1, 2, 3, 4, 5, 6] rfl (s276 k hk)
theorem S_L_shop {ch : Nat → Int32} (S : xSta G) (hq : q < 6) (hm : m ≤ 6) (N : lwN w m n) (L : lwA w ch be st) : xMet G L_shop [.ref 0, .int a0, .int b0, .ref 71, .ref 72] (bHp w sv (nI q) (nI m) (nI 0) co sx (lT n ch be st J)) x 65 390 lwQ := by
  refine xw_iload_n 1 dL_shop_0 rfl rfl ?_
  refine xw_bipush 3 (nI 8) dL_shop_1 rfl (by decide) ?_
  refine xw_lSQ 6 dL_shop_3 rfl ok_L_at s_L_24 (S_L_atQ (by decide) (by decide)) (lAt_nt) rfl rfl rfl rfl rfl rfl rfl rfl (fun ov9 hp9 q9 => ?_)
  obtain ⟨⟨u, hu, q1⟩, rfl⟩ := q9
  cases q1
  refine xw_istore (ls' := [(5, _), (0, _), (1, _), (2, _), (3, _), (4, _)]) 8 dL_shop_6 rfl rfl rfl ?_
  refine xw_aload_n 9 dL_shop_8 rfl rfl rfl ?_
  refine xw_pSv 12 dL_shop_9 rfl ok_L_save s_L_43 (S_L_save (h1 := (bHp w sv (nI q) (nI m) (nI 0) co sx (lT (lsave n m) ch be st J))) lT_n N.v9 hm lT_sn) (rfl) rfl rfl rfl rfl rfl rfl ?_
  have s : u < 3 ∨ u = 3 ∨ u = 4 ∨ 5 ≤ u := by omega
  rcases s with g | rfl | rfl | g
  · exact xW.pick [0, 1, 2, 3, 4, 5] rfl (shA hq hm N L g)
  · exact xW.pick [0, 1, 2, 3, 4, 5] rfl (shB hq hm N L)
  · exact xW.pick [0, 1, 2, 3, 4, 5] rfl (shC hq hm N L)
  exact xW.pick [0, 1, 2, 3, 4, 5] rfl (shD S hq hm N L g hu)
end P47

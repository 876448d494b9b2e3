/-! ===== the law: cases ===== -/
section P60
variable {G : xG} {x t i : Nat} {w z : Nat → Int32} {sv : Nat → Nat → Int32} {q n l : Nat} {co hi : Nat → Int32} {sx : xSx} {th : Int32} {c : mS} {f : Nat → Int64}
theorem S_case_load (S : xSta G) (R : xRel (w, sv, q, n, l, co) (z, hi, n, l, co)) (h3 : i + 3 ≤ (xgr G 0).1) (h15 : (xgr G 0).1 ≤ 1536) (next : ∀ (s' : xCS) (sx' : xSx) (m' : xMS) (th' : Int32) (c' : mS) (f' : Nat → Int64), xRel s' m' → xW G L_law lQ 1649 [(4, .int (nI i)), (0, .retAddr 0), (1, .ref 0), (2, .ref 71), (3, .ref 82)] [] (lHp s' sx' m' th' c' f') (x + 1) t (6 * t)) : xW G L_law lQ 172 [(4, .int (nI i)), (0, .retAddr 0), (1, .ref 0), (2, .ref 71), (3, .ref 82)] [] (lHp (w, sv, q, n, l, co) sx (z, hi, n, l, co) th c f) x (t + 1) (6 * (t + 1)) := by
  obtain ⟨I, Ag, hq, hn, -, -, -, X, -⟩ := id R
  dsimp only at I Ag hq hn X
  have J := Ag.inv I
  have hS := Q_loa R
  have hr : (oLoa (w, sv, q, n, l, co)).1 = (oLoaM (z, hi, n, l, co)).1 := hS.1
  have hK : (oLoa (w, sv, q, n, l, co)).1.1 ≤ 2 := K_loa
  refine xW.cast (hp' := cHp (w, sv, q, n, l, co) sx (lTO (mCq (z, hi, n, l, co) th c []) f)) rfl rfl rfl ?_
  refine xw_aload_n 173 dL_law_172 rfl rfl rfl ?_
  refine xw_aload_n 174 dL_law_173 rfl rfl rfl ?_
  refine xw_lS 177 dL_law_174 rfl ok_L_load s_L_88 (S_L_load (r := (oLoa (w, sv, q, n, l, co)).1) (s' := (oLoa (w, sv, q, n, l, co)).2) (M := mCq (z, hi, n, l, co) th c []) (f := f) rfl hK (S_B_load X hq hn)) rfl rfl rfl rfl rfl rfl rfl rfl (fun w9 sx9 g9 => ?_)
  by_cases e0 : (oLoa (w, sv, q, n, l, co)).1.1 = 0
  · rw [if_pos e0]
    refine xw_istore (ls' := [(5, _), (4, _), (0, _), (1, _), (2, _), (3, _)]) 179 dL_law_177 rfl rfl rfl ?_
    refine xW.cast (hp' := (mH (cHp (w9, (oLoa (w, sv, q, n, l, co)).2.2) sx9 []) z (nI n) hi (nI l) co th c.1 c.2.1 c.2.2.1 c.2.2.2.1 c.2.2.2.2.1 c.2.2.2.2.2.1 c.2.2.2.2.2.2.1 c.2.2.2.2.2.2.2.1 c.2.2.2.2.2.2.2.2.1 c.2.2.2.2.2.2.2.2.2.1 c.2.2.2.2.2.2.2.2.2.2.1 c.2.2.2.2.2.2.2.2.2.2.2.1 c.2.2.2.2.2.2.2.2.2.2.2.2.1 c.2.2.2.2.2.2.2.2.2.2.2.2.2 [.inl (2, 1, .inr (.inl (vp_updL f 0 (oLoa (w, sv, q, n, l, co)).1.2.toInt64)))])) rfl rfl rfl ?_
    refine xw_aload_n 180 dL_law_179 rfl rfl rfl ?_
    refine xw_qV 183 dL_law_180 rfl ok_M_load s_L_93 ((S_M_load rfl X hn)) (fun E hp9 q9 => by cases q9.1) (fun o9 hp9 q9 => by obtain ⟨_, _, q9⟩ := q9; rw [q9]; exact mH_len) (xA rfl rfl) rfl rfl rfl rfl rfl rfl rfl (fun ov9 hp9 q9 => ?_)
    obtain ⟨q1, c9, rfl⟩ := q9
    cases q1
    refine xw_istore (ls' := [(6, _), (5, _), (4, _), (0, _), (1, _), (2, _), (3, _)]) 185 dL_law_183 rfl rfl rfl ?_
    refine xw_aload_n 186 dL_law_185 rfl rfl rfl ?_
    refine xw_pV 189 dL_law_186 rfl ok_M_thrown s_L_94 (S_M_thrown rfl) (mH_len) (xA rfl rfl) rfl rfl rfl rfl rfl rfl rfl ?_
    refine xw_iload 191 dL_law_189 rfl rfl ?_
    refine xw_icmp_eq 196 194 dL_law_191 rfl rfl (fun h191 => ?_) (fun h191 => absurd (by rw [hr]) h191)
    refine xw_iload 198 dL_law_196 rfl rfl ?_
    refine xw_if_ne 213 201 dL_law_198 rfl rfl (fun h198 => absurd (by rw [e0]; rfl) h198) (fun h198 => ?_)
    refine xw_aload_n 202 dL_law_201 rfl rfl rfl ?_
    refine xw_iconst 203 (nI 0) dL_law_202 rfl (xofI 0) ?_
    refine xw_laload (j := 0) 204 dL_law_203 rfl (xA (j := 11) rfl rfl) (rfl) (by decide) (by omega) ?_
    refine xw_iload 206 dL_law_204 rfl rfl ?_
    refine xw_i2l 207 dL_law_206 rfl ?_
    refine xw_lcmp 208 dL_law_207 rfl ?_
    have hc9 : lg_cmp (vp_updL f 0 (oLoa (w, sv, q, n, l, co)).1.2.toInt64 0) (oLoaM (z, hi, n, l, co)).1.2.toInt64 = 0 := by rw [show vp_updL f 0 (oLoa (w, sv, q, n, l, co)).1.2.toInt64 0 = (oLoa (w, sv, q, n, l, co)).1.2.toInt64 from if_pos rfl, hr, lg_cmp_self]
    refine xw_if_eq 213 211 dL_law_208 rfl rfl (fun h208 => ?_) (fun h208 => absurd (hc9) h208)
    refine xw_goto 1649 dL_law_213 rfl ?_
    refine xW.pick [2, 3, 4, 5, 6] rfl ?_
    refine xW.cast (hp' := lHp (w9, (oLoa (w, sv, q, n, l, co)).2.2) sx9 (oLoaM (z, hi, n, l, co)).2 (nI (oLoaM (z, hi, n, l, co)).1.1) c9 (vp_updL f 0 (oLoa (w, sv, q, n, l, co)).1.2.toInt64)) rfl rfl rfl ?_
    exact next _ _ _ _ _ _ (xRel_w hS.2 g9)
  · rw [if_neg e0]
    refine xw_istore (ls' := [(5, _), (4, _), (0, _), (1, _), (2, _), (3, _)]) 179 dL_law_177 rfl rfl rfl ?_
    refine xW.cast (hp' := (mH (cHp (w9, (oLoa (w, sv, q, n, l, co)).2.2) sx9 []) z (nI n) hi (nI l) co th c.1 c.2.1 c.2.2.1 c.2.2.2.1 c.2.2.2.2.1 c.2.2.2.2.2.1 c.2.2.2.2.2.2.1 c.2.2.2.2.2.2.2.1 c.2.2.2.2.2.2.2.2.1 c.2.2.2.2.2.2.2.2.2.1 c.2.2.2.2.2.2.2.2.2.2.1 c.2.2.2.2.2.2.2.2.2.2.2.1 c.2.2.2.2.2.2.2.2.2.2.2.2.1 c.2.2.2.2.2.2.2.2.2.2.2.2.2 [.inl (2, 1, .inr (.inl f))])) rfl rfl rfl ?_
    refine xw_aload_n 180 dL_law_179 rfl rfl rfl ?_
    refine xw_qV 183 dL_law_180 rfl ok_M_load s_L_93 ((S_M_load rfl X hn)) (fun E hp9 q9 => by cases q9.1) (fun o9 hp9 q9 => by obtain ⟨_, _, q9⟩ := q9; rw [q9]; exact mH_len) (xA rfl rfl) rfl rfl rfl rfl rfl rfl rfl (fun ov9 hp9 q9 => ?_)
    obtain ⟨q1, c9, rfl⟩ := q9
    cases q1
    refine xw_istore (ls' := [(6, _), (5, _), (4, _), (0, _), (1, _), (2, _), (3, _)]) 185 dL_law_183 rfl rfl rfl ?_
    refine xw_aload_n 186 dL_law_185 rfl rfl rfl ?_
    refine xw_pV 189 dL_law_186 rfl ok_M_thrown s_L_94 (S_M_thrown rfl) (mH_len) (xA rfl rfl) rfl rfl rfl rfl rfl rfl rfl ?_
    refine xw_iload 191 dL_law_189 rfl rfl ?_
    refine xw_icmp_eq 196 194 dL_law_191 rfl rfl (fun h191 => ?_) (fun h191 => absurd (by rw [hr]) h191)
    refine xw_iload 198 dL_law_196 rfl rfl ?_
    refine xw_if_ne 213 201 dL_law_198 rfl rfl (fun h198 => ?_) (fun h198 => absurd h198 (nI_ne0 (by omega) (by omega)))
    refine xw_goto 1649 dL_law_213 rfl ?_
    refine xW.pick [2, 3, 4, 5, 6] rfl ?_
    refine xW.cast (hp' := lHp (w9, (oLoa (w, sv, q, n, l, co)).2.2) sx9 (oLoaM (z, hi, n, l, co)).2 (nI (oLoaM (z, hi, n, l, co)).1.1) c9 f) rfl rfl rfl ?_
    exact next _ _ _ _ _ _ (xRel_w hS.2 g9)
theorem S_case_turn (S : xSta G) (R : xRel (w, sv, q, n, l, co) (z, hi, n, l, co)) (h3 : i + 3 ≤ (xgr G 0).1) (h15 : (xgr G 0).1 ≤ 1536) (next : ∀ (s' : xCS) (sx' : xSx) (m' : xMS) (th' : Int32) (c' : mS) (f' : Nat → Int64), xRel s' m' → xW G L_law lQ 1649 [(4, .int (nI i)), (0, .retAddr 0), (1, .ref 0), (2, .ref 71), (3, .ref 82)] [] (lHp s' sx' m' th' c' f') (x + 1) t (6 * t)) : xW G L_law lQ 216 [(4, .int (nI i)), (0, .retAddr 0), (1, .ref 0), (2, .ref 71), (3, .ref 82)] [] (lHp (w, sv, q, n, l, co) sx (z, hi, n, l, co) th c f) x (t + 1) (6 * (t + 1)) := by
  obtain ⟨I, Ag, hq, hn, -, -, -, X, -⟩ := id R
  dsimp only at I Ag hq hn X
  have J := Ag.inv I
  have hS := Q_tur (p := ((xgr G 0).2 (i + 1))) R
  have hr : (oTur (w, sv, q, n, l, co) ((xgr G 0).2 (i + 1))).1 = (oTurM (z, hi, n, l, co) ((xgr G 0).2 (i + 1))).1 := hS.1
  have hK : (oTur (w, sv, q, n, l, co) ((xgr G 0).2 (i + 1))).1.1 ≤ 2 := K_tur
  refine xW.cast (hp' := cHp (w, sv, q, n, l, co) sx (lTO (mCq (z, hi, n, l, co) th c []) f)) rfl rfl rfl ?_
  refine xw_aload_n 217 dL_law_216 rfl rfl rfl ?_
  refine xw_aload_n 218 dL_law_217 rfl rfl rfl ?_
  refine xw_iload 220 dL_law_218 rfl rfl ?_
  refine xw_iconst 221 (nI 1) dL_law_220 rfl (xofI 1) ?_
  refine xw_iadd 222 dL_law_221 rfl ?_
  refine xw_ialoadR (j := i + 1) 223 dL_law_222 rfl (by decide) (nI_add _ _) (by omega) (by omega) ?_
  refine xw_aload_n 224 dL_law_223 rfl rfl rfl ?_
  refine xw_lS 227 dL_law_224 rfl ok_L_turn s_L_97 (S_L_turn (r := (oTur (w, sv, q, n, l, co) ((xgr G 0).2 (i + 1))).1) (s' := (oTur (w, sv, q, n, l, co) ((xgr G 0).2 (i + 1))).2) (M := mCq (z, hi, n, l, co) th c []) (f := f) rfl hK (S_B_turn J hq hn)) rfl rfl rfl rfl rfl rfl rfl rfl (fun w9 sx9 g9 => ?_)
  by_cases e0 : (oTur (w, sv, q, n, l, co) ((xgr G 0).2 (i + 1))).1.1 = 0
  · rw [if_pos e0]
    refine xw_istore (ls' := [(5, _), (4, _), (0, _), (1, _), (2, _), (3, _)]) 229 dL_law_227 rfl rfl rfl ?_
    refine xW.cast (hp' := (mH (cHp (w9, (oTur (w, sv, q, n, l, co) ((xgr G 0).2 (i + 1))).2.2) sx9 []) z (nI n) hi (nI l) co th c.1 c.2.1 c.2.2.1 c.2.2.2.1 c.2.2.2.2.1 c.2.2.2.2.2.1 c.2.2.2.2.2.2.1 c.2.2.2.2.2.2.2.1 c.2.2.2.2.2.2.2.2.1 c.2.2.2.2.2.2.2.2.2.1 c.2.2.2.2.2.2.2.2.2.2.1 c.2.2.2.2.2.2.2.2.2.2.2.1 c.2.2.2.2.2.2.2.2.2.2.2.2.1 c.2.2.2.2.2.2.2.2.2.2.2.2.2 [.inl (2, 1, .inr (.inl (vp_updL f 0 (oTur (w, sv, q, n, l, co) ((xgr G 0).2 (i + 1))).1.2.toInt64)))])) rfl rfl rfl ?_
    refine xw_aload_n 230 dL_law_229 rfl rfl rfl ?_
    refine xw_aload_n 231 dL_law_230 rfl rfl rfl ?_
    refine xw_iload 233 dL_law_231 rfl rfl ?_
    refine xw_iconst 234 (nI 1) dL_law_233 rfl (xofI 1) ?_
    refine xw_iadd 235 dL_law_234 rfl ?_
    refine xw_ialoadR (j := i + 1) 236 dL_law_235 rfl (by decide) (nI_add _ _) (by omega) (by omega) ?_
    refine xw_qV 239 dL_law_236 rfl ok_M_turn s_L_100 ((S_M_turn rfl I hn)) (fun E hp9 q9 => by cases q9.1) (fun o9 hp9 q9 => by obtain ⟨_, _, q9⟩ := q9; rw [q9]; exact mH_len) (xA rfl rfl) rfl rfl rfl rfl rfl rfl rfl (fun ov9 hp9 q9 => ?_)
    obtain ⟨q1, c9, rfl⟩ := q9
    cases q1
    refine xw_istore (ls' := [(6, _), (5, _), (4, _), (0, _), (1, _), (2, _), (3, _)]) 241 dL_law_239 rfl rfl rfl ?_
    refine xw_aload_n 242 dL_law_241 rfl rfl rfl ?_
    refine xw_pV 245 dL_law_242 rfl ok_M_thrown s_L_94 (S_M_thrown rfl) (mH_len) (xA rfl rfl) rfl rfl rfl rfl rfl rfl rfl ?_
    refine xw_iload 247 dL_law_245 rfl rfl ?_
    refine xw_icmp_eq 252 250 dL_law_247 rfl rfl (fun h247 => ?_) (fun h247 => absurd (by rw [hr]) h247)
    refine xw_iload 254 dL_law_252 rfl rfl ?_
    refine xw_if_ne 269 257 dL_law_254 rfl rfl (fun h254 => absurd (by rw [e0]; rfl) h254) (fun h254 => ?_)
    refine xw_aload_n 258 dL_law_257 rfl rfl rfl ?_
    refine xw_iconst 259 (nI 0) dL_law_258 rfl (xofI 0) ?_
    refine xw_laload (j := 0) 260 dL_law_259 rfl (xA (j := 11) rfl rfl) (rfl) (by decide) (by omega) ?_
    refine xw_iload 262 dL_law_260 rfl rfl ?_
    refine xw_i2l 263 dL_law_262 rfl ?_
    refine xw_lcmp 264 dL_law_263 rfl ?_
    have hc9 : lg_cmp (vp_updL f 0 (oTur (w, sv, q, n, l, co) ((xgr G 0).2 (i + 1))).1.2.toInt64 0) (oTurM (z, hi, n, l, co) ((xgr G 0).2 (i + 1))).1.2.toInt64 = 0 := by rw [show vp_updL f 0 (oTur (w, sv, q, n, l, co) ((xgr G 0).2 (i + 1))).1.2.toInt64 0 = (oTur (w, sv, q, n, l, co) ((xgr G 0).2 (i + 1))).1.2.toInt64 from if_pos rfl, hr, lg_cmp_self]
    refine xw_if_eq 269 267 dL_law_264 rfl rfl (fun h264 => ?_) (fun h264 => absurd (hc9) h264)
    refine xw_goto 1649 dL_law_269 rfl ?_
    refine xW.pick [2, 3, 4, 5, 6] rfl ?_
    refine xW.cast (hp' := lHp (w9, (oTur (w, sv, q, n, l, co) ((xgr G 0).2 (i + 1))).2.2) sx9 (oTurM (z, hi, n, l, co) ((xgr G 0).2 (i + 1))).2 (nI (oTurM (z, hi, n, l, co) ((xgr G 0).2 (i + 1))).1.1) c9 (vp_updL f 0 (oTur (w, sv, q, n, l, co) ((xgr G 0).2 (i + 1))).1.2.toInt64)) rfl rfl rfl ?_
    exact next _ _ _ _ _ _ (xRel_w hS.2 g9)
  · rw [if_neg e0]
    refine xw_istore (ls' := [(5, _), (4, _), (0, _), (1, _), (2, _), (3, _)]) 229 dL_law_227 rfl rfl rfl ?_
    refine xW.cast (hp' := (mH (cHp (w9, (oTur (w, sv, q, n, l, co) ((xgr G 0).2 (i + 1))).2.2) sx9 []) z (nI n) hi (nI l) co th c.1 c.2.1 c.2.2.1 c.2.2.2.1 c.2.2.2.2.1 c.2.2.2.2.2.1 c.2.2.2.2.2.2.1 c.2.2.2.2.2.2.2.1 c.2.2.2.2.2.2.2.2.1 c.2.2.2.2.2.2.2.2.2.1 c.2.2.2.2.2.2.2.2.2.2.1 c.2.2.2.2.2.2.2.2.2.2.2.1 c.2.2.2.2.2.2.2.2.2.2.2.2.1 c.2.2.2.2.2.2.2.2.2.2.2.2.2 [.inl (2, 1, .inr (.inl f))])) rfl rfl rfl ?_
    refine xw_aload_n 230 dL_law_229 rfl rfl rfl ?_
    refine xw_aload_n 231 dL_law_230 rfl rfl rfl ?_
    refine xw_iload 233 dL_law_231 rfl rfl ?_
    refine xw_iconst 234 (nI 1) dL_law_233 rfl (xofI 1) ?_
    refine xw_iadd 235 dL_law_234 rfl ?_
    refine xw_ialoadR (j := i + 1) 236 dL_law_235 rfl (by decide) (nI_add _ _) (by omega) (by omega) ?_
    refine xw_qV 239 dL_law_236 rfl ok_M_turn s_L_100 ((S_M_turn rfl I hn)) (fun E hp9 q9 => by cases q9.1) (fun o9 hp9 q9 => by obtain ⟨_, _, q9⟩ := q9; rw [q9]; exact mH_len) (xA rfl rfl) rfl rfl rfl rfl rfl rfl rfl (fun ov9 hp9 q9 => ?_)
    obtain ⟨q1, c9, rfl⟩ := q9
    cases q1
    refine xw_istore (ls' := [(6, _), (5, _), (4, _), (0, _), (1, _), (2, _), (3, _)]) 241 dL_law_239 rfl rfl rfl ?_
    refine xw_aload_n 242 dL_law_241 rfl rfl rfl ?_
    refine xw_pV 245 dL_law_242 rfl ok_M_thrown s_L_94 (S_M_thrown rfl) (mH_len) (xA rfl rfl) rfl rfl rfl rfl rfl rfl rfl ?_
    refine xw_iload 247 dL_law_245 rfl rfl ?_
    refine xw_icmp_eq 252 250 dL_law_247 rfl rfl (fun h247 => ?_) (fun h247 => absurd (by rw [hr]) h247)
    refine xw_iload 254 dL_law_252 rfl rfl ?_
    refine xw_if_ne 269 257 dL_law_254 rfl rfl (fun h254 => ?_) (fun h254 => absurd h254 (nI_ne0 (by omega) (by omega)))
    refine xw_goto 1649 dL_law_269 rfl ?_
    refine xW.pick [2, 3, 4, 5, 6] rfl ?_
    refine xW.cast (hp' := lHp (w9, (oTur (w, sv, q, n, l, co) ((xgr G 0).2 (i + 1))).2.2) sx9 (oTurM (z, hi, n, l, co) ((xgr G 0).2 (i + 1))).2 (nI (oTurM (z, hi, n, l, co) ((xgr G 0).2 (i + 1))).1.1) c9 f) rfl rfl rfl ?_
    exact next _ _ _ _ _ _ (xRel_w hS.2 g9)
theorem S_case_recolour (S : xSta G) (R : xRel (w, sv, q, n, l, co) (z, hi, n, l, co)) (h3 : i + 3 ≤ (xgr G 0).1) (h15 : (xgr G 0).1 ≤ 1536) (next : ∀ (s' : xCS) (sx' : xSx) (m' : xMS) (th' : Int32) (c' : mS) (f' : Nat → Int64), xRel s' m' → xW G L_law lQ 1649 [(4, .int (nI i)), (0, .retAddr 0), (1, .ref 0), (2, .ref 71), (3, .ref 82)] [] (lHp s' sx' m' th' c' f') (x + 1) t (6 * t)) : xW G L_law lQ 272 [(4, .int (nI i)), (0, .retAddr 0), (1, .ref 0), (2, .ref 71), (3, .ref 82)] [] (lHp (w, sv, q, n, l, co) sx (z, hi, n, l, co) th c f) x (t + 1) (6 * (t + 1)) := by
  obtain ⟨I, Ag, hq, hn, -, -, -, X, -⟩ := id R
  dsimp only at I Ag hq hn X
  have J := Ag.inv I
  have hS := Q_rec (p := ((xgr G 0).2 (i + 1))) (r := ((xgr G 0).2 (i + 2))) R
  have hr : (oRec (w, sv, q, n, l, co) ((xgr G 0).2 (i + 1)) ((xgr G 0).2 (i + 2))).1 = (oRecM (z, hi, n, l, co) ((xgr G 0).2 (i + 1)) ((xgr G 0).2 (i + 2))).1 := hS.1
  have hK : (oRec (w, sv, q, n, l, co) ((xgr G 0).2 (i + 1)) ((xgr G 0).2 (i + 2))).1.1 ≤ 1 := K_rec
  refine xW.cast (hp' := cHp (w, sv, q, n, l, co) sx (lTO (mCq (z, hi, n, l, co) th c []) f)) rfl rfl rfl ?_
  refine xw_aload_n 273 dL_law_272 rfl rfl rfl ?_
  refine xw_aload_n 274 dL_law_273 rfl rfl rfl ?_
  refine xw_iload 276 dL_law_274 rfl rfl ?_
  refine xw_iconst 277 (nI 1) dL_law_276 rfl (xofI 1) ?_
  refine xw_iadd 278 dL_law_277 rfl ?_
  refine xw_ialoadR (j := i + 1) 279 dL_law_278 rfl (by decide) (nI_add _ _) (by omega) (by omega) ?_
  refine xw_aload_n 280 dL_law_279 rfl rfl rfl ?_
  refine xw_iload 282 dL_law_280 rfl rfl ?_
  refine xw_iconst 283 (nI 2) dL_law_282 rfl (xofI 2) ?_
  refine xw_iadd 284 dL_law_283 rfl ?_
  refine xw_ialoadR (j := i + 2) 285 dL_law_284 rfl (by decide) (nI_add _ _) (by omega) (by omega) ?_
  refine xw_aload_n 286 dL_law_285 rfl rfl rfl ?_
  refine xw_lS 289 dL_law_286 rfl ok_L_recolour s_L_101 (S_L_recolour (r := (oRec (w, sv, q, n, l, co) ((xgr G 0).2 (i + 1)) ((xgr G 0).2 (i + 2))).1) (s' := (oRec (w, sv, q, n, l, co) ((xgr G 0).2 (i + 1)) ((xgr G 0).2 (i + 2))).2) (M := mCq (z, hi, n, l, co) th c []) (f := f) rfl hK (S_B_recolour J hq hn)) rfl rfl rfl rfl rfl rfl rfl rfl (fun w9 sx9 g9 => ?_)
  by_cases e0 : (oRec (w, sv, q, n, l, co) ((xgr G 0).2 (i + 1)) ((xgr G 0).2 (i + 2))).1.1 = 0
  · rw [if_pos e0]
    refine xw_istore (ls' := [(5, _), (4, _), (0, _), (1, _), (2, _), (3, _)]) 291 dL_law_289 rfl rfl rfl ?_
    refine xW.cast (hp' := (mH (cHp (w9, (oRec (w, sv, q, n, l, co) ((xgr G 0).2 (i + 1)) ((xgr G 0).2 (i + 2))).2.2) sx9 []) z (nI n) hi (nI l) co th c.1 c.2.1 c.2.2.1 c.2.2.2.1 c.2.2.2.2.1 c.2.2.2.2.2.1 c.2.2.2.2.2.2.1 c.2.2.2.2.2.2.2.1 c.2.2.2.2.2.2.2.2.1 c.2.2.2.2.2.2.2.2.2.1 c.2.2.2.2.2.2.2.2.2.2.1 c.2.2.2.2.2.2.2.2.2.2.2.1 c.2.2.2.2.2.2.2.2.2.2.2.2.1 c.2.2.2.2.2.2.2.2.2.2.2.2.2 [.inl (2, 1, .inr (.inl (vp_updL f 0 (oRec (w, sv, q, n, l, co) ((xgr G 0).2 (i + 1)) ((xgr G 0).2 (i + 2))).1.2.toInt64)))])) rfl rfl rfl ?_
    refine xw_aload_n 292 dL_law_291 rfl rfl rfl ?_
    refine xw_aload_n 293 dL_law_292 rfl rfl rfl ?_
    refine xw_iload 295 dL_law_293 rfl rfl ?_
    refine xw_iconst 296 (nI 1) dL_law_295 rfl (xofI 1) ?_
    refine xw_iadd 297 dL_law_296 rfl ?_
    refine xw_ialoadR (j := i + 1) 298 dL_law_297 rfl (by decide) (nI_add _ _) (by omega) (by omega) ?_
    refine xw_aload_n 299 dL_law_298 rfl rfl rfl ?_
    refine xw_iload 301 dL_law_299 rfl rfl ?_
    refine xw_iconst 302 (nI 2) dL_law_301 rfl (xofI 2) ?_
    refine xw_iadd 303 dL_law_302 rfl ?_
    refine xw_ialoadR (j := i + 2) 304 dL_law_303 rfl (by decide) (nI_add _ _) (by omega) (by omega) ?_
    refine xw_qV 307 dL_law_304 rfl ok_M_recolour s_L_104 ((S_M_recolour rfl I hn)) (fun E hp9 q9 => by cases q9.1) (fun o9 hp9 q9 => by obtain ⟨_, _, q9⟩ := q9; rw [q9]; exact mH_len) (xA rfl rfl) rfl rfl rfl rfl rfl rfl rfl (fun ov9 hp9 q9 => ?_)
    obtain ⟨q1, c9, rfl⟩ := q9
    cases q1
    refine xw_istore (ls' := [(6, _), (5, _), (4, _), (0, _), (1, _), (2, _), (3, _)]) 309 dL_law_307 rfl rfl rfl ?_
    refine xw_aload_n 310 dL_law_309 rfl rfl rfl ?_
    refine xw_pV 313 dL_law_310 rfl ok_M_thrown s_L_94 (S_M_thrown rfl) (mH_len) (xA rfl rfl) rfl rfl rfl rfl rfl rfl rfl ?_
    refine xw_iload 315 dL_law_313 rfl rfl ?_
    refine xw_icmp_eq 320 318 dL_law_315 rfl rfl (fun h315 => ?_) (fun h315 => absurd (by rw [hr]) h315)
    refine xw_iload 322 dL_law_320 rfl rfl ?_
    refine xw_if_ne 337 325 dL_law_322 rfl rfl (fun h322 => absurd (by rw [e0]; rfl) h322) (fun h322 => ?_)
    refine xw_aload_n 326 dL_law_325 rfl rfl rfl ?_
    refine xw_iconst 327 (nI 0) dL_law_326 rfl (xofI 0) ?_
    refine xw_laload (j := 0) 328 dL_law_327 rfl (xA (j := 11) rfl rfl) (rfl) (by decide) (by omega) ?_
    refine xw_iload 330 dL_law_328 rfl rfl ?_
    refine xw_i2l 331 dL_law_330 rfl ?_
    refine xw_lcmp 332 dL_law_331 rfl ?_
    have hc9 : lg_cmp (vp_updL f 0 (oRec (w, sv, q, n, l, co) ((xgr G 0).2 (i + 1)) ((xgr G 0).2 (i + 2))).1.2.toInt64 0) (oRecM (z, hi, n, l, co) ((xgr G 0).2 (i + 1)) ((xgr G 0).2 (i + 2))).1.2.toInt64 = 0 := by rw [show vp_updL f 0 (oRec (w, sv, q, n, l, co) ((xgr G 0).2 (i + 1)) ((xgr G 0).2 (i + 2))).1.2.toInt64 0 = (oRec (w, sv, q, n, l, co) ((xgr G 0).2 (i + 1)) ((xgr G 0).2 (i + 2))).1.2.toInt64 from if_pos rfl, hr, lg_cmp_self]
    refine xw_if_eq 337 335 dL_law_332 rfl rfl (fun h332 => ?_) (fun h332 => absurd (hc9) h332)
    refine xw_goto 1649 dL_law_337 rfl ?_
    refine xW.pick [2, 3, 4, 5, 6] rfl ?_
    refine xW.cast (hp' := lHp (w9, (oRec (w, sv, q, n, l, co) ((xgr G 0).2 (i + 1)) ((xgr G 0).2 (i + 2))).2.2) sx9 (oRecM (z, hi, n, l, co) ((xgr G 0).2 (i + 1)) ((xgr G 0).2 (i + 2))).2 (nI (oRecM (z, hi, n, l, co) ((xgr G 0).2 (i + 1)) ((xgr G 0).2 (i + 2))).1.1) c9 (vp_updL f 0 (oRec (w, sv, q, n, l, co) ((xgr G 0).2 (i + 1)) ((xgr G 0).2 (i + 2))).1.2.toInt64)) rfl rfl rfl ?_
    exact next _ _ _ _ _ _ (xRel_w hS.2 g9)
  · rw [if_neg e0]
    refine xw_istore (ls' := [(5, _), (4, _), (0, _), (1, _), (2, _), (3, _)]) 291 dL_law_289 rfl rfl rfl ?_
    refine xW.cast (hp' := (mH (cHp (w9, (oRec (w, sv, q, n, l, co) ((xgr G 0).2 (i + 1)) ((xgr G 0).2 (i + 2))).2.2) sx9 []) z (nI n) hi (nI l) co th c.1 c.2.1 c.2.2.1 c.2.2.2.1 c.2.2.2.2.1 c.2.2.2.2.2.1 c.2.2.2.2.2.2.1 c.2.2.2.2.2.2.2.1 c.2.2.2.2.2.2.2.2.1 c.2.2.2.2.2.2.2.2.2.1 c.2.2.2.2.2.2.2.2.2.2.1 c.2.2.2.2.2.2.2.2.2.2.2.1 c.2.2.2.2.2.2.2.2.2.2.2.2.1 c.2.2.2.2.2.2.2.2.2.2.2.2.2 [.inl (2, 1, .inr (.inl f))])) rfl rfl rfl ?_
    refine xw_aload_n 292 dL_law_291 rfl rfl rfl ?_
    refine xw_aload_n 293 dL_law_292 rfl rfl rfl ?_
    refine xw_iload 295 dL_law_293 rfl rfl ?_
    refine xw_iconst 296 (nI 1) dL_law_295 rfl (xofI 1) ?_
    refine xw_iadd 297 dL_law_296 rfl ?_
    refine xw_ialoadR (j := i + 1) 298 dL_law_297 rfl (by decide) (nI_add _ _) (by omega) (by omega) ?_
    refine xw_aload_n 299 dL_law_298 rfl rfl rfl ?_
    refine xw_iload 301 dL_law_299 rfl rfl ?_
    refine xw_iconst 302 (nI 2) dL_law_301 rfl (xofI 2) ?_
    refine xw_iadd 303 dL_law_302 rfl ?_
    refine xw_ialoadR (j := i + 2) 304 dL_law_303 rfl (by decide) (nI_add _ _) (by omega) (by omega) ?_
    refine xw_qV 307 dL_law_304 rfl ok_M_recolour s_L_104 ((S_M_recolour rfl I hn)) (fun E hp9 q9 => by cases q9.1) (fun o9 hp9 q9 => by obtain ⟨_, _, q9⟩ := q9; rw [q9]; exact mH_len) (xA rfl rfl) rfl rfl rfl rfl rfl rfl rfl (fun ov9 hp9 q9 => ?_)
    obtain ⟨q1, c9, rfl⟩ := q9
    cases q1
    refine xw_istore (ls' := [(6, _), (5, _), (4, _), (0, _), (1, _), (2, _), (3, _)]) 309 dL_law_307 rfl rfl rfl ?_
    refine xw_aload_n 310 dL_law_309 rfl rfl rfl ?_
    refine xw_pV 313 dL_law_310 rfl ok_M_thrown s_L_94 (S_M_thrown rfl) (mH_len) (xA rfl rfl) rfl rfl rfl rfl rfl rfl rfl ?_
    refine xw_iload 315 dL_law_313 rfl rfl ?_
    refine xw_icmp_eq 320 318 dL_law_315 rfl rfl (fun h315 => ?_) (fun h315 => absurd (by rw [hr]) h315)
    refine xw_iload 322 dL_law_320 rfl rfl ?_
    refine xw_if_ne 337 325 dL_law_322 rfl rfl (fun h322 => ?_) (fun h322 => absurd h322 (nI_ne0 (by omega) (by omega)))
    refine xw_goto 1649 dL_law_337 rfl ?_
    refine xW.pick [2, 3, 4, 5, 6] rfl ?_
    refine xW.cast (hp' := lHp (w9, (oRec (w, sv, q, n, l, co) ((xgr G 0).2 (i + 1)) ((xgr G 0).2 (i + 2))).2.2) sx9 (oRecM (z, hi, n, l, co) ((xgr G 0).2 (i + 1)) ((xgr G 0).2 (i + 2))).2 (nI (oRecM (z, hi, n, l, co) ((xgr G 0).2 (i + 1)) ((xgr G 0).2 (i + 2))).1.1) c9 f) rfl rfl rfl ?_
    exact next _ _ _ _ _ _ (xRel_w hS.2 g9)
theorem S_case_set (S : xSta G) (R : xRel (w, sv, q, n, l, co) (z, hi, n, l, co)) (h3 : i + 3 ≤ (xgr G 0).1) (h15 : (xgr G 0).1 ≤ 1536) (next : ∀ (s' : xCS) (sx' : xSx) (m' : xMS) (th' : Int32) (c' : mS) (f' : Nat → Int64), xRel s' m' → xW G L_law lQ 1649 [(4, .int (nI i)), (0, .retAddr 0), (1, .ref 0), (2, .ref 71), (3, .ref 82)] [] (lHp s' sx' m' th' c' f') (x + 1) t (6 * t)) : xW G L_law lQ 340 [(4, .int (nI i)), (0, .retAddr 0), (1, .ref 0), (2, .ref 71), (3, .ref 82)] [] (lHp (w, sv, q, n, l, co) sx (z, hi, n, l, co) th c f) x (t + 1) (6 * (t + 1)) := by
  obtain ⟨I, Ag, hq, hn, -, -, -, X, -⟩ := id R
  dsimp only at I Ag hq hn X
  have J := Ag.inv I
  have hS := Q_set (p := ((xgr G 0).2 (i + 1))) (v := ((xgr G 0).2 (i + 2))) R
  have hr : (oSet (w, sv, q, n, l, co) ((xgr G 0).2 (i + 1)) ((xgr G 0).2 (i + 2))).1 = (oSetM (z, hi, n, l, co) ((xgr G 0).2 (i + 1)) ((xgr G 0).2 (i + 2))).1 := hS.1
  have hK : (oSet (w, sv, q, n, l, co) ((xgr G 0).2 (i + 1)) ((xgr G 0).2 (i + 2))).1.1 ≤ 2 := K_set
  refine xW.cast (hp' := cHp (w, sv, q, n, l, co) sx (lTO (mCq (z, hi, n, l, co) th c []) f)) rfl rfl rfl ?_
  refine xw_aload_n 341 dL_law_340 rfl rfl rfl ?_
  refine xw_aload_n 342 dL_law_341 rfl rfl rfl ?_
  refine xw_iload 344 dL_law_342 rfl rfl ?_
  refine xw_iconst 345 (nI 1) dL_law_344 rfl (xofI 1) ?_
  refine xw_iadd 346 dL_law_345 rfl ?_
  refine xw_ialoadR (j := i + 1) 347 dL_law_346 rfl (by decide) (nI_add _ _) (by omega) (by omega) ?_
  refine xw_aload_n 348 dL_law_347 rfl rfl rfl ?_
  refine xw_iload 350 dL_law_348 rfl rfl ?_
  refine xw_iconst 351 (nI 2) dL_law_350 rfl (xofI 2) ?_
  refine xw_iadd 352 dL_law_351 rfl ?_
  refine xw_ialoadR (j := i + 2) 353 dL_law_352 rfl (by decide) (nI_add _ _) (by omega) (by omega) ?_
  refine xw_aload_n 354 dL_law_353 rfl rfl rfl ?_
  refine xw_lS 357 dL_law_354 rfl ok_L_set s_L_105 (S_L_set (r := (oSet (w, sv, q, n, l, co) ((xgr G 0).2 (i + 1)) ((xgr G 0).2 (i + 2))).1) (s' := (oSet (w, sv, q, n, l, co) ((xgr G 0).2 (i + 1)) ((xgr G 0).2 (i + 2))).2) (M := mCq (z, hi, n, l, co) th c []) (f := f) rfl hK (S_B_set S hq hn)) rfl rfl rfl rfl rfl rfl rfl rfl (fun w9 sx9 g9 => ?_)
  by_cases e0 : (oSet (w, sv, q, n, l, co) ((xgr G 0).2 (i + 1)) ((xgr G 0).2 (i + 2))).1.1 = 0
  · rw [if_pos e0]
    refine xw_istore (ls' := [(5, _), (4, _), (0, _), (1, _), (2, _), (3, _)]) 359 dL_law_357 rfl rfl rfl ?_
    refine xW.cast (hp' := (mH (cHp (w9, (oSet (w, sv, q, n, l, co) ((xgr G 0).2 (i + 1)) ((xgr G 0).2 (i + 2))).2.2) sx9 []) z (nI n) hi (nI l) co th c.1 c.2.1 c.2.2.1 c.2.2.2.1 c.2.2.2.2.1 c.2.2.2.2.2.1 c.2.2.2.2.2.2.1 c.2.2.2.2.2.2.2.1 c.2.2.2.2.2.2.2.2.1 c.2.2.2.2.2.2.2.2.2.1 c.2.2.2.2.2.2.2.2.2.2.1 c.2.2.2.2.2.2.2.2.2.2.2.1 c.2.2.2.2.2.2.2.2.2.2.2.2.1 c.2.2.2.2.2.2.2.2.2.2.2.2.2 [.inl (2, 1, .inr (.inl (vp_updL f 0 (oSet (w, sv, q, n, l, co) ((xgr G 0).2 (i + 1)) ((xgr G 0).2 (i + 2))).1.2.toInt64)))])) rfl rfl rfl ?_
    refine xw_aload_n 360 dL_law_359 rfl rfl rfl ?_
    refine xw_aload_n 361 dL_law_360 rfl rfl rfl ?_
    refine xw_iload 363 dL_law_361 rfl rfl ?_
    refine xw_iconst 364 (nI 1) dL_law_363 rfl (xofI 1) ?_
    refine xw_iadd 365 dL_law_364 rfl ?_
    refine xw_ialoadR (j := i + 1) 366 dL_law_365 rfl (by decide) (nI_add _ _) (by omega) (by omega) ?_
    refine xw_aload_n 367 dL_law_366 rfl rfl rfl ?_
    refine xw_iload 369 dL_law_367 rfl rfl ?_
    refine xw_iconst 370 (nI 2) dL_law_369 rfl (xofI 2) ?_
    refine xw_iadd 371 dL_law_370 rfl ?_
    refine xw_ialoadR (j := i + 2) 372 dL_law_371 rfl (by decide) (nI_add _ _) (by omega) (by omega) ?_
    refine xw_qV 375 dL_law_372 rfl ok_M_set s_L_107 ((S_M_set rfl I hn)) (fun E hp9 q9 => by cases q9.1) (fun o9 hp9 q9 => by obtain ⟨_, _, q9⟩ := q9; rw [q9]; exact mH_len) (xA rfl rfl) rfl rfl rfl rfl rfl rfl rfl (fun ov9 hp9 q9 => ?_)
    obtain ⟨q1, c9, rfl⟩ := q9
    cases q1
    refine xw_istore (ls' := [(6, _), (5, _), (4, _), (0, _), (1, _), (2, _), (3, _)]) 377 dL_law_375 rfl rfl rfl ?_
    refine xw_aload_n 378 dL_law_377 rfl rfl rfl ?_
    refine xw_pV 381 dL_law_378 rfl ok_M_thrown s_L_94 (S_M_thrown rfl) (mH_len) (xA rfl rfl) rfl rfl rfl rfl rfl rfl rfl ?_
    refine xw_iload 383 dL_law_381 rfl rfl ?_
    refine xw_icmp_eq 388 386 dL_law_383 rfl rfl (fun h383 => ?_) (fun h383 => absurd (by rw [hr]) h383)
    refine xw_iload 390 dL_law_388 rfl rfl ?_
    refine xw_if_ne 405 393 dL_law_390 rfl rfl (fun h390 => absurd (by rw [e0]; rfl) h390) (fun h390 => ?_)
    refine xw_aload_n 394 dL_law_393 rfl rfl rfl ?_
    refine xw_iconst 395 (nI 0) dL_law_394 rfl (xofI 0) ?_
    refine xw_laload (j := 0) 396 dL_law_395 rfl (xA (j := 11) rfl rfl) (rfl) (by decide) (by omega) ?_
    refine xw_iload 398 dL_law_396 rfl rfl ?_
    refine xw_i2l 399 dL_law_398 rfl ?_
    refine xw_lcmp 400 dL_law_399 rfl ?_
    have hc9 : lg_cmp (vp_updL f 0 (oSet (w, sv, q, n, l, co) ((xgr G 0).2 (i + 1)) ((xgr G 0).2 (i + 2))).1.2.toInt64 0) (oSetM (z, hi, n, l, co) ((xgr G 0).2 (i + 1)) ((xgr G 0).2 (i + 2))).1.2.toInt64 = 0 := by rw [show vp_updL f 0 (oSet (w, sv, q, n, l, co) ((xgr G 0).2 (i + 1)) ((xgr G 0).2 (i + 2))).1.2.toInt64 0 = (oSet (w, sv, q, n, l, co) ((xgr G 0).2 (i + 1)) ((xgr G 0).2 (i + 2))).1.2.toInt64 from if_pos rfl, hr, lg_cmp_self]
    refine xw_if_eq 405 403 dL_law_400 rfl rfl (fun h400 => ?_) (fun h400 => absurd (hc9) h400)
    refine xw_goto 1649 dL_law_405 rfl ?_
    refine xW.pick [2, 3, 4, 5, 6] rfl ?_
    refine xW.cast (hp' := lHp (w9, (oSet (w, sv, q, n, l, co) ((xgr G 0).2 (i + 1)) ((xgr G 0).2 (i + 2))).2.2) sx9 (oSetM (z, hi, n, l, co) ((xgr G 0).2 (i + 1)) ((xgr G 0).2 (i + 2))).2 (nI (oSetM (z, hi, n, l, co) ((xgr G 0).2 (i + 1)) ((xgr G 0).2 (i + 2))).1.1) c9 (vp_updL f 0 (oSet (w, sv, q, n, l, co) ((xgr G 0).2 (i + 1)) ((xgr G 0).2 (i + 2))).1.2.toInt64)) rfl rfl rfl ?_
    exact next _ _ _ _ _ _ (xRel_w hS.2 g9)
  · rw [if_neg e0]
    refine xw_istore (ls' := [(5, _), (4, _), (0, _), (1, _), (2, _), (3, _)]) 359 dL_law_357 rfl rfl rfl ?_
    refine xW.cast (hp' := (mH (cHp (w9, (oSet (w, sv, q, n, l, co) ((xgr G 0).2 (i + 1)) ((xgr G 0).2 (i + 2))).2.2) sx9 []) z (nI n) hi (nI l) co th c.1 c.2.1 c.2.2.1 c.2.2.2.1 c.2.2.2.2.1 c.2.2.2.2.2.1 c.2.2.2.2.2.2.1 c.2.2.2.2.2.2.2.1 c.2.2.2.2.2.2.2.2.1 c.2.2.2.2.2.2.2.2.2.1 c.2.2.2.2.2.2.2.2.2.2.1 c.2.2.2.2.2.2.2.2.2.2.2.1 c.2.2.2.2.2.2.2.2.2.2.2.2.1 c.2.2.2.2.2.2.2.2.2.2.2.2.2 [.inl (2, 1, .inr (.inl f))])) rfl rfl rfl ?_
    refine xw_aload_n 360 dL_law_359 rfl rfl rfl ?_
    refine xw_aload_n 361 dL_law_360 rfl rfl rfl ?_
    refine xw_iload 363 dL_law_361 rfl rfl ?_
    refine xw_iconst 364 (nI 1) dL_law_363 rfl (xofI 1) ?_
    refine xw_iadd 365 dL_law_364 rfl ?_
    refine xw_ialoadR (j := i + 1) 366 dL_law_365 rfl (by decide) (nI_add _ _) (by omega) (by omega) ?_
    refine xw_aload_n 367 dL_law_366 rfl rfl rfl ?_
    refine xw_iload 369 dL_law_367 rfl rfl ?_
    refine xw_iconst 370 (nI 2) dL_law_369 rfl (xofI 2) ?_
    refine xw_iadd 371 dL_law_370 rfl ?_
    refine xw_ialoadR (j := i + 2) 372 dL_law_371 rfl (by decide) (nI_add _ _) (by omega) (by omega) ?_
    refine xw_qV 375 dL_law_372 rfl ok_M_set s_L_107 ((S_M_set rfl I hn)) (fun E hp9 q9 => by cases q9.1) (fun o9 hp9 q9 => by obtain ⟨_, _, q9⟩ := q9; rw [q9]; exact mH_len) (xA rfl rfl) rfl rfl rfl rfl rfl rfl rfl (fun ov9 hp9 q9 => ?_)
    obtain ⟨q1, c9, rfl⟩ := q9
    cases q1
    refine xw_istore (ls' := [(6, _), (5, _), (4, _), (0, _), (1, _), (2, _), (3, _)]) 377 dL_law_375 rfl rfl rfl ?_
    refine xw_aload_n 378 dL_law_377 rfl rfl rfl ?_
    refine xw_pV 381 dL_law_378 rfl ok_M_thrown s_L_94 (S_M_thrown rfl) (mH_len) (xA rfl rfl) rfl rfl rfl rfl rfl rfl rfl ?_
    refine xw_iload 383 dL_law_381 rfl rfl ?_
    refine xw_icmp_eq 388 386 dL_law_383 rfl rfl (fun h383 => ?_) (fun h383 => absurd (by rw [hr]) h383)
    refine xw_iload 390 dL_law_388 rfl rfl ?_
    refine xw_if_ne 405 393 dL_law_390 rfl rfl (fun h390 => ?_) (fun h390 => absurd h390 (nI_ne0 (by omega) (by omega)))
    refine xw_goto 1649 dL_law_405 rfl ?_
    refine xW.pick [2, 3, 4, 5, 6] rfl ?_
    refine xW.cast (hp' := lHp (w9, (oSet (w, sv, q, n, l, co) ((xgr G 0).2 (i + 1)) ((xgr G 0).2 (i + 2))).2.2) sx9 (oSetM (z, hi, n, l, co) ((xgr G 0).2 (i + 1)) ((xgr G 0).2 (i + 2))).2 (nI (oSetM (z, hi, n, l, co) ((xgr G 0).2 (i + 1)) ((xgr G 0).2 (i + 2))).1.1) c9 f) rfl rfl rfl ?_
    exact next _ _ _ _ _ _ (xRel_w hS.2 g9)
theorem S_case_buy (S : xSta G) (R : xRel (w, sv, q, n, l, co) (z, hi, n, l, co)) (h3 : i + 3 ≤ (xgr G 0).1) (h15 : (xgr G 0).1 ≤ 1536) (next : ∀ (s' : xCS) (sx' : xSx) (m' : xMS) (th' : Int32) (c' : mS) (f' : Nat → Int64), xRel s' m' → xW G L_law lQ 1649 [(4, .int (nI i)), (0, .retAddr 0), (1, .ref 0), (2, .ref 71), (3, .ref 82)] [] (lHp s' sx' m' th' c' f') (x + 1) t (6 * t)) : xW G L_law lQ 408 [(4, .int (nI i)), (0, .retAddr 0), (1, .ref 0), (2, .ref 71), (3, .ref 82)] [] (lHp (w, sv, q, n, l, co) sx (z, hi, n, l, co) th c f) x (t + 1) (6 * (t + 1)) := by
  obtain ⟨I, Ag, hq, hn, -, -, -, X, -⟩ := id R
  dsimp only at I Ag hq hn X
  have J := Ag.inv I
  have hS := Q_buy (p := ((xgr G 0).2 (i + 1))) (r := ((xgr G 0).2 (i + 2))) R
  have hr : (oBuy (w, sv, q, n, l, co) ((xgr G 0).2 (i + 1)) ((xgr G 0).2 (i + 2))).1 = (oBuyM (z, hi, n, l, co) ((xgr G 0).2 (i + 1)) ((xgr G 0).2 (i + 2))).1 := hS.1
  have hK : (oBuy (w, sv, q, n, l, co) ((xgr G 0).2 (i + 1)) ((xgr G 0).2 (i + 2))).1.1 ≤ 2 := K_buy
  refine xW.cast (hp' := cHp (w, sv, q, n, l, co) sx (lTO (mCq (z, hi, n, l, co) th c []) f)) rfl rfl rfl ?_
  refine xw_aload_n 409 dL_law_408 rfl rfl rfl ?_
  refine xw_aload_n 410 dL_law_409 rfl rfl rfl ?_
  refine xw_iload 412 dL_law_410 rfl rfl ?_
  refine xw_iconst 413 (nI 1) dL_law_412 rfl (xofI 1) ?_
  refine xw_iadd 414 dL_law_413 rfl ?_
  refine xw_ialoadR (j := i + 1) 415 dL_law_414 rfl (by decide) (nI_add _ _) (by omega) (by omega) ?_
  refine xw_aload_n 416 dL_law_415 rfl rfl rfl ?_
  refine xw_iload 418 dL_law_416 rfl rfl ?_
  refine xw_iconst 419 (nI 2) dL_law_418 rfl (xofI 2) ?_
  refine xw_iadd 420 dL_law_419 rfl ?_
  refine xw_ialoadR (j := i + 2) 421 dL_law_420 rfl (by decide) (nI_add _ _) (by omega) (by omega) ?_
  refine xw_aload_n 422 dL_law_421 rfl rfl rfl ?_
  refine xw_lS 425 dL_law_422 rfl ok_L_buy s_L_108 (S_L_buy (r := (oBuy (w, sv, q, n, l, co) ((xgr G 0).2 (i + 1)) ((xgr G 0).2 (i + 2))).1) (s' := (oBuy (w, sv, q, n, l, co) ((xgr G 0).2 (i + 1)) ((xgr G 0).2 (i + 2))).2) (M := mCq (z, hi, n, l, co) th c []) (f := f) rfl hK (S_B_buy hq hn)) rfl rfl rfl rfl rfl rfl rfl rfl (fun w9 sx9 g9 => ?_)
  by_cases e0 : (oBuy (w, sv, q, n, l, co) ((xgr G 0).2 (i + 1)) ((xgr G 0).2 (i + 2))).1.1 = 0
  · rw [if_pos e0]
    refine xw_istore (ls' := [(5, _), (4, _), (0, _), (1, _), (2, _), (3, _)]) 427 dL_law_425 rfl rfl rfl ?_
    refine xW.cast (hp' := (mH (cHp (w9, (oBuy (w, sv, q, n, l, co) ((xgr G 0).2 (i + 1)) ((xgr G 0).2 (i + 2))).2.2) sx9 []) z (nI n) hi (nI l) co th c.1 c.2.1 c.2.2.1 c.2.2.2.1 c.2.2.2.2.1 c.2.2.2.2.2.1 c.2.2.2.2.2.2.1 c.2.2.2.2.2.2.2.1 c.2.2.2.2.2.2.2.2.1 c.2.2.2.2.2.2.2.2.2.1 c.2.2.2.2.2.2.2.2.2.2.1 c.2.2.2.2.2.2.2.2.2.2.2.1 c.2.2.2.2.2.2.2.2.2.2.2.2.1 c.2.2.2.2.2.2.2.2.2.2.2.2.2 [.inl (2, 1, .inr (.inl (vp_updL f 0 (oBuy (w, sv, q, n, l, co) ((xgr G 0).2 (i + 1)) ((xgr G 0).2 (i + 2))).1.2.toInt64)))])) rfl rfl rfl ?_
    refine xw_aload_n 428 dL_law_427 rfl rfl rfl ?_
    refine xw_aload_n 429 dL_law_428 rfl rfl rfl ?_
    refine xw_iload 431 dL_law_429 rfl rfl ?_
    refine xw_iconst 432 (nI 1) dL_law_431 rfl (xofI 1) ?_
    refine xw_iadd 433 dL_law_432 rfl ?_
    refine xw_ialoadR (j := i + 1) 434 dL_law_433 rfl (by decide) (nI_add _ _) (by omega) (by omega) ?_
    refine xw_aload_n 435 dL_law_434 rfl rfl rfl ?_
    refine xw_iload 437 dL_law_435 rfl rfl ?_
    refine xw_iconst 438 (nI 2) dL_law_437 rfl (xofI 2) ?_
    refine xw_iadd 439 dL_law_438 rfl ?_
    refine xw_ialoadR (j := i + 2) 440 dL_law_439 rfl (by decide) (nI_add _ _) (by omega) (by omega) ?_
    refine xw_qV 443 dL_law_440 rfl ok_M_buy s_L_110 ((S_M_buy rfl I hn)) (fun E hp9 q9 => by cases q9.1) (fun o9 hp9 q9 => by obtain ⟨_, _, q9⟩ := q9; rw [q9]; exact mH_len) (xA rfl rfl) rfl rfl rfl rfl rfl rfl rfl (fun ov9 hp9 q9 => ?_)
    obtain ⟨q1, c9, rfl⟩ := q9
    cases q1
    refine xw_istore (ls' := [(6, _), (5, _), (4, _), (0, _), (1, _), (2, _), (3, _)]) 445 dL_law_443 rfl rfl rfl ?_
    refine xw_aload_n 446 dL_law_445 rfl rfl rfl ?_
    refine xw_pV 449 dL_law_446 rfl ok_M_thrown s_L_94 (S_M_thrown rfl) (mH_len) (xA rfl rfl) rfl rfl rfl rfl rfl rfl rfl ?_
    refine xw_iload 451 dL_law_449 rfl rfl ?_
    refine xw_icmp_eq 456 454 dL_law_451 rfl rfl (fun h451 => ?_) (fun h451 => absurd (by rw [hr]) h451)
    refine xw_iload 458 dL_law_456 rfl rfl ?_
    refine xw_if_ne 473 461 dL_law_458 rfl rfl (fun h458 => absurd (by rw [e0]; rfl) h458) (fun h458 => ?_)
    refine xw_aload_n 462 dL_law_461 rfl rfl rfl ?_
    refine xw_iconst 463 (nI 0) dL_law_462 rfl (xofI 0) ?_
    refine xw_laload (j := 0) 464 dL_law_463 rfl (xA (j := 11) rfl rfl) (rfl) (by decide) (by omega) ?_
    refine xw_iload 466 dL_law_464 rfl rfl ?_
    refine xw_i2l 467 dL_law_466 rfl ?_
    refine xw_lcmp 468 dL_law_467 rfl ?_
    have hc9 : lg_cmp (vp_updL f 0 (oBuy (w, sv, q, n, l, co) ((xgr G 0).2 (i + 1)) ((xgr G 0).2 (i + 2))).1.2.toInt64 0) (oBuyM (z, hi, n, l, co) ((xgr G 0).2 (i + 1)) ((xgr G 0).2 (i + 2))).1.2.toInt64 = 0 := by rw [show vp_updL f 0 (oBuy (w, sv, q, n, l, co) ((xgr G 0).2 (i + 1)) ((xgr G 0).2 (i + 2))).1.2.toInt64 0 = (oBuy (w, sv, q, n, l, co) ((xgr G 0).2 (i + 1)) ((xgr G 0).2 (i + 2))).1.2.toInt64 from if_pos rfl, hr, lg_cmp_self]
    refine xw_if_eq 473 471 dL_law_468 rfl rfl (fun h468 => ?_) (fun h468 => absurd (hc9) h468)
    refine xw_goto 1649 dL_law_473 rfl ?_
    refine xW.pick [2, 3, 4, 5, 6] rfl ?_
    refine xW.cast (hp' := lHp (w9, (oBuy (w, sv, q, n, l, co) ((xgr G 0).2 (i + 1)) ((xgr G 0).2 (i + 2))).2.2) sx9 (oBuyM (z, hi, n, l, co) ((xgr G 0).2 (i + 1)) ((xgr G 0).2 (i + 2))).2 (nI (oBuyM (z, hi, n, l, co) ((xgr G 0).2 (i + 1)) ((xgr G 0).2 (i + 2))).1.1) c9 (vp_updL f 0 (oBuy (w, sv, q, n, l, co) ((xgr G 0).2 (i + 1)) ((xgr G 0).2 (i + 2))).1.2.toInt64)) rfl rfl rfl ?_
    exact next _ _ _ _ _ _ (xRel_w hS.2 g9)
  · rw [if_neg e0]
    refine xw_istore (ls' := [(5, _), (4, _), (0, _), (1, _), (2, _), (3, _)]) 427 dL_law_425 rfl rfl rfl ?_
    refine xW.cast (hp' := (mH (cHp (w9, (oBuy (w, sv, q, n, l, co) ((xgr G 0).2 (i + 1)) ((xgr G 0).2 (i + 2))).2.2) sx9 []) z (nI n) hi (nI l) co th c.1 c.2.1 c.2.2.1 c.2.2.2.1 c.2.2.2.2.1 c.2.2.2.2.2.1 c.2.2.2.2.2.2.1 c.2.2.2.2.2.2.2.1 c.2.2.2.2.2.2.2.2.1 c.2.2.2.2.2.2.2.2.2.1 c.2.2.2.2.2.2.2.2.2.2.1 c.2.2.2.2.2.2.2.2.2.2.2.1 c.2.2.2.2.2.2.2.2.2.2.2.2.1 c.2.2.2.2.2.2.2.2.2.2.2.2.2 [.inl (2, 1, .inr (.inl f))])) rfl rfl rfl ?_
    refine xw_aload_n 428 dL_law_427 rfl rfl rfl ?_
    refine xw_aload_n 429 dL_law_428 rfl rfl rfl ?_
    refine xw_iload 431 dL_law_429 rfl rfl ?_
    refine xw_iconst 432 (nI 1) dL_law_431 rfl (xofI 1) ?_
    refine xw_iadd 433 dL_law_432 rfl ?_
    refine xw_ialoadR (j := i + 1) 434 dL_law_433 rfl (by decide) (nI_add _ _) (by omega) (by omega) ?_
    refine xw_aload_n 435 dL_law_434 rfl rfl rfl ?_
    refine xw_iload 437 dL_law_435 rfl rfl ?_
    refine xw_iconst 438 (nI 2) dL_law_437 rfl (xofI 2) ?_
    refine xw_iadd 439 dL_law_438 rfl ?_
    refine xw_ialoadR (j := i + 2) 440 dL_law_439 rfl (by decide) (nI_add _ _) (by omega) (by omega) ?_
    refine xw_qV 443 dL_law_440 rfl ok_M_buy s_L_110 ((S_M_buy rfl I hn)) (fun E hp9 q9 => by cases q9.1) (fun o9 hp9 q9 => by obtain ⟨_, _, q9⟩ := q9; rw [q9]; exact mH_len) (xA rfl rfl) rfl rfl rfl rfl rfl rfl rfl (fun ov9 hp9 q9 => ?_)
    obtain ⟨q1, c9, rfl⟩ := q9
    cases q1
    refine xw_istore (ls' := [(6, _), (5, _), (4, _), (0, _), (1, _), (2, _), (3, _)]) 445 dL_law_443 rfl rfl rfl ?_
    refine xw_aload_n 446 dL_law_445 rfl rfl rfl ?_
    refine xw_pV 449 dL_law_446 rfl ok_M_thrown s_L_94 (S_M_thrown rfl) (mH_len) (xA rfl rfl) rfl rfl rfl rfl rfl rfl rfl ?_
    refine xw_iload 451 dL_law_449 rfl rfl ?_
    refine xw_icmp_eq 456 454 dL_law_451 rfl rfl (fun h451 => ?_) (fun h451 => absurd (by rw [hr]) h451)
    refine xw_iload 458 dL_law_456 rfl rfl ?_
    refine xw_if_ne 473 461 dL_law_458 rfl rfl (fun h458 => ?_) (fun h458 => absurd h458 (nI_ne0 (by omega) (by omega)))
    refine xw_goto 1649 dL_law_473 rfl ?_
    refine xW.pick [2, 3, 4, 5, 6] rfl ?_
    refine xW.cast (hp' := lHp (w9, (oBuy (w, sv, q, n, l, co) ((xgr G 0).2 (i + 1)) ((xgr G 0).2 (i + 2))).2.2) sx9 (oBuyM (z, hi, n, l, co) ((xgr G 0).2 (i + 1)) ((xgr G 0).2 (i + 2))).2 (nI (oBuyM (z, hi, n, l, co) ((xgr G 0).2 (i + 1)) ((xgr G 0).2 (i + 2))).1.1) c9 f) rfl rfl rfl ?_
    exact next _ _ _ _ _ _ (xRel_w hS.2 g9)
theorem S_case_string (S : xSta G) (R : xRel (w, sv, q, n, l, co) (z, hi, n, l, co)) (h3 : i + 3 ≤ (xgr G 0).1) (h15 : (xgr G 0).1 ≤ 1536) (next : ∀ (s' : xCS) (sx' : xSx) (m' : xMS) (th' : Int32) (c' : mS) (f' : Nat → Int64), xRel s' m' → xW G L_law lQ 1649 [(4, .int (nI i)), (0, .retAddr 0), (1, .ref 0), (2, .ref 71), (3, .ref 82)] [] (lHp s' sx' m' th' c' f') (x + 1) t (6 * t)) : xW G L_law lQ 476 [(4, .int (nI i)), (0, .retAddr 0), (1, .ref 0), (2, .ref 71), (3, .ref 82)] [] (lHp (w, sv, q, n, l, co) sx (z, hi, n, l, co) th c f) x (t + 1) (6 * (t + 1)) := by
  obtain ⟨I, Ag, hq, hn, -, -, -, X, -⟩ := id R
  dsimp only at I Ag hq hn X
  have J := Ag.inv I
  have hS := Q_str (p := ((xgr G 0).2 (i + 1))) (r := ((xgr G 0).2 (i + 2))) R
  have hr : (oStr (w, sv, q, n, l, co) ((xgr G 0).2 (i + 1)) ((xgr G 0).2 (i + 2))).1 = (oStrM (z, hi, n, l, co) ((xgr G 0).2 (i + 1)) ((xgr G 0).2 (i + 2))).1 := hS.1
  have hK : (oStr (w, sv, q, n, l, co) ((xgr G 0).2 (i + 1)) ((xgr G 0).2 (i + 2))).1.1 ≤ 2 := K_str
  refine xW.cast (hp' := cHp (w, sv, q, n, l, co) sx (lTO (mCq (z, hi, n, l, co) th c []) f)) rfl rfl rfl ?_
  refine xw_aload_n 477 dL_law_476 rfl rfl rfl ?_
  refine xw_aload_n 478 dL_law_477 rfl rfl rfl ?_
  refine xw_iload 480 dL_law_478 rfl rfl ?_
  refine xw_iconst 481 (nI 1) dL_law_480 rfl (xofI 1) ?_
  refine xw_iadd 482 dL_law_481 rfl ?_
  refine xw_ialoadR (j := i + 1) 483 dL_law_482 rfl (by decide) (nI_add _ _) (by omega) (by omega) ?_
  refine xw_aload_n 484 dL_law_483 rfl rfl rfl ?_
  refine xw_iload 486 dL_law_484 rfl rfl ?_
  refine xw_iconst 487 (nI 2) dL_law_486 rfl (xofI 2) ?_
  refine xw_iadd 488 dL_law_487 rfl ?_
  refine xw_ialoadR (j := i + 2) 489 dL_law_488 rfl (by decide) (nI_add _ _) (by omega) (by omega) ?_
  refine xw_aload_n 490 dL_law_489 rfl rfl rfl ?_
  refine xw_lS 493 dL_law_490 rfl ok_L_string s_L_111 (S_L_string (r := (oStr (w, sv, q, n, l, co) ((xgr G 0).2 (i + 1)) ((xgr G 0).2 (i + 2))).1) (s' := (oStr (w, sv, q, n, l, co) ((xgr G 0).2 (i + 1)) ((xgr G 0).2 (i + 2))).2) (M := mCq (z, hi, n, l, co) th c []) (f := f) rfl hK (S_B_string J hq hn)) rfl rfl rfl rfl rfl rfl rfl rfl (fun w9 sx9 g9 => ?_)
  by_cases e0 : (oStr (w, sv, q, n, l, co) ((xgr G 0).2 (i + 1)) ((xgr G 0).2 (i + 2))).1.1 = 0
  · rw [if_pos e0]
    refine xw_istore (ls' := [(5, _), (4, _), (0, _), (1, _), (2, _), (3, _)]) 495 dL_law_493 rfl rfl rfl ?_
    refine xW.cast (hp' := (mH (cHp (w9, (oStr (w, sv, q, n, l, co) ((xgr G 0).2 (i + 1)) ((xgr G 0).2 (i + 2))).2.2) sx9 []) z (nI n) hi (nI l) co th c.1 c.2.1 c.2.2.1 c.2.2.2.1 c.2.2.2.2.1 c.2.2.2.2.2.1 c.2.2.2.2.2.2.1 c.2.2.2.2.2.2.2.1 c.2.2.2.2.2.2.2.2.1 c.2.2.2.2.2.2.2.2.2.1 c.2.2.2.2.2.2.2.2.2.2.1 c.2.2.2.2.2.2.2.2.2.2.2.1 c.2.2.2.2.2.2.2.2.2.2.2.2.1 c.2.2.2.2.2.2.2.2.2.2.2.2.2 [.inl (2, 1, .inr (.inl (vp_updL f 0 (oStr (w, sv, q, n, l, co) ((xgr G 0).2 (i + 1)) ((xgr G 0).2 (i + 2))).1.2.toInt64)))])) rfl rfl rfl ?_
    refine xw_aload_n 496 dL_law_495 rfl rfl rfl ?_
    refine xw_aload_n 497 dL_law_496 rfl rfl rfl ?_
    refine xw_iload 499 dL_law_497 rfl rfl ?_
    refine xw_iconst 500 (nI 1) dL_law_499 rfl (xofI 1) ?_
    refine xw_iadd 501 dL_law_500 rfl ?_
    refine xw_ialoadR (j := i + 1) 502 dL_law_501 rfl (by decide) (nI_add _ _) (by omega) (by omega) ?_
    refine xw_aload_n 503 dL_law_502 rfl rfl rfl ?_
    refine xw_iload 505 dL_law_503 rfl rfl ?_
    refine xw_iconst 506 (nI 2) dL_law_505 rfl (xofI 2) ?_
    refine xw_iadd 507 dL_law_506 rfl ?_
    refine xw_ialoadR (j := i + 2) 508 dL_law_507 rfl (by decide) (nI_add _ _) (by omega) (by omega) ?_
    refine xw_qV 511 dL_law_508 rfl ok_M_string s_L_113 ((S_M_string rfl I hn)) (fun E hp9 q9 => by cases q9.1) (fun o9 hp9 q9 => by obtain ⟨_, _, q9⟩ := q9; rw [q9]; exact mH_len) (xA rfl rfl) rfl rfl rfl rfl rfl rfl rfl (fun ov9 hp9 q9 => ?_)
    obtain ⟨q1, c9, rfl⟩ := q9
    cases q1
    refine xw_istore (ls' := [(6, _), (5, _), (4, _), (0, _), (1, _), (2, _), (3, _)]) 513 dL_law_511 rfl rfl rfl ?_
    refine xw_aload_n 514 dL_law_513 rfl rfl rfl ?_
    refine xw_pV 517 dL_law_514 rfl ok_M_thrown s_L_94 (S_M_thrown rfl) (mH_len) (xA rfl rfl) rfl rfl rfl rfl rfl rfl rfl ?_
    refine xw_iload 519 dL_law_517 rfl rfl ?_
    refine xw_icmp_eq 524 522 dL_law_519 rfl rfl (fun h519 => ?_) (fun h519 => absurd (by rw [hr]) h519)
    refine xw_iload 526 dL_law_524 rfl rfl ?_
    refine xw_if_ne 541 529 dL_law_526 rfl rfl (fun h526 => absurd (by rw [e0]; rfl) h526) (fun h526 => ?_)
    refine xw_aload_n 530 dL_law_529 rfl rfl rfl ?_
    refine xw_iconst 531 (nI 0) dL_law_530 rfl (xofI 0) ?_
    refine xw_laload (j := 0) 532 dL_law_531 rfl (xA (j := 11) rfl rfl) (rfl) (by decide) (by omega) ?_
    refine xw_iload 534 dL_law_532 rfl rfl ?_
    refine xw_i2l 535 dL_law_534 rfl ?_
    refine xw_lcmp 536 dL_law_535 rfl ?_
    have hc9 : lg_cmp (vp_updL f 0 (oStr (w, sv, q, n, l, co) ((xgr G 0).2 (i + 1)) ((xgr G 0).2 (i + 2))).1.2.toInt64 0) (oStrM (z, hi, n, l, co) ((xgr G 0).2 (i + 1)) ((xgr G 0).2 (i + 2))).1.2.toInt64 = 0 := by rw [show vp_updL f 0 (oStr (w, sv, q, n, l, co) ((xgr G 0).2 (i + 1)) ((xgr G 0).2 (i + 2))).1.2.toInt64 0 = (oStr (w, sv, q, n, l, co) ((xgr G 0).2 (i + 1)) ((xgr G 0).2 (i + 2))).1.2.toInt64 from if_pos rfl, hr, lg_cmp_self]
    refine xw_if_eq 541 539 dL_law_536 rfl rfl (fun h536 => ?_) (fun h536 => absurd (hc9) h536)
    refine xw_goto 1649 dL_law_541 rfl ?_
    refine xW.pick [2, 3, 4, 5, 6] rfl ?_
    refine xW.cast (hp' := lHp (w9, (oStr (w, sv, q, n, l, co) ((xgr G 0).2 (i + 1)) ((xgr G 0).2 (i + 2))).2.2) sx9 (oStrM (z, hi, n, l, co) ((xgr G 0).2 (i + 1)) ((xgr G 0).2 (i + 2))).2 (nI (oStrM (z, hi, n, l, co) ((xgr G 0).2 (i + 1)) ((xgr G 0).2 (i + 2))).1.1) c9 (vp_updL f 0 (oStr (w, sv, q, n, l, co) ((xgr G 0).2 (i + 1)) ((xgr G 0).2 (i + 2))).1.2.toInt64)) rfl rfl rfl ?_
    exact next _ _ _ _ _ _ (xRel_w hS.2 g9)
  · rw [if_neg e0]
    refine xw_istore (ls' := [(5, _), (4, _), (0, _), (1, _), (2, _), (3, _)]) 495 dL_law_493 rfl rfl rfl ?_
    refine xW.cast (hp' := (mH (cHp (w9, (oStr (w, sv, q, n, l, co) ((xgr G 0).2 (i + 1)) ((xgr G 0).2 (i + 2))).2.2) sx9 []) z (nI n) hi (nI l) co th c.1 c.2.1 c.2.2.1 c.2.2.2.1 c.2.2.2.2.1 c.2.2.2.2.2.1 c.2.2.2.2.2.2.1 c.2.2.2.2.2.2.2.1 c.2.2.2.2.2.2.2.2.1 c.2.2.2.2.2.2.2.2.2.1 c.2.2.2.2.2.2.2.2.2.2.1 c.2.2.2.2.2.2.2.2.2.2.2.1 c.2.2.2.2.2.2.2.2.2.2.2.2.1 c.2.2.2.2.2.2.2.2.2.2.2.2.2 [.inl (2, 1, .inr (.inl f))])) rfl rfl rfl ?_
    refine xw_aload_n 496 dL_law_495 rfl rfl rfl ?_
    refine xw_aload_n 497 dL_law_496 rfl rfl rfl ?_
    refine xw_iload 499 dL_law_497 rfl rfl ?_
    refine xw_iconst 500 (nI 1) dL_law_499 rfl (xofI 1) ?_
    refine xw_iadd 501 dL_law_500 rfl ?_
    refine xw_ialoadR (j := i + 1) 502 dL_law_501 rfl (by decide) (nI_add _ _) (by omega) (by omega) ?_
    refine xw_aload_n 503 dL_law_502 rfl rfl rfl ?_
    refine xw_iload 505 dL_law_503 rfl rfl ?_
    refine xw_iconst 506 (nI 2) dL_law_505 rfl (xofI 2) ?_
    refine xw_iadd 507 dL_law_506 rfl ?_
    refine xw_ialoadR (j := i + 2) 508 dL_law_507 rfl (by decide) (nI_add _ _) (by omega) (by omega) ?_
    refine xw_qV 511 dL_law_508 rfl ok_M_string s_L_113 ((S_M_string rfl I hn)) (fun E hp9 q9 => by cases q9.1) (fun o9 hp9 q9 => by obtain ⟨_, _, q9⟩ := q9; rw [q9]; exact mH_len) (xA rfl rfl) rfl rfl rfl rfl rfl rfl rfl (fun ov9 hp9 q9 => ?_)
    obtain ⟨q1, c9, rfl⟩ := q9
    cases q1
    refine xw_istore (ls' := [(6, _), (5, _), (4, _), (0, _), (1, _), (2, _), (3, _)]) 513 dL_law_511 rfl rfl rfl ?_
    refine xw_aload_n 514 dL_law_513 rfl rfl rfl ?_
    refine xw_pV 517 dL_law_514 rfl ok_M_thrown s_L_94 (S_M_thrown rfl) (mH_len) (xA rfl rfl) rfl rfl rfl rfl rfl rfl rfl ?_
    refine xw_iload 519 dL_law_517 rfl rfl ?_
    refine xw_icmp_eq 524 522 dL_law_519 rfl rfl (fun h519 => ?_) (fun h519 => absurd (by rw [hr]) h519)
    refine xw_iload 526 dL_law_524 rfl rfl ?_
    refine xw_if_ne 541 529 dL_law_526 rfl rfl (fun h526 => ?_) (fun h526 => absurd h526 (nI_ne0 (by omega) (by omega)))
    refine xw_goto 1649 dL_law_541 rfl ?_
    refine xW.pick [2, 3, 4, 5, 6] rfl ?_
    refine xW.cast (hp' := lHp (w9, (oStr (w, sv, q, n, l, co) ((xgr G 0).2 (i + 1)) ((xgr G 0).2 (i + 2))).2.2) sx9 (oStrM (z, hi, n, l, co) ((xgr G 0).2 (i + 1)) ((xgr G 0).2 (i + 2))).2 (nI (oStrM (z, hi, n, l, co) ((xgr G 0).2 (i + 1)) ((xgr G 0).2 (i + 2))).1.1) c9 f) rfl rfl rfl ?_
    exact next _ _ _ _ _ _ (xRel_w hS.2 g9)
theorem S_case_stringNext (S : xSta G) (R : xRel (w, sv, q, n, l, co) (z, hi, n, l, co)) (h3 : i + 3 ≤ (xgr G 0).1) (h15 : (xgr G 0).1 ≤ 1536) (next : ∀ (s' : xCS) (sx' : xSx) (m' : xMS) (th' : Int32) (c' : mS) (f' : Nat → Int64), xRel s' m' → xW G L_law lQ 1649 [(4, .int (nI i)), (0, .retAddr 0), (1, .ref 0), (2, .ref 71), (3, .ref 82)] [] (lHp s' sx' m' th' c' f') (x + 1) t (6 * t)) : xW G L_law lQ 544 [(4, .int (nI i)), (0, .retAddr 0), (1, .ref 0), (2, .ref 71), (3, .ref 82)] [] (lHp (w, sv, q, n, l, co) sx (z, hi, n, l, co) th c f) x (t + 1) (6 * (t + 1)) := by
  obtain ⟨I, Ag, hq, hn, -, -, -, X, -⟩ := id R
  dsimp only at I Ag hq hn X
  have J := Ag.inv I
  have hS := Q_nex (r := ((xgr G 0).2 (i + 1))) R
  have hr : (oNex (w, sv, q, n, l, co) ((xgr G 0).2 (i + 1))).1 = (oNexM (z, hi, n, l, co) ((xgr G 0).2 (i + 1))).1 := hS.1
  have hK : (oNex (w, sv, q, n, l, co) ((xgr G 0).2 (i + 1))).1.1 ≤ 2 := K_nex
  refine xW.cast (hp' := cHp (w, sv, q, n, l, co) sx (lTO (mCq (z, hi, n, l, co) th c []) f)) rfl rfl rfl ?_
  refine xw_aload_n 545 dL_law_544 rfl rfl rfl ?_
  refine xw_aload_n 546 dL_law_545 rfl rfl rfl ?_
  refine xw_iload 548 dL_law_546 rfl rfl ?_
  refine xw_iconst 549 (nI 1) dL_law_548 rfl (xofI 1) ?_
  refine xw_iadd 550 dL_law_549 rfl ?_
  refine xw_ialoadR (j := i + 1) 551 dL_law_550 rfl (by decide) (nI_add _ _) (by omega) (by omega) ?_
  refine xw_aload_n 552 dL_law_551 rfl rfl rfl ?_
  refine xw_lS 555 dL_law_552 rfl ok_L_stringNext s_L_114 (S_L_stringNext (r := (oNex (w, sv, q, n, l, co) ((xgr G 0).2 (i + 1))).1) (s' := (oNex (w, sv, q, n, l, co) ((xgr G 0).2 (i + 1))).2) (M := mCq (z, hi, n, l, co) th c []) (f := f) rfl hK (S_B_stringNext J hq hn)) rfl rfl rfl rfl rfl rfl rfl rfl (fun w9 sx9 g9 => ?_)
  by_cases e0 : (oNex (w, sv, q, n, l, co) ((xgr G 0).2 (i + 1))).1.1 = 0
  · rw [if_pos e0]
    refine xw_istore (ls' := [(5, _), (4, _), (0, _), (1, _), (2, _), (3, _)]) 557 dL_law_555 rfl rfl rfl ?_
    refine xW.cast (hp' := (mH (cHp (w9, (oNex (w, sv, q, n, l, co) ((xgr G 0).2 (i + 1))).2.2) sx9 []) z (nI n) hi (nI l) co th c.1 c.2.1 c.2.2.1 c.2.2.2.1 c.2.2.2.2.1 c.2.2.2.2.2.1 c.2.2.2.2.2.2.1 c.2.2.2.2.2.2.2.1 c.2.2.2.2.2.2.2.2.1 c.2.2.2.2.2.2.2.2.2.1 c.2.2.2.2.2.2.2.2.2.2.1 c.2.2.2.2.2.2.2.2.2.2.2.1 c.2.2.2.2.2.2.2.2.2.2.2.2.1 c.2.2.2.2.2.2.2.2.2.2.2.2.2 [.inl (2, 1, .inr (.inl (vp_updL f 0 (oNex (w, sv, q, n, l, co) ((xgr G 0).2 (i + 1))).1.2.toInt64)))])) rfl rfl rfl ?_
    refine xw_aload_n 558 dL_law_557 rfl rfl rfl ?_
    refine xw_aload_n 559 dL_law_558 rfl rfl rfl ?_
    refine xw_iload 561 dL_law_559 rfl rfl ?_
    refine xw_iconst 562 (nI 1) dL_law_561 rfl (xofI 1) ?_
    refine xw_iadd 563 dL_law_562 rfl ?_
    refine xw_ialoadR (j := i + 1) 564 dL_law_563 rfl (by decide) (nI_add _ _) (by omega) (by omega) ?_
    refine xw_qV 567 dL_law_564 rfl ok_M_stringNext s_L_116 ((S_M_stringNext rfl I hn)) (fun E hp9 q9 => by cases q9.1) (fun o9 hp9 q9 => by obtain ⟨_, _, q9⟩ := q9; rw [q9]; exact mH_len) (xA rfl rfl) rfl rfl rfl rfl rfl rfl rfl (fun ov9 hp9 q9 => ?_)
    obtain ⟨q1, c9, rfl⟩ := q9
    cases q1
    refine xw_istore (ls' := [(6, _), (5, _), (4, _), (0, _), (1, _), (2, _), (3, _)]) 569 dL_law_567 rfl rfl rfl ?_
    refine xw_aload_n 570 dL_law_569 rfl rfl rfl ?_
    refine xw_pV 573 dL_law_570 rfl ok_M_thrown s_L_94 (S_M_thrown rfl) (mH_len) (xA rfl rfl) rfl rfl rfl rfl rfl rfl rfl ?_
    refine xw_iload 575 dL_law_573 rfl rfl ?_
    refine xw_icmp_eq 580 578 dL_law_575 rfl rfl (fun h575 => ?_) (fun h575 => absurd (by rw [hr]) h575)
    refine xw_iload 582 dL_law_580 rfl rfl ?_
    refine xw_if_ne 597 585 dL_law_582 rfl rfl (fun h582 => absurd (by rw [e0]; rfl) h582) (fun h582 => ?_)
    refine xw_aload_n 586 dL_law_585 rfl rfl rfl ?_
    refine xw_iconst 587 (nI 0) dL_law_586 rfl (xofI 0) ?_
    refine xw_laload (j := 0) 588 dL_law_587 rfl (xA (j := 11) rfl rfl) (rfl) (by decide) (by omega) ?_
    refine xw_iload 590 dL_law_588 rfl rfl ?_
    refine xw_i2l 591 dL_law_590 rfl ?_
    refine xw_lcmp 592 dL_law_591 rfl ?_
    have hc9 : lg_cmp (vp_updL f 0 (oNex (w, sv, q, n, l, co) ((xgr G 0).2 (i + 1))).1.2.toInt64 0) (oNexM (z, hi, n, l, co) ((xgr G 0).2 (i + 1))).1.2.toInt64 = 0 := by rw [show vp_updL f 0 (oNex (w, sv, q, n, l, co) ((xgr G 0).2 (i + 1))).1.2.toInt64 0 = (oNex (w, sv, q, n, l, co) ((xgr G 0).2 (i + 1))).1.2.toInt64 from if_pos rfl, hr, lg_cmp_self]
    refine xw_if_eq 597 595 dL_law_592 rfl rfl (fun h592 => ?_) (fun h592 => absurd (hc9) h592)
    refine xw_goto 1649 dL_law_597 rfl ?_
    refine xW.pick [2, 3, 4, 5, 6] rfl ?_
    refine xW.cast (hp' := lHp (w9, (oNex (w, sv, q, n, l, co) ((xgr G 0).2 (i + 1))).2.2) sx9 (oNexM (z, hi, n, l, co) ((xgr G 0).2 (i + 1))).2 (nI (oNexM (z, hi, n, l, co) ((xgr G 0).2 (i + 1))).1.1) c9 (vp_updL f 0 (oNex (w, sv, q, n, l, co) ((xgr G 0).2 (i + 1))).1.2.toInt64)) rfl rfl rfl ?_
    exact next _ _ _ _ _ _ (xRel_w hS.2 g9)
  · rw [if_neg e0]
    refine xw_istore (ls' := [(5, _), (4, _), (0, _), (1, _), (2, _), (3, _)]) 557 dL_law_555 rfl rfl rfl ?_
    refine xW.cast (hp' := (mH (cHp (w9, (oNex (w, sv, q, n, l, co) ((xgr G 0).2 (i + 1))).2.2) sx9 []) z (nI n) hi (nI l) co th c.1 c.2.1 c.2.2.1 c.2.2.2.1 c.2.2.2.2.1 c.2.2.2.2.2.1 c.2.2.2.2.2.2.1 c.2.2.2.2.2.2.2.1 c.2.2.2.2.2.2.2.2.1 c.2.2.2.2.2.2.2.2.2.1 c.2.2.2.2.2.2.2.2.2.2.1 c.2.2.2.2.2.2.2.2.2.2.2.1 c.2.2.2.2.2.2.2.2.2.2.2.2.1 c.2.2.2.2.2.2.2.2.2.2.2.2.2 [.inl (2, 1, .inr (.inl f))])) rfl rfl rfl ?_
    refine xw_aload_n 558 dL_law_557 rfl rfl rfl ?_
    refine xw_aload_n 559 dL_law_558 rfl rfl rfl ?_
    refine xw_iload 561 dL_law_559 rfl rfl ?_
    refine xw_iconst 562 (nI 1) dL_law_561 rfl (xofI 1) ?_
    refine xw_iadd 563 dL_law_562 rfl ?_
    refine xw_ialoadR (j := i + 1) 564 dL_law_563 rfl (by decide) (nI_add _ _) (by omega) (by omega) ?_
    refine xw_qV 567 dL_law_564 rfl ok_M_stringNext s_L_116 ((S_M_stringNext rfl I hn)) (fun E hp9 q9 => by cases q9.1) (fun o9 hp9 q9 => by obtain ⟨_, _, q9⟩ := q9; rw [q9]; exact mH_len) (xA rfl rfl) rfl rfl rfl rfl rfl rfl rfl (fun ov9 hp9 q9 => ?_)
    obtain ⟨q1, c9, rfl⟩ := q9
    cases q1
    refine xw_istore (ls' := [(6, _), (5, _), (4, _), (0, _), (1, _), (2, _), (3, _)]) 569 dL_law_567 rfl rfl rfl ?_
    refine xw_aload_n 570 dL_law_569 rfl rfl rfl ?_
    refine xw_pV 573 dL_law_570 rfl ok_M_thrown s_L_94 (S_M_thrown rfl) (mH_len) (xA rfl rfl) rfl rfl rfl rfl rfl rfl rfl ?_
    refine xw_iload 575 dL_law_573 rfl rfl ?_
    refine xw_icmp_eq 580 578 dL_law_575 rfl rfl (fun h575 => ?_) (fun h575 => absurd (by rw [hr]) h575)
    refine xw_iload 582 dL_law_580 rfl rfl ?_
    refine xw_if_ne 597 585 dL_law_582 rfl rfl (fun h582 => ?_) (fun h582 => absurd h582 (nI_ne0 (by omega) (by omega)))
    refine xw_goto 1649 dL_law_597 rfl ?_
    refine xW.pick [2, 3, 4, 5, 6] rfl ?_
    refine xW.cast (hp' := lHp (w9, (oNex (w, sv, q, n, l, co) ((xgr G 0).2 (i + 1))).2.2) sx9 (oNexM (z, hi, n, l, co) ((xgr G 0).2 (i + 1))).2 (nI (oNexM (z, hi, n, l, co) ((xgr G 0).2 (i + 1))).1.1) c9 f) rfl rfl rfl ?_
    exact next _ _ _ _ _ _ (xRel_w hS.2 g9)
end P60

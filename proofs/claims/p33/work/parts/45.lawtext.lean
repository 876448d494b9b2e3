/-! ===== the law: a chart written as a text, character by character ===== -/
theorem tx_congr {ch : Bool} {f g : Nat → Int32} : ∀ (i : Nat), (∀ k, k < i → f k = g k) → zps ch f i = zps ch g i ∧ znm f i = znm g i ∧ zsr f i = zsr g i ∧ (∀ r, zwd f i r = zwd g i r) ∧ (∀ r c, zcl f i r c = zcl g i r c)
  | 0, _ => ⟨rfl, rfl, rfl, fun _ => rfl, fun _ _ => rfl⟩
  | i + 1, h => by
    obtain ⟨h1, h2, h3, h4, h5⟩ := tx_congr (ch := ch) i (fun k hk => h k (by omega))
    have e : zI f i = zI g i := by unfold zI; rw [h i (by omega)]
    refine ⟨?_, ?_, ?_, fun r => ?_, fun r c => ?_⟩
    · show (match zps ch f i with | none => none | some s => zst ch s (zI f i)) = (match zps ch g i with | none => none | some s => zst ch s (zI g i))
      rw [h1, e]
    · show (if zdg (zI f i) = true then _ else _) = (if zdg (zI g i) = true then _ else _)
      rw [e, h2]
    · show (if zI f i = 47 then _ else _) = (if zI g i = 47 then _ else _)
      rw [e, h3]
    · show (if zI f i ≠ 47 ∧ zdg (zI f i) = false ∧ r = zsr f i then _ else _) = (if zI g i ≠ 47 ∧ zdg (zI g i) = false ∧ r = zsr g i then _ else _)
      rw [e, h3, h4, h2]
    · show (if (zI f i ≠ 47 ∧ zdg (zI f i) = false ∧ r = zsr f i) ∧ zwd f i r ≤ c then _ else _) = (if (zI g i ≠ 47 ∧ zdg (zI g i) = false ∧ r = zsr g i) ∧ zwd g i r ≤ c then _ else _)
      rw [e, h3, h4, h5]
/-- i rows of C cells, j cells of the next, then the number M (0: none), written in ln characters -/
def lCX (C i j M ln : Nat) (co ch : Nat → Int32) : Prop :=
  zps true co ln = some (decide (0 < j), M) ∧ zsr co ln = i ∧ (∀ r, r < i → zwd co ln r = C) ∧ zwd co ln i = j ∧ (∀ r, i < r → zwd co ln r = 0) ∧
  (∀ r c, ((r < i ∧ c < C) ∨ (r = i ∧ c < j)) → zcl co ln r c < 6 ∧ bcol ch (r * 12 + c) = nI (zcl co ln r c)) ∧ ln ≤ 8 * i + j + (if M = 0 then 0 else 1) ∧ (∀ k, k < ln → xnn co k 33 126)
section P45
variable {C i j M ln v : Nat} {co ch ch' : Nat → Int32}
theorem lCX_0 : lCX C 0 0 0 0 co ch := ⟨rfl, rfl, fun r h => absurd h (Nat.not_lt_zero _), rfl, fun r h => rfl, fun r c h => by omega, Nat.zero_le _, fun k h => absurd h (Nat.not_lt_zero _)⟩
theorem lCX.txt (X : lCX C i j M ln co ch) (h : ln ≤ 60) : xTxt co ln := ⟨h, X.2.2.2.2.2.2.2⟩
theorem tx_new {k : Nat} (hk : k < 1000) : zI (upd co ln (nI k)) ln = k := zI_k upd_at (by omega)
theorem tx_chr {k : Nat} (h : ∀ k, k < ln → xnn co k 33 126) (h1 : 33 ≤ k) (h2 : k ≤ 126) : ∀ p, p < ln + 1 → xnn (upd co ln (nI k)) p 33 126 := by
  intro p hp
  by_cases e : p = ln
  · subst e
    exact xnn_k upd_at (by omega) h1 h2
  · have h3 := h p (by omega)
    have e2 : upd co ln (nI k) p = co p := upd_ne e
    unfold xnn zI at h3 ⊢
    rw [e2]
    exact h3
theorem tx_old (k : Int32) : zps true (upd co ln k) ln = zps true co ln ∧ znm (upd co ln k) ln = znm co ln ∧ zsr (upd co ln k) ln = zsr co ln ∧ (∀ r, zwd (upd co ln k) ln r = zwd co ln r) ∧ (∀ r c, zcl (upd co ln k) ln r c = zcl co ln r c) :=
  tx_congr ln (fun p hp => upd_ne (by omega))
/-- a slash -/
theorem lCX.slash (X : lCX C i C 0 ln co ch) (hC : 0 < C) (hC2 : C ≤ 7) : lCX C (i + 1) 0 0 (ln + 1) (upd co ln (nI 47)) ch := by
  obtain ⟨x1, x2, x3, x4, x5, x6, x7, x8⟩ := X
  obtain ⟨o1, o2, o3, o4, o5⟩ := tx_old (co := co) (ln := ln) (nI 47)
  have e := tx_new (co := co) (ln := ln) (k := 47) (by decide)
  have hw : ∀ r, zwd (upd co ln (nI 47)) (ln + 1) r = zwd co ln r := fun r => (zwd_n (fun q => q.1.1 e)).trans (o4 r)
  refine ⟨?_, ?_, fun r hr => ?_, ?_, fun r hr => ?_, fun r c h => ?_, ?_, tx_chr x8 (by decide) (by decide)⟩
  · rw [zps_s (o1.trans x1), e]
    unfold zst
    rw [if_pos rfl, if_pos ⟨rfl, decide_eq_true hC, rfl⟩]
    rfl
  · rw [zsr_y e, o3, x2]
  · rw [hw]
    by_cases g : r = i
    · rw [g, x4]
    · exact x3 r (by omega)
  · rw [hw]
    exact x5 _ (by omega)
  · rw [hw]
    exact x5 _ (by omega)
  · rw [zcl_n (fun q => q.1.1 e), o5]
    exact x6 r c (by omega)
  · rw [if_pos rfl] at x7 ⊢
    omega
theorem tx_dg {k : Nat} (h1 : 48 ≤ k) (h2 : k ≤ 57) : zdg k = true := decide_eq_true ⟨h1, h2⟩
theorem tx_ndg {k : Nat} (h1 : 57 < k) : zdg k = false := decide_eq_false (by omega)
/-- a number -/
theorem lCX.num (X : lCX C i j 0 ln co ch) (h1 : 2 ≤ M) (h2 : M ≤ 7) : lCX C i j M (ln + 1) (upd co ln (nI (48 + M))) ch := by
  obtain ⟨x1, x2, x3, x4, x5, x6, x7, x8⟩ := X
  obtain ⟨o1, o2, o3, o4, o5⟩ := tx_old (co := co) (ln := ln) (nI (48 + M))
  have e := tx_new (co := co) (ln := ln) (k := 48 + M) (by omega)
  have hd : zdg (48 + M) = true := tx_dg (by omega) (by omega)
  have hl : ¬ zlet (upd co ln (nI (48 + M))) ln := fun q => by
    have := q.2
    rw [e, hd] at this
    cases this
  have hw : ∀ r, zwd (upd co ln (nI (48 + M))) (ln + 1) r = zwd co ln r := fun r => (zwd_n (fun q => hl q.1)).trans (o4 r)
  refine ⟨?_, ?_, fun r hr => (hw r).trans (x3 r hr), (hw i).trans x4, fun r hr => (hw r).trans (x5 r hr), fun r c h => ?_, ?_, tx_chr x8 (by omega) (by omega)⟩
  · rw [zps_s (o1.trans x1), e]
    unfold zst
    rw [if_neg (by omega), if_pos (by omega), if_pos (by dsimp only; omega)]
    dsimp only
    rw [show 10 * 0 + (48 + M - 48) = M by omega]
  · rw [zsr_n (by rw [e]; omega), o3, x2]
  · rw [zcl_n (fun q => hl q.1), o5]
    exact x6 r c h
  · rw [if_pos rfl] at x7
    rw [if_neg (by omega)]
    omega
/-- a letter -/
theorem lCX.letter (X : lCX C i j M ln co ch) (hM : M ≠ 1) (hv : v < 6) (hj : j + max 1 M ≤ C) (hC : C ≤ 12) (hn : ∀ b, b < max 1 M → bcol ch' (i * 12 + (j + b)) = nI v) (ho : ∀ p, (p < i * 12 + j) → bcol ch' p = bcol ch p) : lCX C i (j + max 1 M) 0 (ln + 1) (upd co ln (nI (97 + v))) ch' := by
  obtain ⟨x1, x2, x3, x4, x5, x6, x7, x8⟩ := X
  obtain ⟨o1, o2, o3, o4, o5⟩ := tx_old (co := co) (ln := ln) (nI (97 + v))
  have e := tx_new (co := co) (ln := ln) (k := 97 + v) (by omega)
  have hl : zlet (upd co ln (nI (97 + v))) ln := ⟨by rw [e]; omega, by rw [e]; exact tx_ndg (by omega)⟩
  have hs : zsr (upd co ln (nI (97 + v))) ln = i := o3.trans x2
  have hnm : znm (upd co ln (nI (97 + v))) ln = M := (znm_ps (o1.trans x1)).symm
  have hwi : zwd (upd co ln (nI (97 + v))) (ln + 1) i = j + max 1 M := by
    have h := zwd_y hl
    rw [hs, hnm, o4, x4] at h
    exact h
  have hw : ∀ r, r ≠ i → zwd (upd co ln (nI (97 + v))) (ln + 1) r = zwd co ln r := fun r hr => (zwd_n (fun q => hr (q.2.trans hs))).trans (o4 r)
  refine ⟨?_, ?_, fun r hr => (hw r (by omega)).trans (x3 r hr), hwi, fun r hr => (hw r (by omega)).trans (x5 r hr), fun r c h => ?_, ?_, tx_chr x8 (by omega) (by omega)⟩
  · rw [zps_s (o1.trans x1), e]
    unfold zst
    rw [if_neg (by omega), if_neg (by omega), if_pos ⟨by omega, by omega, hM⟩, decide_eq_true (show 0 < j + max 1 M by omega)]
  · rw [zsr_n (by rw [e]; omega), hs]
  · by_cases g : r = i ∧ j ≤ c
    · obtain ⟨rfl, g⟩ := g
      have h := zcl_y (c := c) hl (by rw [hs, o4, x4]; exact g)
      rw [hs, e, show 97 + v - 97 = v by omega] at h
      rw [h]
      refine ⟨hv, ?_⟩
      have h9 := hn (c - j) (by omega)
      rw [show j + (c - j) = c by omega] at h9
      exact h9
    · have h9 := x6 r c (by omega)
      rw [zcl_n (fun q => g ⟨q.2.1.trans hs, by have := q.2.2; rw [o4, q.2.1, hs, x4] at this; exact this⟩), o5]
      refine ⟨h9.1, ?_⟩
      rw [ho _ (by
        rcases (show r < i ∨ r = i by omega) with h8 | h8
        · have : r * 12 + 12 ≤ i * 12 := by omega
          omega
        · subst h8; omega)]
      exact h9.2
  · rw [if_pos rfl]
    split at x7 <;> omega
/-- the text done -/
theorem lCX.whole (X : lCX C i C 0 ln co ch) (hC : 0 < C) : zwhole true co ln = true := by
  unfold zwhole
  rw [X.1, decide_eq_true hC]
  rfl
theorem lCX.ok (X : lCX C i C 0 ln co ch) (hi : i < 10) (hC : C ≤ 12) : zok co ln = true := by
  obtain ⟨x1, x2, x3, x4, x5, x6, x7, x8⟩ := X
  have h : ∀ r, r < i + 1 → zwd co ln r = C := fun r hr => by
    by_cases g : r = i
    · rw [g, x4]
    · exact x3 r (by omega)
  unfold zok
  rw [x2]
  refine decide_eq_true ⟨by omega, by rw [h 0 (by omega)]; exact hC, fun r hr => by rw [h r hr, h 0 (by omega)]⟩
theorem lCX.err (X : lCX C i j M ln co ch) : zei true co 0 ln = ln := by
  have h := (zei_full (ch := true) (co := co) ln 0 (by simp [zps])).mpr (by rw [Nat.zero_add, X.1]; simp)
  rw [h, Nat.zero_add]
theorem lCX.load (X : lCX C i C 0 ln co ch) (w : Nat → Int32) : zload w co ln = zlaid w (i + 1) C (fun r c => nI (zcl co ln r c)) := by
  unfold zload
  rw [X.2.1]
  congr 1
  by_cases g : 0 = i
  · subst g
    exact X.2.2.2.1
  · exact X.2.2.1 0 (by omega)
end P45
section P45b
variable {G : xG} {x : Nat} {w : Nat → Int32} {sv : Nat → Nat → Int32} {q m ln k : Nat} {co : Nat → Int32} {sx : xSx} {T : List xE}
theorem S_L_app (hl : ln < 60) (h1 : 33 ≤ k) (h2 : k ≤ 126) : xMet G B_append [.ref 0, .int (nI k)] (bHp w sv (nI q) (nI m) (nI ln) co sx T) x 1 6 (xQ3 T (nI (ln + 1)) (w, sv, q, m, ln + 1, upd co ln (nI k))) := by
  have h := S_B_append (G := G) (x := x) (w := w) (sv := sv) (q := q) (m := m) (co := co) (sx := sx) (T := T) (p := nI k) (Nat.le_of_lt hl)
  have e : oApp (w, sv, q, m, ln, co) (nI k) = ((0, nI (ln + 1)), (w, sv, q, m, ln + 1, upd co ln (nI k))) := by
    unfold oApp
    rw [if_pos ⟨nI_nlt h1 (by omega), nI_nlt h2 (by omega)⟩, if_pos hl]
  rw [e] at h
  exact xQ3_ok h rfl
theorem S_L_load (X : xTxt co ln) (hq : q < 6) (hm : m ≤ 6) (h1 : zwhole true co ln = true) (h2 : zok co ln = true) : xMet G B_load [.ref 0] (bHp w sv (nI q) (nI m) (nI ln) co sx T) x 1 6 (xQ3 T (nI (zsr co ln + 1)) (cSav (w, sv, q, m, ln, co) (zload w co ln) 0)) := by
  have h := S_B_load (G := G) (x := x) (w := w) (sv := sv) (sx := sx) (T := T) X hq hm
  have e : oLoa (w, sv, q, m, ln, co) = ((0, nI (zsr co ln + 1)), cSav (w, sv, q, m, ln, co) (zload w co ln) 0) := by
    unfold oLoa
    rw [if_pos h1, if_pos h2]
  rw [e] at h
  exact xQ3_ok h rfl
end P45b
/-- some number below n -/
def lAt (n : Nat) (hp : List xE) : xO → List xE → Prop := fun o hp' => (∃ j, j < n ∧ o = .inl (some (.int (nI j)))) ∧ hp' = hp
theorem lAt_nt {n : Nat} {hp : List xE} : ∀ (E : String) (hp' : List xE), ¬ lAt n hp (.inr E) hp' := fun E hp' h => by
  obtain ⟨⟨_, _, q⟩, _⟩ := h
  cases q
theorem S_L_atQ {G : xG} {hp : List xE} {x : Nat} {a : Int32} {n : Nat} (h0 : 0 < n) (h1 : n < 2 ^ 31) : xMet G L_at [.int a, .int (nI n)] hp x 0 0 (lAt n hp) :=
  xW.post (S_L_at h0 h1) (fun o hp' h => ⟨⟨lat a n, lat_lt h0, h.1⟩, h.2⟩)

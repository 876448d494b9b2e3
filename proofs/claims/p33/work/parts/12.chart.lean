/-! ===== Chart: a row of 120 numbers read as rows of 12 ===== -/
/-- how many of the first n numbers have p -/
def xct (p : Nat → Bool) : Nat → Nat
  | 0 => 0
  | n + 1 => xct p n + if p n = true then 1 else 0
theorem xct_le (p : Nat → Bool) : ∀ n, xct p n ≤ n
  | 0 => Nat.le_refl _
  | n + 1 => by
    have := xct_le p n
    unfold xct
    split <;> omega
theorem xct_congr {p q : Nat → Bool} {n : Nat} (h : ∀ k, k < n → p k = q k) : xct p n = xct q n := by
  induction n with
  | zero => rfl
  | succ n ih =>
    unfold xct
    rw [ih (fun k hk => h k (by omega)), h n (by omega)]
theorem xct_y {p : Nat → Bool} {n : Nat} (h : p n = true) : xct p (n + 1) = xct p n + 1 := by simp [xct, h]
theorem xct_n {p : Nat → Bool} {n : Nat} (h : ¬ p n = true) : xct p (n + 1) = xct p n := by simp [xct, h]
/-- how many places r < R, c < C have p -/
def xct2 (p : Nat → Nat → Bool) (C : Nat) : Nat → Nat
  | 0 => 0
  | r + 1 => xct2 p C r + xct (p r) C
theorem xct2_le (p : Nat → Nat → Bool) (C : Nat) : ∀ n, xct2 p C n ≤ n * C
  | 0 => by simp [xct2]
  | n + 1 => by
    have h1 := xct2_le p C n
    have h2 := xct_le (p n) C
    have h3 : (n + 1) * C = n * C + C := Nat.succ_mul n C
    unfold xct2
    omega
theorem xct2_le120 (p : Nat → Nat → Bool) {C R : Nat} (hC : C ≤ 12) (hR : R ≤ 10) : xct2 p C R ≤ 120 := by
  have h1 := xct2_le p C R
  have h2 : R * C ≤ 10 * 12 := Nat.mul_le_mul hR hC
  omega
theorem xct2_congr {p q : Nat → Nat → Bool} {C R : Nat} (h : ∀ r c, r < R → c < C → p r c = q r c) : xct2 p C R = xct2 q C R := by
  induction R with
  | zero => rfl
  | succ n ih =>
    unfold xct2
    rw [ih (fun r c hr hc => h r c (by omega) hc), xct_congr (fun k hk => h n k (by omega) hk)]
/-- where the spiral reads for the bead n -/
def xpl (A S R C n : Nat) : Nat := n / A % R * 12 + (n % A + S * (n / A)) % C
theorem xpl_lt {A S R C n : Nat} (h1 : 1 ≤ R) (h2 : R ≤ 10) (h3 : 1 ≤ C) (h4 : C ≤ 12) : xpl A S R C n < 120 := by
  have a := Nat.mod_lt (n / A) h1
  have b := Nat.mod_lt (n % A + S * (n / A)) h3
  unfold xpl
  omega
/-- cells laid over g -/
def xlay (tc : Nat → Nat → Int32) (g : Nat → Int32) (R C : Nat) : Nat → Int32 := fun k => if k / 12 < R ∧ k % 12 < C then tc (k / 12) (k % 12) else g k
def xlayP (tc : Nat → Nat → Int32) (g : Nat → Int32) (r c C : Nat) : Nat → Int32 := fun k => if (k / 12 < r ∧ k % 12 < C) ∨ (k / 12 = r ∧ k % 12 < c) then tc (k / 12) (k % 12) else g k
theorem xlayP_0 (tc : Nat → Nat → Int32) (g : Nat → Int32) (C : Nat) : xlayP tc g 0 0 C = g := by
  funext k
  simp [xlayP]
theorem xlayP_s (tc : Nat → Nat → Int32) (g : Nat → Int32) {r c C : Nat} (hc : c < C) (hC : C ≤ 12) : upd (xlayP tc g r c C) (r * 12 + c) (tc r c) = xlayP tc g r (c + 1) C := by
  funext k
  simp only [upd, xlayP]
  by_cases h : k = r * 12 + c
  · have h1 : k / 12 = r := by omega
    have h2 : k % 12 = c := by omega
    rw [if_pos h, if_pos (Or.inr ⟨h1, by omega⟩), h1, h2]
  · rw [if_neg h]
    by_cases h1 : (k / 12 < r ∧ k % 12 < C) ∨ (k / 12 = r ∧ k % 12 < c)
    · rw [if_pos h1, if_pos (by omega)]
    · rw [if_neg h1, if_neg (by omega)]
theorem xlayP_r (tc : Nat → Nat → Int32) (g : Nat → Int32) (r C : Nat) : xlayP tc g r C C = xlayP tc g (r + 1) 0 C := by
  funext k
  simp only [xlayP]
  by_cases h1 : (k / 12 < r ∧ k % 12 < C) ∨ (k / 12 = r ∧ k % 12 < C)
  · rw [if_pos h1, if_pos (by omega)]
  · rw [if_neg h1, if_neg (by omega)]
theorem xlayP_e (tc : Nat → Nat → Int32) (g : Nat → Int32) (R C : Nat) : xlayP tc g R 0 C = xlay tc g R C := by
  funext k
  simp only [xlayP, xlay]
  by_cases h1 : k / 12 < R ∧ k % 12 < C
  · rw [if_pos h1, if_pos (Or.inl h1)]
  · rw [if_neg h1, if_neg (by omega)]
theorem xlayP_at (tc : Nat → Nat → Int32) (g : Nat → Int32) {r c C : Nat} (hc : c < 12) : xlayP tc g r c C (r * 12 + c) = g (r * 12 + c) := by
  simp only [xlayP]
  rw [if_neg (by omega)]
/-- the cell that a turned chart has at row r, column c -/
def xtc (f : Nat → Int32) (R C how r c : Nat) : Int32 :=
  if how = 0 then f (r * 12 + (C - 1 - c)) else if how = 1 then f ((R - 1 - r) * 12 + c) else if how = 2 then f (r * 12 + (c + 1) % C) else if how = 3 then f ((r + 1) % R * 12 + c) else f (c * 12 + r)
def xsw (a b v : Int32) : Int32 := if v = a then b else if v = b then a else v
/-- how many colours are there -/
def xdiff (f : Nat → Int32) (R C : Nat) (n : Nat) : Nat := xct (fun v => decide (0 < xct2 (fun r c => decide (f (r * 12 + c) = nI v)) C R)) n
theorem xset_ne {hp : List xE} {j k : Nat} {e : xE} (h : k ≠ j) : (hp.set j e)[k]? = hp[k]? := List.getElem?_set_ne (Ne.symm h)
theorem xset_at {hp : List xE} {k : Nat} {e e0 : xE} (h : hp[k]? = some e0) : (hp.set k e)[k]? = some e := List.getElem?_set_self (List.getElem?_eq_some_iff.mp h).1
theorem xne_cell {hp : List xE} {j k : Nat} {e e' : xE} (h1 : hp[j]? = some e) (h2 : hp[k]? = some e') (h : e ≠ e') : j ≠ k := by
  intro q
  subst q
  rw [h1] at h2
  exact h (Option.some.inj h2)
theorem xpos {n : Nat} (h0 : 0 < n) (h : n < 2 ^ 31) : (0 : Int32) < nI n := nI_lt (a := 0) h0 h
theorem xle0 {n : Nat} (h0 : 0 < n) (h : n < 2 ^ 31) : ¬ nI n ≤ (0 : Int32) := nI_nle h0 h
theorem xle0' {n : Nat} (h0 : n = 0) : nI n ≤ (0 : Int32) := by subst h0; decide
theorem xlayP_sv (tc : Nat → Nat → Int32) (g : Nat → Int32) {r c C : Nat} {v : Int32} (hc : c < C) (hC : C ≤ 12) (hv : v = tc r c) : upd (xlayP tc g r c C) (r * 12 + c) v = xlayP tc g r (c + 1) C := by
  rw [hv]; exact xlayP_s tc g hc hC
theorem xW.pick {G : xG} {Y : xM} {Qx : xO → List xE → Prop} {pc : Nat} {ls ls' : List (Nat × Value)} {st : List Value} {hp : List xE} {x kc ks : Nat} (is : List Nat) (h : lv_pick ls is = ls') (k : xW G Y Qx pc ls' st hp x kc ks) : xW G Y Qx pc ls st hp x kc ks := by
  refine xW.drop ls' (fun q hq => ?_) k
  subst h
  obtain ⟨i, -, hi⟩ := List.mem_filterMap.mp hq
  exact List.mem_of_getElem? hi
section P12
variable {G : xG} {hp : List xE} {x : Nat} {k q : Nat} {R C : Nat} {f : Nat → Int32}
theorem S_C_cellAt {a b : Int32} {r c : Nat} (hc : hp[k]? = some (.inr (0, [.ref q, .int (nI R), .int (nI C)]))) (hq : hp[q]? = some (.inl (0, 120, .inl f))) (ha : a = nI r) (hb : b = nI c) (hi : r * 12 + c < 120) : xMet G C_cellAt [.ref k, .int a, .int b] hp x 0 0 (xRetV (.int (f (r * 12 + c))) hp) := by
  subst ha; subst hb
  refine xw_aload_n 1 dX0_cellAt_0 rfl rfl rfl ?_
  refine xw_get 4 dX0_cellAt_1 rfl f_X0_9 (hc) rfl ?_
  refine xw_iload_n 5 dX0_cellAt_4 rfl rfl ?_
  refine xw_bipush 7 (nI 12) dX0_cellAt_5 rfl (by decide) ?_
  refine xw_imul 8 dX0_cellAt_7 rfl ?_
  refine xw_iload_n 9 dX0_cellAt_8 rfl rfl ?_
  refine xw_iadd 10 dX0_cellAt_9 rfl ?_
  refine xw_pSN 13 dX0_cellAt_10 rfl ok_B_at s_X0_26 (S_B_at hq (by decide) (by rw [pk_mul, nI_add]) hi) (rfl) rfl rfl rfl rfl rfl rfl ?_
  exact xw_ireturn dX0_cellAt_13 rfl (⟨rfl, rfl⟩)
theorem S_C_putCell {a b v : Int32} {r c : Nat} {h9 : List xE} (hc : hp[k]? = some (.inr (0, [.ref q, .int (nI R), .int (nI C)]))) (hq : hp[q]? = some (.inl (0, 120, .inl f))) (ha : a = nI r) (hb : b = nI c) (hi : r * 12 + c < 120) (h9e : hp.set q (.inl (0, 120, .inl (upd f (r * 12 + c) v))) = h9) : xMet G C_putCell [.ref k, .int a, .int b, .int v] hp x 0 0 (xRet none h9) := by
  subst ha; subst hb
  refine xw_aload_n 1 dX0_putCell_0 rfl rfl rfl ?_
  refine xw_get 4 dX0_putCell_1 rfl f_X0_9 (hc) rfl ?_
  refine xw_iload_n 5 dX0_putCell_4 rfl rfl ?_
  refine xw_bipush 7 (nI 12) dX0_putCell_5 rfl (by decide) ?_
  refine xw_imul 8 dX0_putCell_7 rfl ?_
  refine xw_iload_n 9 dX0_putCell_8 rfl rfl ?_
  refine xw_iadd 10 dX0_putCell_9 rfl ?_
  refine xw_iload_n 11 dX0_putCell_10 rfl rfl ?_
  refine xw_pSNv 14 dX0_putCell_11 rfl ok_B_put s_X0_30 (S_B_put hq (by decide) (by rw [pk_mul, nI_add]) hi h9e) (by rw [← h9e, List.length_set]) rfl rfl rfl rfl rfl rfl ?_
  exact xw_return dX0_putCell_14 rfl (⟨rfl, rfl⟩)
theorem S_C_placeFor {A S n : Nat} (hc : hp[k]? = some (.inr (0, [.ref q, .int (nI R), .int (nI C)]))) (h1 : 1 ≤ R) (h2 : R ≤ 10) (h3 : 1 ≤ C) (h4 : C ≤ 12) (hA : 1 ≤ A) (hA2 : A ≤ 15) (hS : S ≤ 11) (hn : n ≤ 1000) : xMet G C_placeFor [.ref k, .int (nI n), .int (nI A), .int (nI S)] hp x 0 0 (xRetV (.int (nI (xpl A S R C n))) hp) := by
  refine xw_iload_n 1 dX0_placeFor_0 rfl rfl ?_
  refine xw_iconst 2 (nI 1) dX0_placeFor_1 rfl (xofI 1) ?_
  refine xw_icmp_lt 21 5 dX0_placeFor_2 rfl rfl (fun h2 => absurd h2 (nI_nlt hA (by omega))) (fun h2 => ?_)
  refine xw_aload_n 6 dX0_placeFor_5 rfl rfl rfl ?_
  refine xw_get 9 dX0_placeFor_6 rfl f_X0_15 (hc) rfl ?_
  refine xw_iconst 10 (nI 1) dX0_placeFor_9 rfl (xofI 1) ?_
  refine xw_icmp_lt 21 13 dX0_placeFor_10 rfl rfl (fun h10 => absurd h10 (nI_nlt h1 (by omega))) (fun h10 => ?_)
  refine xw_aload_n 14 dX0_placeFor_13 rfl rfl rfl ?_
  refine xw_get 17 dX0_placeFor_14 rfl f_X0_19 (hc) rfl ?_
  refine xw_iconst 18 (nI 1) dX0_placeFor_17 rfl (xofI 1) ?_
  refine xw_icmp_ge 23 21 dX0_placeFor_18 rfl rfl (fun h18 => ?_) (fun h18 => absurd (nI_le h3 (by omega)) h18)
  refine xw_iload_n 24 dX0_placeFor_23 rfl rfl ?_
  refine xw_iload_n 25 dX0_placeFor_24 rfl rfl ?_
  refine xw_idiv 26 dX0_placeFor_25 rfl (nI_ne0 hA (by omega)) ?_
  refine xw_istore (ls' := [(4, _), (0, _), (1, _), (2, _), (3, _)]) 28 dX0_placeFor_26 rfl rfl rfl ?_
  refine xw_iload 30 dX0_placeFor_28 rfl rfl ?_
  refine xw_aload_n 31 dX0_placeFor_30 rfl rfl rfl ?_
  refine xw_get 34 dX0_placeFor_31 rfl f_X0_15 (hc) rfl ?_
  refine xw_irem 35 dX0_placeFor_34 rfl (nI_ne0 h1 (by omega)) ?_
  refine xw_bipush 37 (nI 12) dX0_placeFor_35 rfl (by decide) ?_
  refine xw_imul 38 dX0_placeFor_37 rfl ?_
  refine xw_iload_n 39 dX0_placeFor_38 rfl rfl ?_
  refine xw_iload_n 40 dX0_placeFor_39 rfl rfl ?_
  refine xw_irem 41 dX0_placeFor_40 rfl (nI_ne0 hA (by omega)) ?_
  refine xw_iload_n 42 dX0_placeFor_41 rfl rfl ?_
  refine xw_iload 44 dX0_placeFor_42 rfl rfl ?_
  refine xw_imul 45 dX0_placeFor_44 rfl ?_
  refine xw_iadd 46 dX0_placeFor_45 rfl ?_
  refine xw_aload_n 47 dX0_placeFor_46 rfl rfl rfl ?_
  refine xw_get 50 dX0_placeFor_47 rfl f_X0_19 (hc) rfl ?_
  refine xw_irem 51 dX0_placeFor_50 rfl (nI_ne0 h3 (by omega)) ?_
  refine xw_iadd 52 dX0_placeFor_51 rfl ?_
  have e0 : n / A ≤ n := Nat.div_le_self n A
  have e1 : n % A ≤ n := Nat.mod_le n A
  have e2 : S * (n / A) ≤ 11 * n := Nat.mul_le_mul hS e0
  exact xw_ireturn dX0_placeFor_52 rfl (by rw [pk_rem (a := n) (by omega) hA (by omega), pk_div (by omega) hA (by omega), pk_rem (by omega) h1 (by omega), pk_mul, pk_mul, nI_add, pk_rem (by omega) h3 (by omega), nI_add]; exact ⟨rfl, rfl⟩)
theorem S_C_cellsOf {v : Int32} (hc : hp[k]? = some (.inr (0, [.ref q, .int (nI R), .int (nI C)]))) (hq : hp[q]? = some (.inl (0, 120, .inl f))) (h1 : 1 ≤ R) (h2 : R ≤ 10) (h3 : 1 ≤ C) (h4 : C ≤ 12) : xMet G C_cellsOf [.ref k, .int v] hp x 0 0 (xRetV (.int (nI (xct2 (fun r c => decide (f (r * 12 + c) = v)) C R))) hp) := by
  have inner : ∀ (r : Nat), r < R → xW G C_cellsOf (xRetV (.int (nI (xct2 (fun r c => decide (f (r * 12 + c) = v)) C R))) hp) 4 [(3, .int (nI (r + 1))), (2, .int (nI (xct2 (fun r c => decide (f (r * 12 + c) = v)) C (r + 1)))), (0, .ref k), (1, .int v)] [] hp x 0 0 →
      ∀ (t c : Nat), c + t = C → xW G C_cellsOf (xRetV (.int (nI (xct2 (fun r c => decide (f (r * 12 + c) = v)) C R))) hp) 15 [(4, .int (nI c)), (3, .int (nI r)), (2, .int (nI (xct2 (fun r c => decide (f (r * 12 + c) = v)) C r + xct ((fun r c => decide (f (r * 12 + c) = v)) r) c))), (0, .ref k), (1, .int v)] [] hp x 0 0 := by
    intro r hr kk t
    induction t with
    | zero =>
      intro c hct
      have e : c = C := by omega
      subst e
      refine xw_iload 17 dX0_cellsOf_15 rfl rfl ?_
      refine xw_aload_n 18 dX0_cellsOf_17 rfl rfl rfl ?_
      refine xw_get 21 dX0_cellsOf_18 rfl f_X0_19 (hc) rfl ?_
      refine xw_icmp_ge 44 24 dX0_cellsOf_21 rfl rfl (fun h21 => ?_) (fun h21 => absurd (nI_le (Nat.le_refl _) (by omega)) h21)
      refine xw_iinc (ls' := [(3, _), (4, _), (2, _), (0, _), (1, _)]) 47 _ dX0_cellsOf_44 rfl rfl (xnI_inc _) rfl rfl ?_
      refine xw_goto 4 dX0_cellsOf_47 rfl ?_
      exact xW.pick [0, 2, 3, 4] rfl (kk)
    | succ t ih =>
      intro c hct
      refine xw_iload 17 dX0_cellsOf_15 rfl rfl ?_
      refine xw_aload_n 18 dX0_cellsOf_17 rfl rfl rfl ?_
      refine xw_get 21 dX0_cellsOf_18 rfl f_X0_19 (hc) rfl ?_
      refine xw_icmp_ge 44 24 dX0_cellsOf_21 rfl rfl (fun h21 => absurd h21 (nI_ge (by omega) (by omega))) (fun h21 => ?_)
      refine xw_aload_n 25 dX0_cellsOf_24 rfl rfl rfl ?_
      refine xw_iload_n 26 dX0_cellsOf_25 rfl rfl ?_
      refine xw_iload 28 dX0_cellsOf_26 rfl rfl ?_
      refine xw_pV 31 dX0_cellsOf_28 rfl ok_C_cellAt s_X0_34 (S_C_cellAt hc hq rfl rfl (by omega)) (rfl) (hc) rfl rfl rfl rfl rfl rfl rfl ?_
      refine xw_iload_n 32 dX0_cellsOf_31 rfl rfl ?_
      refine xw_icmp_ne 38 35 dX0_cellsOf_32 rfl rfl (fun h32 => ?_) (fun h32 => ?_)
      · refine xw_iinc (ls' := [(4, _), (3, _), (2, _), (0, _), (1, _)]) 41 _ dX0_cellsOf_38 rfl rfl (xnI_inc _) rfl rfl ?_
        refine xw_goto 15 dX0_cellsOf_41 rfl ?_
        have e : xct ((fun r c => decide (f (r * 12 + c) = v)) r) (c + 1) = xct ((fun r c => decide (f (r * 12 + c) = v)) r) c := xct_n (by simpa using h32)
        have ih := ih (c + 1) (by omega)
        rw [e] at ih
        exact xW.pick [0, 1, 2, 3, 4] rfl (ih)
      · refine xw_iinc (ls' := [(2, _), (4, _), (3, _), (0, _), (1, _)]) 38 _ dX0_cellsOf_35 rfl rfl (xnI_inc _) rfl rfl ?_
        refine xw_iinc (ls' := [(4, _), (2, _), (3, _), (0, _), (1, _)]) 41 _ dX0_cellsOf_38 rfl rfl (xnI_inc _) rfl rfl ?_
        refine xw_goto 15 dX0_cellsOf_41 rfl ?_
        have e : xct ((fun r c => decide (f (r * 12 + c) = v)) r) (c + 1) = xct ((fun r c => decide (f (r * 12 + c) = v)) r) c + 1 := xct_y (by simpa using h32)
        have ih := ih (c + 1) (by omega)
        rw [e] at ih
        exact xW.pick [0, 2, 1, 3, 4] rfl (ih)
  have outer : ∀ (t r : Nat), r + t = R → xW G C_cellsOf (xRetV (.int (nI (xct2 (fun r c => decide (f (r * 12 + c) = v)) C R))) hp) 4 [(3, .int (nI r)), (2, .int (nI (xct2 (fun r c => decide (f (r * 12 + c) = v)) C r))), (0, .ref k), (1, .int v)] [] hp x 0 0 := by
    intro t
    induction t with
    | zero =>
      intro r hrt
      have e : r = R := by omega
      subst e
      refine xw_iload_n 5 dX0_cellsOf_4 rfl rfl ?_
      refine xw_aload_n 6 dX0_cellsOf_5 rfl rfl rfl ?_
      refine xw_get 9 dX0_cellsOf_6 rfl f_X0_15 (hc) rfl ?_
      refine xw_icmp_ge 50 12 dX0_cellsOf_9 rfl rfl (fun h9 => ?_) (fun h9 => absurd (nI_le (Nat.le_refl _) (by omega)) h9)
      refine xw_iload_n 51 dX0_cellsOf_50 rfl rfl ?_
      exact xw_ireturn dX0_cellsOf_51 rfl (⟨rfl, rfl⟩)
    | succ t ih =>
      intro r hrt
      refine xw_iload_n 5 dX0_cellsOf_4 rfl rfl ?_
      refine xw_aload_n 6 dX0_cellsOf_5 rfl rfl rfl ?_
      refine xw_get 9 dX0_cellsOf_6 rfl f_X0_15 (hc) rfl ?_
      refine xw_icmp_ge 50 12 dX0_cellsOf_9 rfl rfl (fun h9 => absurd h9 (nI_ge (by omega) (by omega))) (fun h9 => ?_)
      refine xw_iconst 13 (nI 0) dX0_cellsOf_12 rfl (xofI 0) ?_
      refine xw_istore (ls' := [(4, _), (3, _), (2, _), (0, _), (1, _)]) 15 dX0_cellsOf_13 rfl rfl rfl ?_
      exact inner r (by omega) (ih (r + 1) (by omega)) C 0 (by omega)
  refine xw_iconst 1 (nI 0) dX0_cellsOf_0 rfl (xofI 0) ?_
  refine xw_istore_n (ls' := [(2, _), (0, _), (1, _)]) 2 dX0_cellsOf_1 rfl rfl rfl ?_
  refine xw_iconst 3 (nI 0) dX0_cellsOf_2 rfl (xofI 0) ?_
  refine xw_istore_n (ls' := [(3, _), (2, _), (0, _), (1, _)]) 4 dX0_cellsOf_3 rfl rfl rfl ?_
  exact outer R 0 (by omega)
theorem S_C_differentColours (hc : hp[k]? = some (.inr (0, [.ref q, .int (nI R), .int (nI C)]))) (hq : hp[q]? = some (.inl (0, 120, .inl f))) (h1 : 1 ≤ R) (h2 : R ≤ 10) (h3 : 1 ≤ C) (h4 : C ≤ 12) : xMet G C_differentColours [.ref k] hp x 0 0 (xRetV (.int (nI (xdiff f R C 6))) hp) := by
  have loop : ∀ (t i : Nat), i + t = 6 → xW G C_differentColours (xRetV (.int (nI (xdiff f R C 6))) hp) 4 [(2, .int (nI i)), (1, .int (nI (xdiff f R C i))), (0, .ref k)] [] hp x 0 0 := by
    intro t
    induction t with
    | zero =>
      intro i hi
      have e : i = 6 := by omega
      subst e
      refine xw_iload_n 5 dX0_differentColours_4 rfl rfl ?_
      refine xw_bipush 7 (nI 6) dX0_differentColours_5 rfl (by decide) ?_
      refine xw_icmp_ge 27 10 dX0_differentColours_7 rfl rfl (fun h7 => ?_) (fun h7 => absurd (nI_le (Nat.le_refl _) (by omega)) h7)
      refine xw_iload_n 28 dX0_differentColours_27 rfl rfl ?_
      exact xw_ireturn dX0_differentColours_28 rfl (⟨rfl, rfl⟩)
    | succ t ih =>
      intro i hi
      have hle := xct2_le120 (fun r c => decide (f (r * 12 + c) = nI i)) h4 h2
      by_cases h0 : 0 < xct2 (fun r c => decide (f (r * 12 + c) = nI i)) C R
      · have e : xdiff f R C (i + 1) = xdiff f R C i + 1 := xct_y (by simpa using h0)
        have ih := ih (i + 1) (by omega)
        rw [e] at ih
        refine xw_iload_n 5 dX0_differentColours_4 rfl rfl ?_
        refine xw_bipush 7 (nI 6) dX0_differentColours_5 rfl (by decide) ?_
        refine xw_icmp_ge 27 10 dX0_differentColours_7 rfl rfl (fun h7 => absurd h7 (nI_ge (by omega) (by omega))) (fun h7 => ?_)
        refine xw_aload_n 11 dX0_differentColours_10 rfl rfl rfl ?_
        refine xw_iload_n 12 dX0_differentColours_11 rfl rfl ?_
        refine xw_pV 15 dX0_differentColours_12 rfl ok_C_cellsOf s_X0_38 (S_C_cellsOf hc hq h1 h2 h3 h4) (rfl) (hc) rfl rfl rfl rfl rfl rfl rfl ?_
        refine xw_if_le 21 18 dX0_differentColours_15 rfl rfl (fun h15 => absurd h15 (xle0 h0 (by omega))) (fun h15 => ?_)
        refine xw_iinc (ls' := [(1, _), (2, _), (0, _)]) 21 _ dX0_differentColours_18 rfl rfl (xnI_inc _) rfl rfl ?_
        refine xw_iinc (ls' := [(2, _), (1, _), (0, _)]) 24 _ dX0_differentColours_21 rfl rfl (xnI_inc _) rfl rfl ?_
        refine xw_goto 4 dX0_differentColours_24 rfl ?_
        exact xW.pick [0, 1, 2] rfl (ih)
      · have e : xdiff f R C (i + 1) = xdiff f R C i := xct_n (by simpa using h0)
        have ih := ih (i + 1) (by omega)
        rw [e] at ih
        refine xw_iload_n 5 dX0_differentColours_4 rfl rfl ?_
        refine xw_bipush 7 (nI 6) dX0_differentColours_5 rfl (by decide) ?_
        refine xw_icmp_ge 27 10 dX0_differentColours_7 rfl rfl (fun h7 => absurd h7 (nI_ge (by omega) (by omega))) (fun h7 => ?_)
        refine xw_aload_n 11 dX0_differentColours_10 rfl rfl rfl ?_
        refine xw_iload_n 12 dX0_differentColours_11 rfl rfl ?_
        refine xw_pV 15 dX0_differentColours_12 rfl ok_C_cellsOf s_X0_38 (S_C_cellsOf hc hq h1 h2 h3 h4) (rfl) (hc) rfl rfl rfl rfl rfl rfl rfl ?_
        refine xw_if_le 21 18 dX0_differentColours_15 rfl rfl (fun h15 => ?_) (fun h15 => absurd (xle0' (by omega)) h15)
        refine xw_iinc (ls' := [(2, _), (1, _), (0, _)]) 24 _ dX0_differentColours_21 rfl rfl (xnI_inc _) rfl rfl ?_
        refine xw_goto 4 dX0_differentColours_24 rfl ?_
        exact xW.pick [0, 1, 2] rfl (ih)
  refine xw_iconst 1 (nI 0) dX0_differentColours_0 rfl (xofI 0) ?_
  refine xw_istore_n (ls' := [(1, _), (0, _)]) 2 dX0_differentColours_1 rfl rfl rfl ?_
  refine xw_iconst 3 (nI 0) dX0_differentColours_2 rfl (xofI 0) ?_
  refine xw_istore_n (ls' := [(2, _), (1, _), (0, _)]) 4 dX0_differentColours_3 rfl rfl rfl ?_
  exact loop 6 0 (by omega)
theorem nI_1s {n : Nat} (h : 1 ≤ n) : nI n - nI 1 = nI (n - 1) := pk_sub h
end P12

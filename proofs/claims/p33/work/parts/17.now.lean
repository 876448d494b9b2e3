/-! ===== the class's whole heap, by its state; what writes the work that is now ===== -/
abbrev xSx : Type := Int32 × Int32 × (Nat → Int32) × (Nat → Int32)
def xSv : Nat → Option Nat := fun i => if i < 6 then some (12 + 9 * i) else none
/-- w: the work now; sv: the saved ones; qo, qm: the ring; ql, co: the buffer; sx: the spare chart and the fresh beads; T: what lies behind -/
def bHp (w : Nat → Int32) (sv : Nat → Nat → Int32) (qo qm ql : Int32) (co : Nat → Int32) (sx : xSx) (T : List xE) : List xE :=
  .inr (4, [.ref 1, .ref 10, .ref 66, .ref 68, .ref 70]) :: bWk 1 w (.inr (1, [.ref 11, .int qo, .int qm]) :: .inl (1, 6, .inr (.inr (.inr (.inr xSv)))) ::
    bWk 12 (sv 0) (bWk 21 (sv 1) (bWk 30 (sv 2) (bWk 39 (sv 3) (bWk 48 (sv 4) (bWk 57 (sv 5) (.inr (2, [.ref 67, .int ql]) :: .inl (0, 60, .inl co) :: .inr (0, [.ref 69, .int sx.1, .int sx.2.1]) :: .inl (0, 120, .inl sx.2.2.1) :: .inl (0, 240, .inl sx.2.2.2) :: T)))))))
section P17
variable {w : Nat → Int32} {sv : Nat → Nat → Int32} {qo qm ql : Int32} {co : Nat → Int32} {sx : xSx} {T : List xE}
theorem bHp_wk : xWk (bHp w sv qo qm ql co sx T) 1 w := ⟨rfl, rfl, rfl, rfl, rfl, rfl, rfl, rfl, rfl⟩
theorem bHp_len {w' : Nat → Int32} {sv' : Nat → Nat → Int32} {qo' qm' ql' : Int32} {co' : Nat → Int32} {sx' : xSx} : (bHp w sv qo qm ql co sx T).length = (bHp w' sv' qo' qm' ql' co' sx' T).length := rfl
theorem upd_ne {f : Nat → Int32} {i k : Nat} {v : Int32} (h : k ≠ i) : upd f i v k = f k := if_neg h
theorem upd_at {f : Nat → Int32} {i : Nat} {v : Int32} : upd f i v i = v := if_pos rfl
theorem bWk_ce {p j : Nat} {v : Int32} (h : j < 120) : (bWk p w T).set 2 (.inl (0, 120, .inl (upd (xsl w 27 120) j v))) = bWk p (upd w (27 + j) v) T := by
  unfold bWk
  rw [xsl_out (w := w) (i := 27 + j) (v := v) (o := 0) (n := 4) (by omega), xsl_out (w := w) (i := 27 + j) (v := v) (o := 9) (n := 6) (by omega), xsl_out (w := w) (i := 27 + j) (v := v) (o := 15) (n := 6) (by omega), xsl_out (w := w) (i := 27 + j) (v := v) (o := 21) (n := 6) (by omega), xsl_out (w := w) (i := 27 + j) (v := v) (o := 147) (n := 240) (by omega), xsl_out (w := w) (i := 27 + j) (v := v) (o := 387) (n := 48) (by omega), ← xsl_in h, upd_ne (k := 4) (by omega), upd_ne (k := 5) (by omega), upd_ne (k := 6) (by omega), upd_ne (k := 7) (by omega), upd_ne (k := 8) (by omega)]
  rfl
theorem bH_ce {j : Nat} {v : Int32} (h : j < 120) : (bHp w sv qo qm ql co sx T).set 3 (.inl (0, 120, .inl (upd (xsl w 27 120) j v))) = bHp (upd w (27 + j) v) sv qo qm ql co sx T := by
  unfold bHp
  rw [← bWk_ce h]
  rfl
theorem bWk_se {p j : Nat} {v : Int32} (h : j < 4) : (bWk p w T).set 3 (.inl (0, 4, .inl (upd (xsl w 0 4) j v))) = bWk p (upd w (0 + j) v) T := by
  unfold bWk
  rw [xsl_out (w := w) (i := 0 + j) (v := v) (o := 27) (n := 120) (by omega), xsl_out (w := w) (i := 0 + j) (v := v) (o := 9) (n := 6) (by omega), xsl_out (w := w) (i := 0 + j) (v := v) (o := 15) (n := 6) (by omega), xsl_out (w := w) (i := 0 + j) (v := v) (o := 21) (n := 6) (by omega), xsl_out (w := w) (i := 0 + j) (v := v) (o := 147) (n := 240) (by omega), xsl_out (w := w) (i := 0 + j) (v := v) (o := 387) (n := 48) (by omega), ← xsl_in h, upd_ne (k := 4) (by omega), upd_ne (k := 5) (by omega), upd_ne (k := 6) (by omega), upd_ne (k := 7) (by omega), upd_ne (k := 8) (by omega)]
  rfl
theorem bH_se {j : Nat} {v : Int32} (h : j < 4) : (bHp w sv qo qm ql co sx T).set 4 (.inl (0, 4, .inl (upd (xsl w 0 4) j v))) = bHp (upd w (0 + j) v) sv qo qm ql co sx T := by
  unfold bHp
  rw [← bWk_se h]
  rfl
theorem bWk_st {p j : Nat} {v : Int32} (h : j < 6) : (bWk p w T).set 4 (.inl (0, 6, .inl (upd (xsl w 9 6) j v))) = bWk p (upd w (9 + j) v) T := by
  unfold bWk
  rw [xsl_out (w := w) (i := 9 + j) (v := v) (o := 27) (n := 120) (by omega), xsl_out (w := w) (i := 9 + j) (v := v) (o := 0) (n := 4) (by omega), xsl_out (w := w) (i := 9 + j) (v := v) (o := 15) (n := 6) (by omega), xsl_out (w := w) (i := 9 + j) (v := v) (o := 21) (n := 6) (by omega), xsl_out (w := w) (i := 9 + j) (v := v) (o := 147) (n := 240) (by omega), xsl_out (w := w) (i := 9 + j) (v := v) (o := 387) (n := 48) (by omega), ← xsl_in h, upd_ne (k := 4) (by omega), upd_ne (k := 5) (by omega), upd_ne (k := 6) (by omega), upd_ne (k := 7) (by omega), upd_ne (k := 8) (by omega)]
  rfl
theorem bH_st {j : Nat} {v : Int32} (h : j < 6) : (bHp w sv qo qm ql co sx T).set 5 (.inl (0, 6, .inl (upd (xsl w 9 6) j v))) = bHp (upd w (9 + j) v) sv qo qm ql co sx T := by
  unfold bHp
  rw [← bWk_st h]
  rfl
theorem bWk_bo {p j : Nat} {v : Int32} (h : j < 6) : (bWk p w T).set 5 (.inl (0, 6, .inl (upd (xsl w 15 6) j v))) = bWk p (upd w (15 + j) v) T := by
  unfold bWk
  rw [xsl_out (w := w) (i := 15 + j) (v := v) (o := 27) (n := 120) (by omega), xsl_out (w := w) (i := 15 + j) (v := v) (o := 0) (n := 4) (by omega), xsl_out (w := w) (i := 15 + j) (v := v) (o := 9) (n := 6) (by omega), xsl_out (w := w) (i := 15 + j) (v := v) (o := 21) (n := 6) (by omega), xsl_out (w := w) (i := 15 + j) (v := v) (o := 147) (n := 240) (by omega), xsl_out (w := w) (i := 15 + j) (v := v) (o := 387) (n := 48) (by omega), ← xsl_in h, upd_ne (k := 4) (by omega), upd_ne (k := 5) (by omega), upd_ne (k := 6) (by omega), upd_ne (k := 7) (by omega), upd_ne (k := 8) (by omega)]
  rfl
theorem bH_bo {j : Nat} {v : Int32} (h : j < 6) : (bHp w sv qo qm ql co sx T).set 6 (.inl (0, 6, .inl (upd (xsl w 15 6) j v))) = bHp (upd w (15 + j) v) sv qo qm ql co sx T := by
  unfold bHp
  rw [← bWk_bo h]
  rfl
theorem bWk_cr {p j : Nat} {v : Int32} (h : j < 6) : (bWk p w T).set 6 (.inl (0, 6, .inl (upd (xsl w 21 6) j v))) = bWk p (upd w (21 + j) v) T := by
  unfold bWk
  rw [xsl_out (w := w) (i := 21 + j) (v := v) (o := 27) (n := 120) (by omega), xsl_out (w := w) (i := 21 + j) (v := v) (o := 0) (n := 4) (by omega), xsl_out (w := w) (i := 21 + j) (v := v) (o := 9) (n := 6) (by omega), xsl_out (w := w) (i := 21 + j) (v := v) (o := 15) (n := 6) (by omega), xsl_out (w := w) (i := 21 + j) (v := v) (o := 147) (n := 240) (by omega), xsl_out (w := w) (i := 21 + j) (v := v) (o := 387) (n := 48) (by omega), ← xsl_in h, upd_ne (k := 4) (by omega), upd_ne (k := 5) (by omega), upd_ne (k := 6) (by omega), upd_ne (k := 7) (by omega), upd_ne (k := 8) (by omega)]
  rfl
theorem bH_cr {j : Nat} {v : Int32} (h : j < 6) : (bHp w sv qo qm ql co sx T).set 7 (.inl (0, 6, .inl (upd (xsl w 21 6) j v))) = bHp (upd w (21 + j) v) sv qo qm ql co sx T := by
  unfold bHp
  rw [← bWk_cr h]
  rfl
theorem bWk_be {p j : Nat} {v : Int32} (h : j < 240) : (bWk p w T).set 7 (.inl (0, 240, .inl (upd (xsl w 147 240) j v))) = bWk p (upd w (147 + j) v) T := by
  unfold bWk
  rw [xsl_out (w := w) (i := 147 + j) (v := v) (o := 27) (n := 120) (by omega), xsl_out (w := w) (i := 147 + j) (v := v) (o := 0) (n := 4) (by omega), xsl_out (w := w) (i := 147 + j) (v := v) (o := 9) (n := 6) (by omega), xsl_out (w := w) (i := 147 + j) (v := v) (o := 15) (n := 6) (by omega), xsl_out (w := w) (i := 147 + j) (v := v) (o := 21) (n := 6) (by omega), xsl_out (w := w) (i := 147 + j) (v := v) (o := 387) (n := 48) (by omega), ← xsl_in h, upd_ne (k := 4) (by omega), upd_ne (k := 5) (by omega), upd_ne (k := 6) (by omega), upd_ne (k := 7) (by omega), upd_ne (k := 8) (by omega)]
  rfl
theorem bH_be {j : Nat} {v : Int32} (h : j < 240) : (bHp w sv qo qm ql co sx T).set 8 (.inl (0, 240, .inl (upd (xsl w 147 240) j v))) = bHp (upd w (147 + j) v) sv qo qm ql co sx T := by
  unfold bHp
  rw [← bWk_be h]
  rfl
theorem bWk_bg {p j : Nat} {v : Int32} (h : j < 48) : (bWk p w T).set 8 (.inl (0, 48, .inl (upd (xsl w 387 48) j v))) = bWk p (upd w (387 + j) v) T := by
  unfold bWk
  rw [xsl_out (w := w) (i := 387 + j) (v := v) (o := 27) (n := 120) (by omega), xsl_out (w := w) (i := 387 + j) (v := v) (o := 0) (n := 4) (by omega), xsl_out (w := w) (i := 387 + j) (v := v) (o := 9) (n := 6) (by omega), xsl_out (w := w) (i := 387 + j) (v := v) (o := 15) (n := 6) (by omega), xsl_out (w := w) (i := 387 + j) (v := v) (o := 21) (n := 6) (by omega), xsl_out (w := w) (i := 387 + j) (v := v) (o := 147) (n := 240) (by omega), ← xsl_in h, upd_ne (k := 4) (by omega), upd_ne (k := 5) (by omega), upd_ne (k := 6) (by omega), upd_ne (k := 7) (by omega), upd_ne (k := 8) (by omega)]
  rfl
theorem bH_bg {j : Nat} {v : Int32} (h : j < 48) : (bHp w sv qo qm ql co sx T).set 9 (.inl (0, 48, .inl (upd (xsl w 387 48) j v))) = bHp (upd w (387 + j) v) sv qo qm ql co sx T := by
  unfold bHp
  rw [← bWk_bg h]
  rfl
theorem bWk_o6 {p : Nat} {v : Int32} : (bWk p w T).set 0 (.inr (3, [.ref (p + 1), .ref (p + 3), .ref (p + 4), .ref (p + 5), .ref (p + 6), .ref (p + 7), .ref (p + 8), .int v, .int (w 7), .int (w 8)])) = bWk p (upd w 6 v) T := by
  unfold bWk
  rw [xsl_out (w := w) (i := 6) (v := v) (o := 27) (n := 120) (by decide), xsl_out (w := w) (i := 6) (v := v) (o := 0) (n := 4) (by decide), xsl_out (w := w) (i := 6) (v := v) (o := 9) (n := 6) (by decide), xsl_out (w := w) (i := 6) (v := v) (o := 15) (n := 6) (by decide), xsl_out (w := w) (i := 6) (v := v) (o := 21) (n := 6) (by decide), xsl_out (w := w) (i := 6) (v := v) (o := 147) (n := 240) (by decide), xsl_out (w := w) (i := 6) (v := v) (o := 387) (n := 48) (by decide), upd_ne (k := 4) (by decide), upd_ne (k := 5) (by decide), upd_ne (k := 7) (by decide), upd_ne (k := 8) (by decide), upd_at]
  rfl
theorem bH_o6 {v : Int32} : (bHp w sv qo qm ql co sx T).set 1 (.inr (3, [.ref 2, .ref 4, .ref 5, .ref 6, .ref 7, .ref 8, .ref 9, .int v, .int (w 7), .int (w 8)])) = bHp (upd w 6 v) sv qo qm ql co sx T := by
  unfold bHp
  rw [← bWk_o6]
  rfl
theorem bWk_o7 {p : Nat} {v : Int32} : (bWk p w T).set 0 (.inr (3, [.ref (p + 1), .ref (p + 3), .ref (p + 4), .ref (p + 5), .ref (p + 6), .ref (p + 7), .ref (p + 8), .int (w 6), .int v, .int (w 8)])) = bWk p (upd w 7 v) T := by
  unfold bWk
  rw [xsl_out (w := w) (i := 7) (v := v) (o := 27) (n := 120) (by decide), xsl_out (w := w) (i := 7) (v := v) (o := 0) (n := 4) (by decide), xsl_out (w := w) (i := 7) (v := v) (o := 9) (n := 6) (by decide), xsl_out (w := w) (i := 7) (v := v) (o := 15) (n := 6) (by decide), xsl_out (w := w) (i := 7) (v := v) (o := 21) (n := 6) (by decide), xsl_out (w := w) (i := 7) (v := v) (o := 147) (n := 240) (by decide), xsl_out (w := w) (i := 7) (v := v) (o := 387) (n := 48) (by decide), upd_ne (k := 4) (by decide), upd_ne (k := 5) (by decide), upd_ne (k := 6) (by decide), upd_ne (k := 8) (by decide), upd_at]
  rfl
theorem bH_o7 {v : Int32} : (bHp w sv qo qm ql co sx T).set 1 (.inr (3, [.ref 2, .ref 4, .ref 5, .ref 6, .ref 7, .ref 8, .ref 9, .int (w 6), .int v, .int (w 8)])) = bHp (upd w 7 v) sv qo qm ql co sx T := by
  unfold bHp
  rw [← bWk_o7]
  rfl
theorem bWk_o8 {p : Nat} {v : Int32} : (bWk p w T).set 0 (.inr (3, [.ref (p + 1), .ref (p + 3), .ref (p + 4), .ref (p + 5), .ref (p + 6), .ref (p + 7), .ref (p + 8), .int (w 6), .int (w 7), .int v])) = bWk p (upd w 8 v) T := by
  unfold bWk
  rw [xsl_out (w := w) (i := 8) (v := v) (o := 27) (n := 120) (by decide), xsl_out (w := w) (i := 8) (v := v) (o := 0) (n := 4) (by decide), xsl_out (w := w) (i := 8) (v := v) (o := 9) (n := 6) (by decide), xsl_out (w := w) (i := 8) (v := v) (o := 15) (n := 6) (by decide), xsl_out (w := w) (i := 8) (v := v) (o := 21) (n := 6) (by decide), xsl_out (w := w) (i := 8) (v := v) (o := 147) (n := 240) (by decide), xsl_out (w := w) (i := 8) (v := v) (o := 387) (n := 48) (by decide), upd_ne (k := 4) (by decide), upd_ne (k := 5) (by decide), upd_ne (k := 6) (by decide), upd_ne (k := 7) (by decide), upd_at]
  rfl
theorem bH_o8 {v : Int32} : (bHp w sv qo qm ql co sx T).set 1 (.inr (3, [.ref 2, .ref 4, .ref 5, .ref 6, .ref 7, .ref 8, .ref 9, .int (w 6), .int (w 7), .int v])) = bHp (upd w 8 v) sv qo qm ql co sx T := by
  unfold bHp
  rw [← bWk_o8]
  rfl
end P17
/-- i fresh beads strung, the count not yet changed -/
def zon (w : Nat → Int32) (fc : Nat → Nat) : Nat → Nat → Int32
  | 0 => w
  | i + 1 => upd (upd (zon w fc i) (147 + (zI w 6 + i)) (nI (fc i))) (9 + fc i) (zon w fc i (9 + fc i) + (-1))
theorem zon_lo (w : Nat → Int32) (fc : Nat → Nat) {k : Nat} (h : k < 9) : ∀ i, zon w fc i k = w k
  | 0 => rfl
  | i + 1 => by
    unfold zon
    rw [upd_ne (by omega), upd_ne (by omega)]
    exact zon_lo w fc h i
def ztake (w : Nat → Int32) (fc : Nat → Nat) (m : Nat) : Nat → Int32 := upd (zon w fc m) 6 (nI (zI w 6 + m))
/-- the last beads back into the stock: i of them, from the bead l on -/
def zoff (w : Nat → Int32) (l : Nat) : Nat → Nat → Int32
  | 0 => w
  | i + 1 => upd (zoff w l i) (9 + zI w (147 + (l + i))) (zoff w l i (9 + zI w (147 + (l + i))) + nI 1)
theorem zoff_o (w : Nat → Int32) (l : Nat) {k : Nat} : ∀ i, (∀ j, j < i → zI w (147 + (l + j)) < 6) → (k < 9 ∨ 15 ≤ k) → zoff w l i k = w k
  | 0, _, _ => rfl
  | i + 1, hc, h => by
    have h1 := hc i (by omega)
    unfold zoff
    rw [upd_ne (by omega)]
    exact zoff_o w l i (fun j hj => hc j (by omega)) h
def zoff1 (w : Nat → Int32) (m : Nat) : Nat → Int32 := upd (zoff w (zI w 6 - m) m) 6 (nI (zI w 6 - m))
def zoff2 (w : Nat → Int32) (m : Nat) : Nat → Int32 := upd (zoff1 w m) 8 (zoff1 w m 8 + nI m)
def zunp (w : Nat → Int32) (m : Nat) : Nat → Int32 := upd (zoff2 w m) 7 (nI (1 + xct (fun i => decide (zI w (387 + (i + 1)) ≤ zI w 6 - m)) (zI w 7 - 1)))
/-- i numbers from the place a on moved one place ahead -/
def zsh (w : Nat → Int32) (a i : Nat) : Nat → Int32 := fun k => if a ≤ k ∧ k < a + i then w (k + 1) else w k
theorem zsh_0 (w : Nat → Int32) (a : Nat) : zsh w a 0 = w := by
  funext k
  simp only [zsh]
  rw [if_neg (by omega)]
theorem zsh_s (w : Nat → Int32) (a i : Nat) : upd (zsh w a i) (a + i) (w (a + i + 1)) = zsh w a (i + 1) := by
  funext k
  simp only [upd, zsh]
  by_cases h : k = a + i
  · subst h; rw [if_pos rfl, if_pos (by omega)]
  · rw [if_neg h]
    by_cases h2 : a ≤ k ∧ k < a + i
    · rw [if_pos h2, if_pos (by omega)]
    · rw [if_neg h2, if_neg (by omega)]
theorem zsh_at (w : Nat → Int32) {a i k : Nat} (h : k < a ∨ a + i ≤ k) : zsh w a i k = w k := if_neg (by omega)
/-- i numbers from the place a on made less by one; moved one place ahead too, if g -/
def zdn (g : Bool) (w : Nat → Int32) (a i : Nat) : Nat → Int32 := fun k => if g = true then (if a ≤ k + 1 ∧ k + 1 < a + i then w (k + 1) - nI 1 else w k) else (if a ≤ k ∧ k < a + i then w k - nI 1 else w k)
theorem zdn_0 (g : Bool) (w : Nat → Int32) (a : Nat) : zdn g w a 0 = w := by
  funext k
  simp only [zdn]
  cases g
  · rw [if_neg (by decide), if_neg (by omega)]
  · rw [if_pos rfl, if_neg (by omega)]
theorem zdn_s (g : Bool) (w : Nat → Int32) {a i : Nat} (ha : 0 < a) : upd (zdn g w a i) (if g = true then a + i - 1 else a + i) (w (a + i) - nI 1) = zdn g w a (i + 1) := by
  funext k
  simp only [upd, zdn]
  cases g
  · simp only [Bool.false_eq_true, if_false]
    by_cases h : k = a + i
    · subst h; rw [if_pos rfl, if_pos (by omega)]
    · rw [if_neg h]
      by_cases h2 : a ≤ k ∧ k < a + i
      · rw [if_pos h2, if_pos (by omega)]
      · rw [if_neg h2, if_neg (by omega)]
  · simp only [if_true]
    by_cases h : k = a + i - 1
    · have e : k + 1 = a + i := by omega
      rw [if_pos h, if_pos (by omega), e]
    · rw [if_neg h]
      by_cases h2 : a ≤ k + 1 ∧ k + 1 < a + i
      · rw [if_pos h2, if_pos (by omega)]
      · rw [if_neg h2, if_neg (by omega)]
theorem zdn_at (g : Bool) (w : Nat → Int32) {a i k : Nat} (h : a + i ≤ k ∨ k + 1 < a) : zdn g w a i k = w k := by
  simp only [zdn]
  cases g
  · rw [if_neg (by decide), if_neg (by omega)]
  · rw [if_pos rfl, if_neg (by omega)]
/-- the string goes with the crushed bead -/
def zgo (w : Nat → Int32) (b : Nat) : Bool := decide (zlen w (zstr w b) = 1 ∧ zstr w b + 1 < zI w 7)
def zcr (w : Nat → Int32) (b : Nat) : Nat → Int32 := zsh (upd w (21 + zI w (147 + b)) (w (21 + zI w (147 + b)) + nI 1)) (147 + b) (zI w 6 - 1 - b)
def zcrush (w : Nat → Int32) (b : Nat) : Nat → Int32 :=
  let v := upd (zdn (zgo w b) (zcr w b) (387 + (zstr w b + 1)) (zI w 7 - 1 - zstr w b)) 6 (nI (zI w 6 - 1))
  if zgo w b = true then upd v 7 (nI (zI w 7 - 1)) else v
section P17b
variable {G : xG} {x : Nat} {w : Nat → Int32} {sv : Nat → Nat → Int32} {qo qm ql : Int32} {co : Nat → Int32} {sx : xSx} {T : List xE}
theorem S_W_takeOn {fc : Nat → Nat} {m : Nat} (I : xInv w) (hM : zI w 6 + m ≤ 240) (hf : ∀ i, i < m → sx.2.2.2 i = nI (fc i) ∧ fc i < 6) : xMet G W_takeOn [.ref 1, .ref 70, .int (nI m)] (bHp w sv qo qm ql co sx T) x 0 0 (xRet none (bHp (ztake w fc m) sv qo qm ql co sx T)) := by
  have loop : ∀ (t i : Nat), i + t = m → xW G W_takeOn (xRet none (bHp (ztake w fc m) sv qo qm ql co sx T)) 2 [(3, .int (nI i)), (0, .ref 1), (1, .ref 70), (2, .int (nI m))] [] (bHp (zon w fc i) sv qo qm ql co sx T) x 0 0 := by
    intro t
    induction t with
    | zero =>
      intro i hi
      have e1 : i = m := by omega
      subst e1
      have e6 : zon w fc i 6 + nI i = nI (zI w 6 + i) := by rw [zon_lo w fc (by decide), I.iM.1, nI_add]
      refine xw_iload_n 3 dX3_takeOn_2 rfl rfl ?_
      refine xw_iload_n 4 dX3_takeOn_3 rfl rfl ?_
      refine xw_icmp_ge 45 7 dX3_takeOn_4 rfl rfl (fun h4 => ?_) (fun h4 => absurd (nI_le (by omega) (by omega)) h4)
      refine xw_aload_n 46 dX3_takeOn_45 rfl rfl rfl ?_
      refine xw_dup 47 dX3_takeOn_46 rfl rfl ?_
      refine xw_get 50 dX3_takeOn_47 rfl f_X3_44 (rfl) rfl ?_
      refine xw_iload_n 51 dX3_takeOn_50 rfl rfl ?_
      refine xw_iadd 52 dX3_takeOn_51 rfl ?_
      rw [e6]
      refine xw_put 55 dX3_takeOn_52 rfl f_X3_44 (rfl) ⟨rfl, rfl⟩ rfl rfl (bH_o6) ?_
      exact xw_return dX3_takeOn_55 rfl (⟨rfl, rfl⟩)
    | succ t ih =>
      intro i hi
      obtain ⟨h1, h2⟩ := hf i (by omega)
      have e6 : zon w fc i 6 + nI i = nI (zI w 6 + i) := by rw [zon_lo w fc (by decide), I.iM.1, nI_add]
      refine xw_iload_n 3 dX3_takeOn_2 rfl rfl ?_
      refine xw_iload_n 4 dX3_takeOn_3 rfl rfl ?_
      refine xw_icmp_ge 45 7 dX3_takeOn_4 rfl rfl (fun h4 => absurd h4 (nI_ge (by omega) (by omega))) (fun h4 => ?_)
      refine xw_aload_n 8 dX3_takeOn_7 rfl rfl rfl ?_
      refine xw_iload_n 9 dX3_takeOn_8 rfl rfl ?_
      refine xw_pSN 12 dX3_takeOn_9 rfl ok_B_at s_X3_58 (S_B_atv (v := nI (fc i)) rfl (by decide) rfl (by omega) h1) (bHp_len) rfl rfl rfl rfl rfl rfl ?_
      refine xw_istore (ls' := [(4, _), (3, _), (0, _), (1, _), (2, _)]) 14 dX3_takeOn_12 rfl rfl rfl ?_
      refine xw_aload_n 15 dX3_takeOn_14 rfl rfl rfl ?_
      refine xw_get 18 dX3_takeOn_15 rfl f_X3_38 (rfl) rfl ?_
      refine xw_aload_n 19 dX3_takeOn_18 rfl rfl rfl ?_
      refine xw_get 22 dX3_takeOn_19 rfl f_X3_44 (rfl) rfl ?_
      refine xw_iload_n 23 dX3_takeOn_22 rfl rfl ?_
      refine xw_iadd 24 dX3_takeOn_23 rfl ?_
      refine xw_iload 26 dX3_takeOn_24 rfl rfl ?_
      refine xw_pSNv 29 dX3_takeOn_26 rfl ok_B_put s_X3_110 (S_B_put rfl (by decide) e6 (by omega) (bH_be (by omega))) (bHp_len) rfl rfl rfl rfl rfl rfl ?_
      refine xw_aload_n 30 dX3_takeOn_29 rfl rfl rfl ?_
      refine xw_get 33 dX3_takeOn_30 rfl f_X3_29 (rfl) rfl ?_
      refine xw_iload 35 dX3_takeOn_33 rfl rfl ?_
      refine xw_iconst 36 (-1) dX3_takeOn_35 rfl rfl ?_
      refine xw_pSNv 39 dX3_takeOn_36 rfl ok_B_add s_X3_114 (S_B_add (j := fc i) rfl (by decide) rfl h2 ((by rw [xsl_at h2, upd_ne (by omega)]; exact bH_st h2 : _ = bHp (zon w fc (i + 1)) sv qo qm ql co sx T))) (bHp_len) rfl rfl rfl rfl rfl rfl ?_
      refine xw_iinc (ls' := [(3, _), (4, _), (0, _), (1, _), (2, _)]) 42 _ dX3_takeOn_39 rfl rfl (xnI_inc _) rfl rfl ?_
      refine xw_goto 2 dX3_takeOn_42 rfl ?_
      exact xW.pick [0, 2, 3, 4] rfl (ih (i + 1) (by omega))
  refine xw_iconst 1 (nI 0) dX3_takeOn_0 rfl (xofI 0) ?_
  refine xw_istore_n (ls' := [(3, _), (0, _), (1, _), (2, _)]) 2 dX3_takeOn_1 rfl rfl rfl ?_
  exact loop m 0 (by omega)
theorem S_W_takeOff {m : Nat} (I : xInv w) (hm : m ≤ zI w 6) : xMet G W_takeOff [.ref 1, .int (nI m)] (bHp w sv qo qm ql co sx T) x 0 0 (xRet none (bHp (zunp w m) sv qo qm ql co sx T)) := by
  have hM := I.iM.2.2
  have hK := I.iK.2.2
  have hK1 := I.iK.2.1
  have hcol : ∀ n, n ≤ m → ∀ j, j < n → zI w (147 + ((zI w 6 - m) + j)) < 6 := fun n hn j hj => by
    have := (I.ib ((zI w 6 - m) + j) (by omega)).2.2
    omega
  have hz2 : ∀ k, (k < 6 ∨ k = 7 ∨ 15 ≤ k) → zoff2 w m k = w k := fun k hk => by
    unfold zoff2 zoff1
    rw [upd_ne (by omega), upd_ne (by omega)]
    exact zoff_o w _ m (hcol m (Nat.le_refl _)) (by omega)
  have loop2 : ∀ (t i : Nat), i + t = zI w 7 - 1 → xW G W_takeOff (xRet none (bHp (zunp w m) sv qo qm ql co sx T)) 59 [(4, .int (nI (i + 1))), (3, .int (nI (1 + xct (fun i => decide (zI w (387 + (i + 1)) ≤ zI w 6 - m)) i))), (2, .int (nI (zI w 6 - m))), (0, .ref 1), (1, .int (nI m))] [] (bHp (zoff2 w m) sv qo qm ql co sx T) x 0 0 := by
    intro t
    have e7 : zoff2 w m 7 = nI (zI w 7) := by rw [hz2 7 (by omega)]; exact I.iK.1
    induction t with
    | zero =>
      intro i hi
      have e1 : i = zI w 7 - 1 := by omega
      refine xw_iload 61 dX3_takeOff_59 rfl rfl ?_
      refine xw_aload_n 62 dX3_takeOff_61 rfl rfl rfl ?_
      refine xw_get 65 dX3_takeOff_62 rfl f_X3_48 (rfl) rfl ?_
      rw [e7]
      refine xw_icmp_ge 90 68 dX3_takeOff_65 rfl rfl (fun h65 => ?_) (fun h65 => absurd (nI_le (by omega) (by omega)) h65)
      refine xw_aload_n 91 dX3_takeOff_90 rfl rfl rfl ?_
      refine xw_iload_n 92 dX3_takeOff_91 rfl rfl ?_
      rw [e1]
      refine xw_put 95 dX3_takeOff_92 rfl f_X3_48 (rfl) ⟨rfl, rfl⟩ rfl rfl (bH_o7) ?_
      exact xw_return dX3_takeOff_95 rfl (⟨rfl, rfl⟩)
    | succ t ih =>
      intro i hi
      have ih := ih (i + 1) (by omega)
      have hB := I.iB (i + 1) (by omega)
      have hB2 := hB.2.2
      have eB : zoff2 w m (387 + (i + 1)) = nI (zI w (387 + (i + 1))) := by rw [hz2 _ (by omega)]; exact hB.1
      by_cases hz : zI w (387 + (i + 1)) ≤ zI w 6 - m
      · have e1 : xct (fun i => decide (zI w (387 + (i + 1)) ≤ zI w 6 - m)) (i + 1) = xct (fun i => decide (zI w (387 + (i + 1)) ≤ zI w 6 - m)) i + 1 := xct_y (by simpa using hz)
        rw [e1] at ih
        refine xw_iload 61 dX3_takeOff_59 rfl rfl ?_
        refine xw_aload_n 62 dX3_takeOff_61 rfl rfl rfl ?_
        refine xw_get 65 dX3_takeOff_62 rfl f_X3_48 (rfl) rfl ?_
        rw [e7]
        refine xw_icmp_ge 90 68 dX3_takeOff_65 rfl rfl (fun h65 => absurd h65 (nI_ge (by omega) (by omega))) (fun h65 => ?_)
        refine xw_aload_n 69 dX3_takeOff_68 rfl rfl rfl ?_
        refine xw_get 72 dX3_takeOff_69 rfl f_X3_41 (rfl) rfl ?_
        refine xw_iload 74 dX3_takeOff_72 rfl rfl ?_
        refine xw_pSN 77 dX3_takeOff_74 rfl ok_B_at s_X3_58 (S_B_ats rfl (by decide) rfl (by omega) eB) (bHp_len) rfl rfl rfl rfl rfl rfl ?_
        refine xw_iload_n 78 dX3_takeOff_77 rfl rfl ?_
        refine xw_icmp_gt 84 81 dX3_takeOff_78 rfl rfl (fun h78 => absurd h78 (nI_nlt hz (by omega))) (fun h78 => ?_)
        refine xw_iinc (ls' := [(3, _), (4, _), (2, _), (0, _), (1, _)]) 84 _ dX3_takeOff_81 rfl rfl (xnI_inc _) rfl rfl ?_
        refine xw_iinc (ls' := [(4, _), (3, _), (2, _), (0, _), (1, _)]) 87 _ dX3_takeOff_84 rfl rfl (xnI_inc _) rfl rfl ?_
        refine xw_goto 59 dX3_takeOff_87 rfl ?_
        exact xW.pick [0, 1, 2, 3, 4] rfl (ih)
      · have e1 : xct (fun i => decide (zI w (387 + (i + 1)) ≤ zI w 6 - m)) (i + 1) = xct (fun i => decide (zI w (387 + (i + 1)) ≤ zI w 6 - m)) i := xct_n (by simpa using hz)
        rw [e1] at ih
        refine xw_iload 61 dX3_takeOff_59 rfl rfl ?_
        refine xw_aload_n 62 dX3_takeOff_61 rfl rfl rfl ?_
        refine xw_get 65 dX3_takeOff_62 rfl f_X3_48 (rfl) rfl ?_
        rw [e7]
        refine xw_icmp_ge 90 68 dX3_takeOff_65 rfl rfl (fun h65 => absurd h65 (nI_ge (by omega) (by omega))) (fun h65 => ?_)
        refine xw_aload_n 69 dX3_takeOff_68 rfl rfl rfl ?_
        refine xw_get 72 dX3_takeOff_69 rfl f_X3_41 (rfl) rfl ?_
        refine xw_iload 74 dX3_takeOff_72 rfl rfl ?_
        refine xw_pSN 77 dX3_takeOff_74 rfl ok_B_at s_X3_58 (S_B_ats rfl (by decide) rfl (by omega) eB) (bHp_len) rfl rfl rfl rfl rfl rfl ?_
        refine xw_iload_n 78 dX3_takeOff_77 rfl rfl ?_
        refine xw_icmp_gt 84 81 dX3_takeOff_78 rfl rfl (fun h78 => ?_) (fun h78 => absurd (nI_lt (by omega) (by omega)) h78)
        refine xw_iinc (ls' := [(4, _), (3, _), (2, _), (0, _), (1, _)]) 87 _ dX3_takeOff_84 rfl rfl (xnI_inc _) rfl rfl ?_
        refine xw_goto 59 dX3_takeOff_87 rfl ?_
        exact xW.pick [0, 1, 2, 3, 4] rfl (ih)
  have loop1 : ∀ (t i : Nat), i + t = m → xW G W_takeOff (xRet none (bHp (zunp w m) sv qo qm ql co sx T)) 9 [(3, .int (nI ((zI w 6 - m) + i))), (2, .int (nI (zI w 6 - m))), (0, .ref 1), (1, .int (nI m))] [] (bHp (zoff w (zI w 6 - m) i) sv qo qm ql co sx T) x 0 0 := by
    intro t
    induction t with
    | zero =>
      intro i hi
      have e1 : i = m := by omega
      subst e1
      have e6 : zoff w (zI w 6 - i) i 6 = nI (zI w 6) := by rw [zoff_o w _ i (hcol i (Nat.le_refl _)) (by omega)]; exact I.iM.1
      refine xw_iload_n 10 dX3_takeOff_9 rfl rfl ?_
      refine xw_aload_n 11 dX3_takeOff_10 rfl rfl rfl ?_
      refine xw_get 14 dX3_takeOff_11 rfl f_X3_44 (rfl) rfl ?_
      rw [e6]
      refine xw_icmp_ge 39 17 dX3_takeOff_14 rfl rfl (fun h14 => ?_) (fun h14 => absurd (nI_le (by omega) (by omega)) h14)
      refine xw_aload_n 40 dX3_takeOff_39 rfl rfl rfl ?_
      refine xw_iload_n 41 dX3_takeOff_40 rfl rfl ?_
      refine xw_put 44 dX3_takeOff_41 rfl f_X3_44 (rfl) ⟨rfl, rfl⟩ rfl rfl ((bH_o6 : _ = bHp (zoff1 w i) sv qo qm ql co sx T)) ?_
      refine xw_aload_n 45 dX3_takeOff_44 rfl rfl rfl ?_
      refine xw_dup 46 dX3_takeOff_45 rfl rfl ?_
      refine xw_get 49 dX3_takeOff_46 rfl f_X3_51 (rfl) rfl ?_
      refine xw_iload_n 50 dX3_takeOff_49 rfl rfl ?_
      refine xw_iadd 51 dX3_takeOff_50 rfl ?_
      refine xw_put 54 dX3_takeOff_51 rfl f_X3_51 (rfl) ⟨rfl, rfl⟩ rfl rfl ((bH_o8 : _ = bHp (zoff2 w i) sv qo qm ql co sx T)) ?_
      refine xw_iconst 55 (nI 1) dX3_takeOff_54 rfl (xofI 1) ?_
      refine xw_istore_n (ls' := [(3, _), (2, _), (0, _), (1, _)]) 56 dX3_takeOff_55 rfl rfl rfl ?_
      refine xw_iconst 57 (nI 1) dX3_takeOff_56 rfl (xofI 1) ?_
      refine xw_istore (ls' := [(4, _), (3, _), (2, _), (0, _), (1, _)]) 59 dX3_takeOff_57 rfl rfl rfl ?_
      exact xW.pick [0, 1, 2, 3, 4] rfl (loop2 (zI w 7 - 1) 0 (by omega))
    | succ t ih =>
      intro i hi
      have e6 : zoff w (zI w 6 - m) i 6 = nI (zI w 6) := by rw [zoff_o w _ i (hcol i (by omega)) (by omega)]; exact I.iM.1
      have hb := I.ib ((zI w 6 - m) + i) (by omega)
      have eb : zoff w (zI w 6 - m) i (147 + ((zI w 6 - m) + i)) = nI (zI w (147 + ((zI w 6 - m) + i))) := by rw [zoff_o w _ i (hcol i (by omega)) (by omega)]; exact hb.1
      have hb2 := hb.2.2
      refine xw_iload_n 10 dX3_takeOff_9 rfl rfl ?_
      refine xw_aload_n 11 dX3_takeOff_10 rfl rfl rfl ?_
      refine xw_get 14 dX3_takeOff_11 rfl f_X3_44 (rfl) rfl ?_
      rw [e6]
      refine xw_icmp_ge 39 17 dX3_takeOff_14 rfl rfl (fun h14 => absurd h14 (nI_ge (by omega) (by omega))) (fun h14 => ?_)
      refine xw_aload_n 18 dX3_takeOff_17 rfl rfl rfl ?_
      refine xw_get 21 dX3_takeOff_18 rfl f_X3_29 (rfl) rfl ?_
      refine xw_aload_n 22 dX3_takeOff_21 rfl rfl rfl ?_
      refine xw_get 25 dX3_takeOff_22 rfl f_X3_38 (rfl) rfl ?_
      refine xw_iload_n 26 dX3_takeOff_25 rfl rfl ?_
      refine xw_pSN 29 dX3_takeOff_26 rfl ok_B_at s_X3_58 (S_B_ats rfl (by decide) rfl (by omega) eb) (bHp_len) rfl rfl rfl rfl rfl rfl ?_
      refine xw_iconst 30 (nI 1) dX3_takeOff_29 rfl (xofI 1) ?_
      refine xw_pSNv 33 dX3_takeOff_30 rfl ok_B_add s_X3_114 (S_B_add (j := zI w (147 + ((zI w 6 - m) + i))) rfl (by decide) rfl (by omega) ((by rw [xsl_at (by omega)]; exact bH_st (by omega) : _ = bHp (zoff w (zI w 6 - m) (i + 1)) sv qo qm ql co sx T))) (bHp_len) rfl rfl rfl rfl rfl rfl ?_
      refine xw_iinc (ls' := [(3, _), (2, _), (0, _), (1, _)]) 36 _ dX3_takeOff_33 rfl rfl (xnI_inc _) rfl rfl ?_
      refine xw_goto 9 dX3_takeOff_36 rfl ?_
      exact xW.pick [0, 1, 2, 3] rfl (ih (i + 1) (by omega))
  have e0 : w 6 - nI m = nI (zI w 6 - m) := by
    have h1 := I.iM.1
    rw [h1, pk_sub hm]
  refine xw_aload_n 1 dX3_takeOff_0 rfl rfl rfl ?_
  refine xw_get 4 dX3_takeOff_1 rfl f_X3_44 (rfl) rfl ?_
  refine xw_iload_n 5 dX3_takeOff_4 rfl rfl ?_
  refine xw_isub 6 dX3_takeOff_5 rfl ?_
  rw [e0]
  refine xw_istore_n (ls' := [(2, _), (0, _), (1, _)]) 7 dX3_takeOff_6 rfl rfl rfl ?_
  refine xw_iload_n 8 dX3_takeOff_7 rfl rfl ?_
  refine xw_istore_n (ls' := [(3, _), (2, _), (0, _), (1, _)]) 9 dX3_takeOff_8 rfl rfl rfl ?_
  exact loop1 m 0 (by omega)
theorem S_W_crushBead {b : Nat} (I : xInv w) (hb : b < zI w 6) : xMet G W_crushBead [.ref 1, .int (nI b)] (bHp w sv qo qm ql co sx T) x 0 0 (xRet none (bHp (zcrush w b) sv qo qm ql co sx T)) := by
  have hM := I.iM.2.2
  have hK := I.iK.2.2
  have hK1 := I.iK.2.1
  have hs := I.str b
  have hcb := I.ib b hb
  have hcb2 := hcb.2.2
  obtain ⟨s, hs0⟩ : ∃ s, s = zstr w b := ⟨_, rfl⟩
  obtain ⟨g, hg0⟩ : ∃ g, g = zgo w b := ⟨_, rfl⟩
  rw [← hs0] at hs
  have z1 : ∀ k, (k < 21 ∨ 27 ≤ k) → upd w (21 + zI w (147 + b)) (w (21 + zI w (147 + b)) + nI 1) k = w k := fun k hk => upd_ne (by omega)
  have zc : ∀ k, (k < 21 ∨ 387 ≤ k) → zcr w b k = w k := fun k hk => by
    unfold zcr
    rw [zsh_at _ (by omega), z1 k (by omega)]
  have ends : xW G W_crushBead (xRet none (bHp (zcrush w b) sv qo qm ql co sx T)) 138 [(4, .int (nI (zI w 7))), (3, .int (nI (if g = true then 1 else 0))), (2, .int (nI s)), (0, .ref 1), (1, .int (nI b))] [] (bHp (zdn g (zcr w b) (387 + (s + 1)) (zI w 7 - 1 - s)) sv qo qm ql co sx T) x 0 0 := by
    have e6 : zdn g (zcr w b) (387 + (s + 1)) (zI w 7 - 1 - s) 6 - nI 1 = nI (zI w 6 - 1) := by rw [zdn_at _ _ (by omega), zc 6 (by omega), I.iM.1, nI_1s (by omega)]
    cases hgg : g with
    | true =>
      rw [hgg] at e6
      have e7 : upd (zdn true (zcr w b) (387 + (s + 1)) (zI w 7 - 1 - s)) 6 (nI (zI w 6 - 1)) 7 - nI 1 = nI (zI w 7 - 1) := by rw [upd_ne (by decide), zdn_at _ _ (by omega), zc 7 (by omega), I.iK.1, nI_1s (by omega)]
      have ez : zcrush w b = upd (upd (zdn true (zcr w b) (387 + (s + 1)) (zI w 7 - 1 - s)) 6 (nI (zI w 6 - 1))) 7 (nI (zI w 7 - 1)) := by
        unfold zcrush
        rw [← hg0, ← hs0, hgg]
        rfl
      rw [ez]
      refine xw_aload_n 139 dX3_crushBead_138 rfl rfl rfl ?_
      refine xw_dup 140 dX3_crushBead_139 rfl rfl ?_
      refine xw_get 143 dX3_crushBead_140 rfl f_X3_44 (rfl) rfl ?_
      refine xw_iconst 144 (nI 1) dX3_crushBead_143 rfl (xofI 1) ?_
      refine xw_isub 145 dX3_crushBead_144 rfl ?_
      rw [e6]
      refine xw_put 148 dX3_crushBead_145 rfl f_X3_44 (rfl) ⟨rfl, rfl⟩ rfl rfl (bH_o6) ?_
      refine xw_iload_n 149 dX3_crushBead_148 rfl rfl ?_
      refine xw_if_eq 162 152 dX3_crushBead_149 rfl rfl (fun h149 => absurd h149 (by decide)) (fun h149 => ?_)
      refine xw_aload_n 153 dX3_crushBead_152 rfl rfl rfl ?_
      refine xw_dup 154 dX3_crushBead_153 rfl rfl ?_
      refine xw_get 157 dX3_crushBead_154 rfl f_X3_48 (rfl) rfl ?_
      refine xw_iconst 158 (nI 1) dX3_crushBead_157 rfl (xofI 1) ?_
      refine xw_isub 159 dX3_crushBead_158 rfl ?_
      rw [e7]
      refine xw_put 162 dX3_crushBead_159 rfl f_X3_48 (rfl) ⟨rfl, rfl⟩ rfl rfl (bH_o7) ?_
      exact xw_return dX3_crushBead_162 rfl (⟨rfl, rfl⟩)
    | false =>
      rw [hgg] at e6
      have ez : zcrush w b = upd (zdn false (zcr w b) (387 + (s + 1)) (zI w 7 - 1 - s)) 6 (nI (zI w 6 - 1)) := by
        unfold zcrush
        rw [← hg0, ← hs0, hgg]
        rfl
      rw [ez]
      refine xw_aload_n 139 dX3_crushBead_138 rfl rfl rfl ?_
      refine xw_dup 140 dX3_crushBead_139 rfl rfl ?_
      refine xw_get 143 dX3_crushBead_140 rfl f_X3_44 (rfl) rfl ?_
      refine xw_iconst 144 (nI 1) dX3_crushBead_143 rfl (xofI 1) ?_
      refine xw_isub 145 dX3_crushBead_144 rfl ?_
      rw [e6]
      refine xw_put 148 dX3_crushBead_145 rfl f_X3_44 (rfl) ⟨rfl, rfl⟩ rfl rfl (bH_o6) ?_
      refine xw_iload_n 149 dX3_crushBead_148 rfl rfl ?_
      refine xw_if_eq 162 152 dX3_crushBead_149 rfl rfl (fun h149 => ?_) (fun h149 => absurd (by decide) h149)
      exact xw_return dX3_crushBead_162 rfl (⟨rfl, rfl⟩)
  have loop2 : ∀ (t i : Nat), i + t = zI w 7 - 1 - s → xW G W_crushBead (xRet none (bHp (zcrush w b) sv qo qm ql co sx T)) 92 [(4, .int (nI (s + 1 + i))), (3, .int (nI (if g = true then 1 else 0))), (2, .int (nI s)), (0, .ref 1), (1, .int (nI b))] [] (bHp (zdn g (zcr w b) (387 + (s + 1)) i) sv qo qm ql co sx T) x 0 0 := by
    intro t
    induction t with
    | zero =>
      intro i hi
      have e1 : i = zI w 7 - 1 - s := by omega
      have e2 : s + 1 + i = zI w 7 := by omega
      have e7 : zdn g (zcr w b) (387 + (s + 1)) i 7 = nI (zI w 7) := by rw [zdn_at _ _ (by omega), zc 7 (by omega)]; exact I.iK.1
      refine xw_iload 94 dX3_crushBead_92 rfl rfl ?_
      refine xw_aload_n 95 dX3_crushBead_94 rfl rfl rfl ?_
      refine xw_get 98 dX3_crushBead_95 rfl f_X3_48 (rfl) rfl ?_
      rw [e7]
      refine xw_icmp_ge 138 101 dX3_crushBead_98 rfl rfl (fun h98 => ?_) (fun h98 => absurd (nI_le (by omega) (by omega)) h98)
      rw [e2, e1]
      exact ends
    | succ t ih =>
      intro i hi
      have ih := ih (i + 1) (by omega)
      have e7 : zdn g (zcr w b) (387 + (s + 1)) i 7 = nI (zI w 7) := by rw [zdn_at _ _ (by omega), zc 7 (by omega)]; exact I.iK.1
      have ev : zdn g (zcr w b) (387 + (s + 1)) i (387 + (s + 1 + i)) = zcr w b (387 + (s + 1) + i) := by rw [zdn_at _ _ (by omega), Nat.add_assoc 387]
      have hst := zdn_s g (zcr w b) (a := 387 + (s + 1)) (i := i) (by omega)
      cases hgg : g with
      | true =>
        rw [hgg] at hst ev e7 ih
        have e9 : 387 + (s + i) = 387 + (s + 1) + i - 1 := by omega
        have ep : (bHp (upd (zdn true (zcr w b) (387 + (s + 1)) i) (387 + (s + i)) (zcr w b (387 + (s + 1) + i) - nI 1)) sv qo qm ql co sx T) = (bHp (zdn true (zcr w b) (387 + (s + 1)) (i + 1)) sv qo qm ql co sx T) := by rw [e9, ← hst]; rfl
        refine xw_iload 94 dX3_crushBead_92 rfl rfl ?_
        refine xw_aload_n 95 dX3_crushBead_94 rfl rfl rfl ?_
        refine xw_get 98 dX3_crushBead_95 rfl f_X3_48 (rfl) rfl ?_
        rw [e7]
        refine xw_icmp_ge 138 101 dX3_crushBead_98 rfl rfl (fun h98 => absurd h98 (nI_ge (by omega) (by omega))) (fun h98 => ?_)
        refine xw_aload_n 102 dX3_crushBead_101 rfl rfl rfl ?_
        refine xw_get 105 dX3_crushBead_102 rfl f_X3_41 (rfl) rfl ?_
        refine xw_iload_n 106 dX3_crushBead_105 rfl rfl ?_
        refine xw_if_eq 116 109 dX3_crushBead_106 rfl rfl (fun h106 => absurd h106 (by decide)) (fun h106 => ?_)
        refine xw_iload 111 dX3_crushBead_109 rfl rfl ?_
        refine xw_iconst 112 (nI 1) dX3_crushBead_111 rfl (xofI 1) ?_
        refine xw_isub 113 dX3_crushBead_112 rfl ?_
        refine xw_goto 118 dX3_crushBead_113 rfl ?_
        refine xw_aload_n 119 dX3_crushBead_118 rfl rfl rfl ?_
        refine xw_get 122 dX3_crushBead_119 rfl f_X3_41 (rfl) rfl ?_
        refine xw_iload 124 dX3_crushBead_122 rfl rfl ?_
        refine xw_pSN 127 dX3_crushBead_124 rfl ok_B_at s_X3_58 (S_B_ats rfl (by decide) rfl (by omega) ev) (bHp_len) rfl rfl rfl rfl rfl rfl ?_
        refine xw_iconst 128 (nI 1) dX3_crushBead_127 rfl (xofI 1) ?_
        refine xw_isub 129 dX3_crushBead_128 rfl ?_
        refine xw_pSNv 132 dX3_crushBead_129 rfl ok_B_put s_X3_110 (S_B_put (j := s + i) rfl (by decide) (by rw [nI_1s (by omega)]; congr 1; omega) (by omega) ((bH_bg (by omega)).trans ep)) (bHp_len) rfl rfl rfl rfl rfl rfl ?_
        refine xw_iinc (ls' := [(4, _), (3, _), (2, _), (0, _), (1, _)]) 135 _ dX3_crushBead_132 rfl rfl (xnI_inc _) rfl rfl ?_
        refine xw_goto 92 dX3_crushBead_135 rfl ?_
        exact xW.pick [0, 1, 2, 3, 4] rfl (ih)
      | false =>
        rw [hgg] at hst ev e7 ih
        have e9 : 387 + (s + 1 + i) = 387 + (s + 1) + i := by omega
        have ep : (bHp (upd (zdn false (zcr w b) (387 + (s + 1)) i) (387 + (s + 1 + i)) (zcr w b (387 + (s + 1) + i) - nI 1)) sv qo qm ql co sx T) = (bHp (zdn false (zcr w b) (387 + (s + 1)) (i + 1)) sv qo qm ql co sx T) := by rw [e9, ← hst]; rfl
        refine xw_iload 94 dX3_crushBead_92 rfl rfl ?_
        refine xw_aload_n 95 dX3_crushBead_94 rfl rfl rfl ?_
        refine xw_get 98 dX3_crushBead_95 rfl f_X3_48 (rfl) rfl ?_
        rw [e7]
        refine xw_icmp_ge 138 101 dX3_crushBead_98 rfl rfl (fun h98 => absurd h98 (nI_ge (by omega) (by omega))) (fun h98 => ?_)
        refine xw_aload_n 102 dX3_crushBead_101 rfl rfl rfl ?_
        refine xw_get 105 dX3_crushBead_102 rfl f_X3_41 (rfl) rfl ?_
        refine xw_iload_n 106 dX3_crushBead_105 rfl rfl ?_
        refine xw_if_eq 116 109 dX3_crushBead_106 rfl rfl (fun h106 => ?_) (fun h106 => absurd (by decide) h106)
        refine xw_iload 118 dX3_crushBead_116 rfl rfl ?_
        refine xw_aload_n 119 dX3_crushBead_118 rfl rfl rfl ?_
        refine xw_get 122 dX3_crushBead_119 rfl f_X3_41 (rfl) rfl ?_
        refine xw_iload 124 dX3_crushBead_122 rfl rfl ?_
        refine xw_pSN 127 dX3_crushBead_124 rfl ok_B_at s_X3_58 (S_B_ats rfl (by decide) rfl (by omega) ev) (bHp_len) rfl rfl rfl rfl rfl rfl ?_
        refine xw_iconst 128 (nI 1) dX3_crushBead_127 rfl (xofI 1) ?_
        refine xw_isub 129 dX3_crushBead_128 rfl ?_
        refine xw_pSNv 132 dX3_crushBead_129 rfl ok_B_put s_X3_110 (S_B_put (j := s + 1 + i) rfl (by decide) rfl (by omega) ((bH_bg (by omega)).trans ep)) (bHp_len) rfl rfl rfl rfl rfl rfl ?_
        refine xw_iinc (ls' := [(4, _), (3, _), (2, _), (0, _), (1, _)]) 135 _ dX3_crushBead_132 rfl rfl (xnI_inc _) rfl rfl ?_
        refine xw_goto 92 dX3_crushBead_135 rfl ?_
        exact xW.pick [0, 1, 2, 3, 4] rfl (ih)
  have loop1 : ∀ (t i : Nat), i + t = zI w 6 - 1 - b → xW G W_crushBead (xRet none (bHp (zcrush w b) sv qo qm ql co sx T)) 52 [(4, .int (nI (b + 1 + i))), (3, .int (nI (if g = true then 1 else 0))), (2, .int (nI s)), (0, .ref 1), (1, .int (nI b))] [] (bHp (zsh (upd w (21 + zI w (147 + b)) (w (21 + zI w (147 + b)) + nI 1)) (147 + b) i) sv qo qm ql co sx T) x 0 0 := by
    intro t
    induction t with
    | zero =>
      intro i hi
      have e1 : i = zI w 6 - 1 - b := by omega
      have e6 : zsh (upd w (21 + zI w (147 + b)) (w (21 + zI w (147 + b)) + nI 1)) (147 + b) i 6 = nI (zI w 6) := by rw [zsh_at _ (by omega), z1 6 (by omega)]; exact I.iM.1
      refine xw_iload 54 dX3_crushBead_52 rfl rfl ?_
      refine xw_aload_n 55 dX3_crushBead_54 rfl rfl rfl ?_
      refine xw_get 58 dX3_crushBead_55 rfl f_X3_44 (rfl) rfl ?_
      rw [e6]
      refine xw_icmp_ge 87 61 dX3_crushBead_58 rfl rfl (fun h58 => ?_) (fun h58 => absurd (nI_le (by omega) (by omega)) h58)
      refine xw_iload_n 88 dX3_crushBead_87 rfl rfl ?_
      refine xw_iconst 89 (nI 1) dX3_crushBead_88 rfl (xofI 1) ?_
      refine xw_iadd 90 dX3_crushBead_89 rfl ?_
      refine xw_istore (ls' := [(4, _), (3, _), (2, _), (0, _), (1, _)]) 92 dX3_crushBead_90 rfl rfl rfl ?_
      refine xW.cast rfl rfl (show _ = bHp (zdn g (zcr w b) (387 + (s + 1)) 0) sv qo qm ql co sx T from (by rw [zdn_0, e1]; rfl)) ?_
      rw [nI_add]
      exact loop2 (zI w 7 - 1 - s) 0 (by omega)
    | succ t ih =>
      intro i hi
      have ih := ih (i + 1) (by omega)
      have e6 : zsh (upd w (21 + zI w (147 + b)) (w (21 + zI w (147 + b)) + nI 1)) (147 + b) i 6 = nI (zI w 6) := by rw [zsh_at _ (by omega), z1 6 (by omega)]; exact I.iM.1
      have ev : zsh (upd w (21 + zI w (147 + b)) (w (21 + zI w (147 + b)) + nI 1)) (147 + b) i (147 + (b + 1 + i)) = upd w (21 + zI w (147 + b)) (w (21 + zI w (147 + b)) + nI 1) (147 + b + i + 1) := by rw [zsh_at _ (by omega)]; congr 1; omega
      have ep : (bHp (upd (zsh (upd w (21 + zI w (147 + b)) (w (21 + zI w (147 + b)) + nI 1)) (147 + b) i) (147 + (b + i)) (upd w (21 + zI w (147 + b)) (w (21 + zI w (147 + b)) + nI 1) (147 + b + i + 1))) sv qo qm ql co sx T) = (bHp (zsh (upd w (21 + zI w (147 + b)) (w (21 + zI w (147 + b)) + nI 1)) (147 + b) (i + 1)) sv qo qm ql co sx T) := by rw [← Nat.add_assoc 147 b i, zsh_s]
      refine xw_iload 54 dX3_crushBead_52 rfl rfl ?_
      refine xw_aload_n 55 dX3_crushBead_54 rfl rfl rfl ?_
      refine xw_get 58 dX3_crushBead_55 rfl f_X3_44 (rfl) rfl ?_
      rw [e6]
      refine xw_icmp_ge 87 61 dX3_crushBead_58 rfl rfl (fun h58 => absurd h58 (nI_ge (by omega) (by omega))) (fun h58 => ?_)
      refine xw_aload_n 62 dX3_crushBead_61 rfl rfl rfl ?_
      refine xw_get 65 dX3_crushBead_62 rfl f_X3_38 (rfl) rfl ?_
      refine xw_iload 67 dX3_crushBead_65 rfl rfl ?_
      refine xw_iconst 68 (nI 1) dX3_crushBead_67 rfl (xofI 1) ?_
      refine xw_isub 69 dX3_crushBead_68 rfl ?_
      refine xw_aload_n 70 dX3_crushBead_69 rfl rfl rfl ?_
      refine xw_get 73 dX3_crushBead_70 rfl f_X3_38 (rfl) rfl ?_
      refine xw_iload 75 dX3_crushBead_73 rfl rfl ?_
      refine xw_pSN 78 dX3_crushBead_75 rfl ok_B_at s_X3_58 (S_B_ats rfl (by decide) rfl (by omega) ev) (bHp_len) rfl rfl rfl rfl rfl rfl ?_
      refine xw_pSNv 81 dX3_crushBead_78 rfl ok_B_put s_X3_110 (S_B_put (j := b + i) rfl (by decide) (by rw [nI_1s (by omega)]; congr 1; omega) (by omega) ((bH_be (by omega)).trans ep)) (bHp_len) rfl rfl rfl rfl rfl rfl ?_
      refine xw_iinc (ls' := [(4, _), (3, _), (2, _), (0, _), (1, _)]) 84 _ dX3_crushBead_81 rfl rfl (xnI_inc _) rfl rfl ?_
      refine xw_goto 52 dX3_crushBead_84 rfl ?_
      exact xW.pick [0, 1, 2, 3, 4] rfl (ih)
  have rest : xW G W_crushBead (xRet none (bHp (zcrush w b) sv qo qm ql co sx T)) 30 [(2, .int (nI s)), (0, .ref 1), (1, .int (nI b))] [.int (nI (if g = true then 1 else 0))] (bHp w sv qo qm ql co sx T) x 0 0 := by
    refine xw_istore_n (ls' := [(3, _), (2, _), (0, _), (1, _)]) 31 dX3_crushBead_30 rfl rfl rfl ?_
    refine xw_aload_n 32 dX3_crushBead_31 rfl rfl rfl ?_
    refine xw_get 35 dX3_crushBead_32 rfl f_X3_35 (rfl) rfl ?_
    refine xw_aload_n 36 dX3_crushBead_35 rfl rfl rfl ?_
    refine xw_get 39 dX3_crushBead_36 rfl f_X3_38 (rfl) rfl ?_
    refine xw_iload_n 40 dX3_crushBead_39 rfl rfl ?_
    refine xw_pSN 43 dX3_crushBead_40 rfl ok_B_at s_X3_58 (S_B_ats rfl (by decide) rfl (by omega) hcb.1) (bHp_len) rfl rfl rfl rfl rfl rfl ?_
    refine xw_iconst 44 (nI 1) dX3_crushBead_43 rfl (xofI 1) ?_
    refine xw_pSNv 47 dX3_crushBead_44 rfl ok_B_add s_X3_114 (S_B_add (j := zI w (147 + b)) rfl (by decide) rfl (by omega) ((by rw [xsl_at (by omega)]; exact bH_cr (by omega) : _ = bHp (upd w (21 + zI w (147 + b)) (w (21 + zI w (147 + b)) + nI 1)) sv qo qm ql co sx T))) (bHp_len) rfl rfl rfl rfl rfl rfl ?_
    refine xw_iload_n 48 dX3_crushBead_47 rfl rfl ?_
    refine xw_iconst 49 (nI 1) dX3_crushBead_48 rfl (xofI 1) ?_
    refine xw_iadd 50 dX3_crushBead_49 rfl ?_
    refine xw_istore (ls' := [(4, _), (3, _), (2, _), (0, _), (1, _)]) 52 dX3_crushBead_50 rfl rfl rfl ?_
    rw [nI_add]
    refine xW.cast rfl rfl (by rw [← zsh_0 (upd w (21 + zI w (147 + b)) (w (21 + zI w (147 + b)) + nI 1)) (147 + b)]) ?_
    exact loop1 (zI w 6 - 1 - b) 0 (by omega)
  have hel := I.el (s := s) hs
  have hlen : zlen w s ≤ 240 := by unfold zlen; omega
  have hstr := S_W_stringOf (G := G) (x := x) (bHp_wk (sv := sv) (qo := qo) (qm := qm) (ql := ql) (co := co) (sx := sx) (T := T)) I (b := b) (by omega)
  rw [← hs0] at hstr
  by_cases hl1 : zlen w s = 1
  · by_cases hlt : s + 1 < zI w 7
    · have hgt : g = true := by rw [hg0]; unfold zgo; rw [← hs0]; exact decide_eq_true ⟨hl1, hlt⟩
      rw [hgt] at rest
      refine xw_aload_n 1 dX3_crushBead_0 rfl rfl rfl ?_
      refine xw_iload_n 2 dX3_crushBead_1 rfl rfl ?_
      refine xw_pV 5 dX3_crushBead_2 rfl ok_W_stringOf s_X3_90 (hstr) (bHp_len) (rfl) rfl rfl rfl rfl rfl rfl rfl ?_
      refine xw_istore_n (ls' := [(2, _), (0, _), (1, _)]) 6 dX3_crushBead_5 rfl rfl rfl ?_
      refine xw_aload_n 7 dX3_crushBead_6 rfl rfl rfl ?_
      refine xw_iload_n 8 dX3_crushBead_7 rfl rfl ?_
      refine xw_pV 11 dX3_crushBead_8 rfl ok_W_lengthOf s_X3_87 (S_W_lengthOf bHp_wk I hs) (bHp_len) (rfl) rfl rfl rfl rfl rfl rfl rfl ?_
      refine xw_iconst 12 (nI 1) dX3_crushBead_11 rfl (xofI 1) ?_
      refine xw_icmp_ne 29 15 dX3_crushBead_12 rfl rfl (fun h12 => absurd (by rw [hl1]) h12) (fun h12 => ?_)
      refine xw_iload_n 16 dX3_crushBead_15 rfl rfl ?_
      refine xw_aload_n 17 dX3_crushBead_16 rfl rfl rfl ?_
      refine xw_get 20 dX3_crushBead_17 rfl f_X3_48 (rfl) rfl ?_
      refine xw_iconst 21 (nI 1) dX3_crushBead_20 rfl (xofI 1) ?_
      refine xw_isub 22 dX3_crushBead_21 rfl ?_
      rw [I.iK.1, nI_1s (by omega)]
      refine xw_icmp_ge 29 25 dX3_crushBead_22 rfl rfl (fun h22 => absurd h22 (nI_ge (by omega) (by omega))) (fun h22 => ?_)
      refine xw_iconst 26 (nI 1) dX3_crushBead_25 rfl (xofI 1) ?_
      refine xw_goto 30 dX3_crushBead_26 rfl ?_
      exact rest
    · have hgt : g = false := by rw [hg0]; unfold zgo; rw [← hs0]; exact decide_eq_false (fun q => hlt q.2)
      rw [hgt] at rest
      refine xw_aload_n 1 dX3_crushBead_0 rfl rfl rfl ?_
      refine xw_iload_n 2 dX3_crushBead_1 rfl rfl ?_
      refine xw_pV 5 dX3_crushBead_2 rfl ok_W_stringOf s_X3_90 (hstr) (bHp_len) (rfl) rfl rfl rfl rfl rfl rfl rfl ?_
      refine xw_istore_n (ls' := [(2, _), (0, _), (1, _)]) 6 dX3_crushBead_5 rfl rfl rfl ?_
      refine xw_aload_n 7 dX3_crushBead_6 rfl rfl rfl ?_
      refine xw_iload_n 8 dX3_crushBead_7 rfl rfl ?_
      refine xw_pV 11 dX3_crushBead_8 rfl ok_W_lengthOf s_X3_87 (S_W_lengthOf bHp_wk I hs) (bHp_len) (rfl) rfl rfl rfl rfl rfl rfl rfl ?_
      refine xw_iconst 12 (nI 1) dX3_crushBead_11 rfl (xofI 1) ?_
      refine xw_icmp_ne 29 15 dX3_crushBead_12 rfl rfl (fun h12 => absurd (by rw [hl1]) h12) (fun h12 => ?_)
      refine xw_iload_n 16 dX3_crushBead_15 rfl rfl ?_
      refine xw_aload_n 17 dX3_crushBead_16 rfl rfl rfl ?_
      refine xw_get 20 dX3_crushBead_17 rfl f_X3_48 (rfl) rfl ?_
      refine xw_iconst 21 (nI 1) dX3_crushBead_20 rfl (xofI 1) ?_
      refine xw_isub 22 dX3_crushBead_21 rfl ?_
      rw [I.iK.1, nI_1s (by omega)]
      refine xw_icmp_ge 29 25 dX3_crushBead_22 rfl rfl (fun h22 => ?_) (fun h22 => absurd (nI_le (by omega) (by omega)) h22)
      refine xw_iconst 30 (nI 0) dX3_crushBead_29 rfl (xofI 0) ?_
      exact rest
  · have hgt : g = false := by rw [hg0]; unfold zgo; rw [← hs0]; exact decide_eq_false (fun q => hl1 q.1)
    rw [hgt] at rest
    refine xw_aload_n 1 dX3_crushBead_0 rfl rfl rfl ?_
    refine xw_iload_n 2 dX3_crushBead_1 rfl rfl ?_
    refine xw_pV 5 dX3_crushBead_2 rfl ok_W_stringOf s_X3_90 (hstr) (bHp_len) (rfl) rfl rfl rfl rfl rfl rfl rfl ?_
    refine xw_istore_n (ls' := [(2, _), (0, _), (1, _)]) 6 dX3_crushBead_5 rfl rfl rfl ?_
    refine xw_aload_n 7 dX3_crushBead_6 rfl rfl rfl ?_
    refine xw_iload_n 8 dX3_crushBead_7 rfl rfl ?_
    refine xw_pV 11 dX3_crushBead_8 rfl ok_W_lengthOf s_X3_87 (S_W_lengthOf bHp_wk I hs) (bHp_len) (rfl) rfl rfl rfl rfl rfl rfl rfl ?_
    refine xw_iconst 12 (nI 1) dX3_crushBead_11 rfl (xofI 1) ?_
    refine xw_icmp_ne 29 15 dX3_crushBead_12 rfl rfl (fun h12 => ?_) (fun h12 => absurd h12 (fun q => hl1 ((nI_eq (by omega) (by decide)).mp q)))
    refine xw_iconst 30 (nI 0) dX3_crushBead_29 rfl (xofI 0) ?_
    exact rest
end P17b

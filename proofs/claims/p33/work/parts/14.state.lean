/-! ===== the state as one function: 0..3 settings, 4 rows, 5 columns, 6 beads, 7 strings, 8 unpicked, 9 stock, 15 bought, 21 crushed, 27 chart, 147 beads, 387 begins ===== -/
def zI (z : Nat → Int32) (i : Nat) : Nat := (z i).toNatClampNeg
def xnn (z : Nat → Int32) (i lo hi : Nat) : Prop := z i = nI (zI z i) ∧ lo ≤ zI z i ∧ zI z i ≤ hi
def xInv (z : Nat → Int32) : Prop :=
  xnn z 0 3 15 ∧ xnn z 1 0 11 ∧ xnn z 2 5 240 ∧ xnn z 3 0 5 ∧ xnn z 4 1 10 ∧ xnn z 5 1 12 ∧ xnn z 6 0 240 ∧ xnn z 7 1 48 ∧
  (∀ k, k < zI z 7 → xnn z (387 + k) 0 (zI z 6)) ∧ zI z 387 = 0 ∧ (∀ k, k + 1 < zI z 7 → zI z (387 + k) ≤ zI z (387 + (k + 1))) ∧
  (∀ k, k < zI z 6 → xnn z (147 + k) 0 5) ∧ (∀ r c, r < zI z 4 → c < zI z 5 → xnn z (27 + (r * 12 + c)) 0 5)
theorem xInv.iA {z : Nat → Int32} (h : xInv z) : xnn z 0 3 15 := h.1
theorem xInv.iS {z : Nat → Int32} (h : xInv z) : xnn z 1 0 11 := h.2.1
theorem xInv.iH {z : Nat → Int32} (h : xInv z) : xnn z 2 5 240 := h.2.2.1
theorem xInv.iD {z : Nat → Int32} (h : xInv z) : xnn z 3 0 5 := h.2.2.2.1
theorem xInv.iR {z : Nat → Int32} (h : xInv z) : xnn z 4 1 10 := h.2.2.2.2.1
theorem xInv.iC {z : Nat → Int32} (h : xInv z) : xnn z 5 1 12 := h.2.2.2.2.2.1
theorem xInv.iM {z : Nat → Int32} (h : xInv z) : xnn z 6 0 240 := h.2.2.2.2.2.2.1
theorem xInv.iK {z : Nat → Int32} (h : xInv z) : xnn z 7 1 48 := h.2.2.2.2.2.2.2.1
theorem xInv.iB {z : Nat → Int32} (h : xInv z) : ∀ k, k < zI z 7 → xnn z (387 + k) 0 (zI z 6) := h.2.2.2.2.2.2.2.2.1
theorem xInv.i0 {z : Nat → Int32} (h : xInv z) : zI z 387 = 0 := h.2.2.2.2.2.2.2.2.2.1
theorem xInv.im {z : Nat → Int32} (h : xInv z) : ∀ k, k + 1 < zI z 7 → zI z (387 + k) ≤ zI z (387 + (k + 1)) := h.2.2.2.2.2.2.2.2.2.2.1
theorem xInv.ib {z : Nat → Int32} (h : xInv z) : ∀ k, k < zI z 6 → xnn z (147 + k) 0 5 := h.2.2.2.2.2.2.2.2.2.2.2.1
theorem xInv.ic {z : Nat → Int32} (h : xInv z) : ∀ r c, r < zI z 4 → c < zI z 5 → xnn z (27 + (r * 12 + c)) 0 5 := h.2.2.2.2.2.2.2.2.2.2.2.2
/-- the pattern's colour for the bead n -/
def pcol (z : Nat → Int32) (n : Nat) : Int32 := z (27 + xpl (zI z 0) (zI z 1) (zI z 4) (zI z 5) n)
theorem xInv.pl {z : Nat → Int32} (h : xInv z) (n : Nat) : xpl (zI z 0) (zI z 1) (zI z 4) (zI z 5) n < 120 := xpl_lt h.iR.2.1 h.iR.2.2 h.iC.2.1 h.iC.2.2
theorem xInv.pc {z : Nat → Int32} (h : xInv z) (n : Nat) : ∃ c, c < 6 ∧ pcol z n = nI c := by
  have hR := h.iR.2.1
  have hC := h.iC.2.1
  have a := Nat.mod_lt (n / zI z 0) (show zI z 4 > 0 from hR)
  have b := Nat.mod_lt (n % zI z 0 + zI z 1 * (n / zI z 0)) (show zI z 5 > 0 from hC)
  obtain ⟨e1, e2, e3⟩ := h.ic _ _ a b
  exact ⟨_, Nat.lt_succ_of_le e3, e1⟩
/-- the bead n is wrong -/
def zwr (z : Nat → Int32) (n : Nat) : Bool := decide (z (147 + n) ≠ pcol z n)
/-- how many k from b on, below e, have p -/
def xctr (p : Nat → Bool) (b e : Nat) : Nat := xct (fun k => p (b + k)) (e - b)
def xdown (p : Nat → Bool) : Nat → Nat
  | 0 => 0
  | k + 1 => if p (k + 1) = true then k + 1 else xdown p k
theorem xdown_le (p : Nat → Bool) : ∀ k, xdown p k ≤ k
  | 0 => Nat.le_refl _
  | k + 1 => by
    have := xdown_le p k
    unfold xdown
    split <;> omega
/-- the string of the bead n -/
def zstr (z : Nat → Int32) (n : Nat) : Nat := xdown (fun s => decide (zI z (387 + s) ≤ n)) (zI z 7 - 1)
def zend (z : Nat → Int32) (s : Nat) : Nat := if s + 1 < zI z 7 then zI z (387 + (s + 1)) else zI z 6
def zlen (z : Nat → Int32) (s : Nat) : Nat := zend z s - zI z (387 + s)
def zhid (z : Nat → Int32) (s : Nat) : Bool := decide (pcol z (zI z (387 + s)) = z 3)
theorem xInv.str {z : Nat → Int32} (h : xInv z) (n : Nat) : zstr z n < zI z 7 := by
  have h1 := xdown_le (fun s => decide (zI z (387 + s) ≤ n)) (zI z 7 - 1)
  have h2 := h.iK.2.1
  unfold zstr
  omega
theorem xInv.el {z : Nat → Int32} (h : xInv z) {s : Nat} (hs : s < zI z 7) : zI z (387 + s) ≤ zend z s ∧ zend z s ≤ zI z 6 := by
  unfold zend
  have h1 := (h.iB s hs).2.2
  by_cases h2 : s + 1 < zI z 7
  · rw [if_pos h2]
    exact ⟨h.im s h2, (h.iB (s + 1) h2).2.2⟩
  · rw [if_neg h2]
    exact ⟨h1, Nat.le_refl _⟩
/-- a bead's numbers -/
def zbead (z : Nat → Int32) (b what : Nat) : Int32 :=
  if what = 0 then z (147 + b) else if what = 1 then nI (if zwr z b = true then 1 else 0) else if what = 2 then nI (zstr z b) else nI b - z (387 + zstr z b)
/-- a string's numbers -/
def zstrand (z : Nat → Int32) (s what : Nat) : Int32 :=
  if what = 0 then z (387 + s) else if what = 1 then nI (zlen z s) else if what = 2 then (if s = 0 then -1 else nI (if zhid z s = true then 1 else 0)) else nI (xctr (zwr z) (zI z (387 + s)) (zend z s))
/-- a colour's numbers -/
def zcolour (z : Nat → Int32) (c what : Nat) : Int32 :=
  if what = 0 then z (9 + c) else if what = 1 then z (15 + c) else if what = 2 then nI (xocc (fun k => z (147 + k)) (nI c) (zI z 6)) else if what = 3 then z (21 + c) else
  if what = 4 then nI (xct2 (fun r d => decide (z (27 + (r * 12 + d)) = nI c)) (zI z 5) (zI z 4)) else nI (xct (fun n => decide (z (147 + n) = nI c) && zwr z n) (zI z 6))
def zopen (z : Nat → Int32) : Nat := xct (fun i => !zhid z (i + 1)) (zI z 7 - 1)
/-- a part of the state as a row -/
def xsl (w : Nat → Int32) (o n : Nat) : Nat → Int32 := fun k => if k < n then w (o + k) else 0
theorem xsl_at {w : Nat → Int32} {o n k : Nat} (h : k < n) : xsl w o n k = w (o + k) := if_pos h
theorem xsl_in {w : Nat → Int32} {o n j : Nat} {v : Int32} (h : j < n) : upd (xsl w o n) j v = xsl (upd w (o + j) v) o n := by
  funext k
  simp only [upd, xsl]
  by_cases hk : k = j
  · subst hk; rw [if_pos rfl, if_pos h, if_pos rfl]
  · rw [if_neg hk]
    by_cases hn : k < n
    · rw [if_pos hn, if_pos hn, if_neg (by omega)]
    · rw [if_neg hn, if_neg hn]
theorem xsl_out {w : Nat → Int32} {o n i : Nat} {v : Int32} (h : i < o ∨ o + n ≤ i) : xsl (upd w i v) o n = xsl w o n := by
  funext k
  simp only [upd, xsl]
  by_cases hn : k < n
  · rw [if_pos hn, if_pos hn, if_neg (by omega)]
  · rw [if_neg hn, if_neg hn]
theorem xsl_mix {w w' : Nat → Int32} {o n : Nat} : xmix (xsl w o n) (xsl w' o n) n = xsl w o n := by
  funext k
  simp only [xmix, xsl]
  by_cases hn : k < n
  · rw [if_pos hn, if_pos hn]
  · rw [if_neg hn, if_neg hn, if_neg hn]
theorem xocc_congr {f g : Nat → Int32} {v : Int32} {n : Nat} (h : ∀ k, k < n → f k = g k) : xocc f v n = xocc g v n := by
  induction n with
  | zero => rfl
  | succ n ih =>
    unfold xocc
    rw [ih (fun k hk => h k (by omega)), h n (by omega)]
/-- a Work at the place p, with its own things behind it -/
def bWk (p : Nat) (w : Nat → Int32) (T : List xE) : List xE :=
  .inr (3, [.ref (p + 1), .ref (p + 3), .ref (p + 4), .ref (p + 5), .ref (p + 6), .ref (p + 7), .ref (p + 8), .int (w 6), .int (w 7), .int (w 8)]) :: .inr (0, [.ref (p + 2), .int (w 4), .int (w 5)]) :: .inl (0, 120, .inl (xsl w 27 120)) ::
  .inl (0, 4, .inl (xsl w 0 4)) :: .inl (0, 6, .inl (xsl w 9 6)) :: .inl (0, 6, .inl (xsl w 15 6)) :: .inl (0, 6, .inl (xsl w 21 6)) :: .inl (0, 240, .inl (xsl w 147 240)) :: .inl (0, 48, .inl (xsl w 387 48)) :: T
def xWk (hp : List xE) (p : Nat) (w : Nat → Int32) : Prop :=
  hp[p]? = some (.inr (3, [.ref (p + 1), .ref (p + 3), .ref (p + 4), .ref (p + 5), .ref (p + 6), .ref (p + 7), .ref (p + 8), .int (w 6), .int (w 7), .int (w 8)])) ∧ hp[p + 1]? = some (.inr (0, [.ref (p + 2), .int (w 4), .int (w 5)])) ∧
  hp[p + 2]? = some (.inl (0, 120, .inl (xsl w 27 120))) ∧ hp[p + 3]? = some (.inl (0, 4, .inl (xsl w 0 4))) ∧ hp[p + 4]? = some (.inl (0, 6, .inl (xsl w 9 6))) ∧ hp[p + 5]? = some (.inl (0, 6, .inl (xsl w 15 6))) ∧
  hp[p + 6]? = some (.inl (0, 6, .inl (xsl w 21 6))) ∧ hp[p + 7]? = some (.inl (0, 240, .inl (xsl w 147 240))) ∧ hp[p + 8]? = some (.inl (0, 48, .inl (xsl w 387 48)))
theorem xWk.o {hp : List xE} {p : Nat} {w : Nat → Int32} (W : xWk hp p w) : hp[p]? = some (.inr (3, [.ref (p + 1), .ref (p + 3), .ref (p + 4), .ref (p + 5), .ref (p + 6), .ref (p + 7), .ref (p + 8), .int (w 6), .int (w 7), .int (w 8)])) := W.1
theorem xWk.ch {hp : List xE} {p : Nat} {w : Nat → Int32} (W : xWk hp p w) : hp[p + 1]? = some (.inr (0, [.ref (p + 2), .int (w 4), .int (w 5)])) := W.2.1
theorem xWk.ce {hp : List xE} {p : Nat} {w : Nat → Int32} (W : xWk hp p w) : hp[p + 2]? = some (.inl (0, 120, .inl (xsl w 27 120))) := W.2.2.1
theorem xWk.se {hp : List xE} {p : Nat} {w : Nat → Int32} (W : xWk hp p w) : hp[p + 3]? = some (.inl (0, 4, .inl (xsl w 0 4))) := W.2.2.2.1
theorem xWk.st {hp : List xE} {p : Nat} {w : Nat → Int32} (W : xWk hp p w) : hp[p + 4]? = some (.inl (0, 6, .inl (xsl w 9 6))) := W.2.2.2.2.1
theorem xWk.bo {hp : List xE} {p : Nat} {w : Nat → Int32} (W : xWk hp p w) : hp[p + 5]? = some (.inl (0, 6, .inl (xsl w 15 6))) := W.2.2.2.2.2.1
theorem xWk.cr {hp : List xE} {p : Nat} {w : Nat → Int32} (W : xWk hp p w) : hp[p + 6]? = some (.inl (0, 6, .inl (xsl w 21 6))) := W.2.2.2.2.2.2.1
theorem xWk.be {hp : List xE} {p : Nat} {w : Nat → Int32} (W : xWk hp p w) : hp[p + 7]? = some (.inl (0, 240, .inl (xsl w 147 240))) := W.2.2.2.2.2.2.2.1
theorem xWk.bg {hp : List xE} {p : Nat} {w : Nat → Int32} (W : xWk hp p w) : hp[p + 8]? = some (.inl (0, 48, .inl (xsl w 387 48))) := W.2.2.2.2.2.2.2.2
theorem xWk.cc {hp : List xE} {p : Nat} {w : Nat → Int32} (W : xWk hp p w) (h : xInv w) : hp[p + 1]? = some (.inr (0, [.ref (p + 2), .int (nI (zI w 4)), .int (nI (zI w 5))])) := by
  have h1 := W.ch
  rw [h.iR.1, h.iC.1] at h1
  exact h1
theorem S_B_atv {G : xG} {hp : List xE} {x : Nat} {k n j : Nat} {f : Nat → Int32} {i v : Int32} (hk : hp[k]? = some (.inl (0, n, .inl f))) (hn : n < 2 ^ 31) (hi : i = nI j) (hj : j < n) (hv : f j = v) : xMet G B_at [.ref k, .int i] hp x 0 0 (xRetV (.int v) hp) := by
  subst hv
  exact S_B_at hk hn hi hj
theorem S_B_ats {G : xG} {hp : List xE} {x : Nat} {k n j o : Nat} {w : Nat → Int32} {i v : Int32} (hk : hp[k]? = some (.inl (0, n, .inl (xsl w o n)))) (hn : n < 2 ^ 31) (hi : i = nI j) (hj : j < n) (hv : w (o + j) = v) : xMet G B_at [.ref k, .int i] hp x 0 0 (xRetV (.int v) hp) :=
  S_B_atv hk hn hi hj ((xsl_at hj).trans hv)
theorem xcast_v {G : xG} {Y : xM} {args : List Value} {hp h1 : List xE} {x kc ks : Nat} {v v' : Value} (h : xMet G Y args hp x kc ks (xRetV v h1)) (e : v = v') : xMet G Y args hp x kc ks (xRetV v' h1) := by subst e; exact h


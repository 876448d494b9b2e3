/-! ===== two states that tell the same: digests, ops ===== -/
theorem hfo_congr {f g : Nat → Int32} {h : Int64} : ∀ {n : Nat}, (∀ k, k < n → f k = g k) → hfo f n h = hfo g n h
  | 0, _ => rfl
  | n + 1, e => by
    unfold hfo
    rw [hfo_congr (n := n) (fun k hk => e k (by omega)), e n (by omega)]
theorem hfo2_congr {f g : Nat → Nat → Int32} {C : Nat} {h : Int64} : ∀ {n : Nat}, (∀ r c, r < n → c < C → f r c = g r c) → hfo2 f C n h = hfo2 g C n h
  | 0, _ => rfl
  | n + 1, e => by
    unfold hfo2
    rw [hfo2_congr (n := n) (fun r c hr hc => e r c (by omega) hc), hfo_congr (f := f n) (g := g n) (fun k hk => e n k (by omega) hk)]
theorem zmin_congr {f g : Nat → Nat} {b : Int32} {l : Nat} : ∀ {n : Nat}, (∀ k, k < n → f k = g k) → zmin f b l n = zmin g b l n
  | 0, _ => rfl
  | n + 1, e => by
    unfold zmin
    rw [zmin_congr (n := n) (fun k hk => e k (by omega)), e n (by omega)]
section P29
variable {w z : Nat → Int32}
theorem xag.wn (A : xag w z) (I : xInv z) (S : Nat) : zwb w (fun k => w (27 + k)) (zI w 4) (zI w 5) S = zwb z (fun k => z (27 + k)) (zI z 4) (zI z 5) S := by
  rw [A.i (show 4 < 27 by decide), A.i (show 5 < 27 by decide)]
  exact A.wb I.iR.2.1 I.iC.2.1 I.iC.2.2 (fun r c hr hc => A.2.1 r c hr hc)
theorem xag.sl (A : xag w z) (I : xInv z) : zslant w = zslant z := by
  unfold zslant
  rw [zmin_congr (g := fun s => zwb z (fun k => z (27 + k)) (zI z 4) (zI z 5) s) (fun k _ => A.wn I k)]
theorem xag.tf (A : xag w z) (I : xInv z) {k : Nat} (hk : k < 5) : zturnf w k = zturnf z k := by
  obtain ⟨R1, R2, R3⟩ := I.iR
  obtain ⟨C1, C2, C3⟩ := I.iC
  have e4 := A.i (show 4 < 27 by decide)
  have e5 := A.i (show 5 < 27 by decide)
  have e1 := A.i (show 1 < 27 by decide)
  have er : zTR w k = zTR z k := by unfold zTR; rw [e4, e5]
  have ec : zTC w k = zTC z k := by unfold zTC; rw [e4, e5]
  unfold zturnf
  rw [e5, e1, er, ec]
  by_cases h : k ≠ 4 ∨ zI z 5 ≤ 10
  · rw [if_pos h, if_pos h]
    refine A.wb (by unfold zTR; split <;> omega) (by unfold zTC; split <;> omega) (by unfold zTC; split <;> omega) (fun r c hr hc => ?_)
    have hc12 : c < 12 := by
      have : zTC z k ≤ 12 := by unfold zTC; split <;> omega
      omega
    unfold zT
    rw [e4, e5, show (r * 12 + c) / 12 = r by omega, show (r * 12 + c) % 12 = c by omega]
    exact xtc_congr (fun r c hr hc => A.2.1 r c hr hc) hk hr hc
  · rw [if_neg h, if_neg h]
theorem xag.tb (A : xag w z) (I : xInv z) : zturnb w = zturnb z := by
  have e1 := A.i (show 1 < 27 by decide)
  unfold zturnb
  rw [e1, A.wn I, zmin_congr (g := zturnf z) (fun k hk => A.tf I hk)]
theorem xag.sh (A : xag w z) (I : xInv z) : zshare w = zshare z := by
  unfold zshare
  rw [A.i (show 6 < 27 by decide), xctr_congr (p := zwr w) (q := zwr z) (fun n _ hn => A.wr I hn)]
theorem xag.cl (A : xag w z) (I : xInv z) (h : Int64) : ∀ n, n ≤ 6 → hcol w n h = hcol z n h
  | 0, _ => rfl
  | n + 1, hn => by
    unfold hcol
    rw [A.cl I h n (by omega), A.ne I, hfo_congr (f := zcolour w n) (g := zcolour z n) (fun k _ => A.co I (by omega) k)]
theorem xag.d1 (A : xag w z) (I : xInv z) (many : Int32) : hdig1 w many = hdig1 z many := by
  have e : hpla w = hpla z := by
    funext h
    unfold hpla
    rw [A.pla I, hfo_congr (f := fun s => zplan w 120 (some s)) (g := fun s => zplan z 120 (some s)) (fun k _ => A.pla I 120 (some k))]
  unfold hdig1
  rw [e, A.fw I, A.sl I, A.tb I, A.i (show 4 < 27 by decide), A.i (show 5 < 27 by decide), A.i (show 6 < 27 by decide), A.i (show 7 < 27 by decide), A.ke I _ (Nat.le_refl _), hfo_congr (f := znum w many) (g := znum z many) (fun k _ => A.nu I many k), hfo_congr (f := fun k => w k) (g := fun k => z k) (fun k hk => A.1 k (by omega)),
    hfo2_congr (f := fun r c => w (27 + (r * 12 + c))) (g := fun r c => z (27 + (r * 12 + c))) (fun r c hr hc => A.2.1 r c hr hc), A.cl I _ 6 (Nat.le_refl _), hfo2_congr (f := fun b k => zbead w b k) (g := fun b k => zbead z b k) (fun b k hb _ => A.be I hb k), hfo2_congr (f := fun b k => zstrand w b k) (g := fun b k => zstrand z b k) (fun b k hb _ => A.sn I hb k)]
theorem xag.dig (A : xag w z) (I : xInv z) (many : Int32) (co : Nat → Int32) (ln : Nat) : hdig w many co ln = hdig z many co ln := by
  unfold hdig
  rw [A.d1 I, A.sh I]
theorem xall_congr {p q : Nat → Bool} : ∀ {n : Nat}, (∀ k, k < n → p k = q k) → xall p n = xall q n
  | 0, _ => rfl
  | n + 1, e => by
    unfold xall
    rw [xall_congr (n := n) (fun k hk => e k (by omega)), e n (by omega)]
theorem xag.can (A : xag w z) (I : xInv z) (occ : Nat → Nat) (m : Nat) : zcan w occ m = zcan z occ m := by
  have h7 := I.iK.2.1
  unfold zcan
  rw [A.i (show 6 < 27 by decide), A.i (show 7 < 27 by decide), A.len (by omega), A.1 2 (by decide), xall_congr (p := fun c => decide (nI (occ c) ≤ w (9 + c))) (q := fun c => decide (nI (occ c) ≤ z (9 + c))) (fun c hc => by rw [A.1 (9 + c) (by omega)])]
end P29

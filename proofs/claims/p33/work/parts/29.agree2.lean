/-! ===== two states that tell the same: digests, ops ===== -/
theorem hfo_congr {f g : Nat → Int32} {h : Int64} : ∀ {n : Nat}, (∀ k, k < n → f k = g k) → hfo f n h = hfo g n h
  | 0, _ => rfl
  | n + 1, e => by
    unfold hfo
    rw [hfo_congr (n := n) (fun k hk => e k (by omega)), e n (by omega)]
theorem hfo2_congr {f g : Nat → Nat → Int32} {C : Nat} {h : Int64} : ∀ {n : Nat}, (∀ r c, r < n → c < C → f r c = g r c) → hfo2 f C n h = hfo2 g C n h
  | 0, _ => rfl
  | n + 1, e => by
    unfold hfo2
    rw [hfo2_congr (n := n) (fun r c hr hc => e r c (by omega) hc), hfo_congr (f := f n) (g := g n) (fun k hk => e n k (by omega) hk)]
section P29
variable {w z : Nat → Int32}
theorem xag.cl (A : xag w z) (I : xInv z) (h : Int64) : ∀ n, n ≤ 6 → hcol w n h = hcol z n h
  | 0, _ => rfl
  | n + 1, hn => by
    unfold hcol
    rw [A.cl I h n (by omega), A.ne I, hfo_congr (f := zcolour w n) (g := zcolour z n) (fun k _ => A.co I (by omega) k)]
theorem xall_congr {p q : Nat → Bool} : ∀ {n : Nat}, (∀ k, k < n → p k = q k) → xall p n = xall q n
  | 0, _ => rfl
  | n + 1, e => by
    unfold xall
    rw [xall_congr (n := n) (fun k hk => e k (by omega)), e n (by omega)]
theorem xag.can (A : xag w z) (I : xInv z) (occ : Nat → Nat) (m : Nat) : zcan w occ m = zcan z occ m := by
  have h7 := I.iK.2.1
  unfold zcan
  rw [A.i (show 6 < 27 by decide), A.i (show 7 < 27 by decide), A.len (by omega), A.1 2 (by decide), xall_congr (p := fun c => decide (nI (occ c) ≤ w (9 + c))) (q := fun c => decide (nI (occ c) ≤ z (9 + c))) (fun c hc => by rw [A.1 (9 + c) (by omega)])]
end P29

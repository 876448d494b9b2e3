/-! ===== two states that tell the same ===== -/
def xag (w z : Nat → Int32) : Prop := (∀ k, k < 27 → w k = z k) ∧ (∀ r c, r < zI z 4 → c < zI z 5 → w (27 + (r * 12 + c)) = z (27 + (r * 12 + c))) ∧ (∀ k, k < zI z 6 → w (147 + k) = z (147 + k)) ∧ (∀ k, k < zI z 7 → w (387 + k) = z (387 + k))
theorem xag_refl (z : Nat → Int32) : xag z z := ⟨fun _ _ => rfl, fun _ _ _ _ => rfl, fun _ _ => rfl, fun _ _ => rfl⟩
section P28
variable {w z : Nat → Int32}
theorem xag.i (A : xag w z) {k : Nat} (h : k < 27) : zI w k = zI z k := by unfold zI; rw [A.1 k h]
theorem xag.bg (A : xag w z) {k : Nat} (h : k < zI z 7) : zI w (387 + k) = zI z (387 + k) := by unfold zI; rw [A.2.2.2 k h]
theorem xag.symm (A : xag w z) : xag z w := by
  have e4 := A.i (show 4 < 27 by decide)
  have e5 := A.i (show 5 < 27 by decide)
  have e6 := A.i (show 6 < 27 by decide)
  have e7 := A.i (show 7 < 27 by decide)
  exact ⟨fun k h => (A.1 k h).symm, fun r c hr hc => (A.2.1 r c (by omega) (by omega)).symm, fun k h => (A.2.2.1 k (by omega)).symm, fun k h => (A.2.2.2 k (by omega)).symm⟩
theorem xag.trans {y : Nat → Int32} (A : xag w z) (B : xag z y) : xag w y := by
  have e4 := B.i (show 4 < 27 by decide)
  have e5 := B.i (show 5 < 27 by decide)
  have e6 := B.i (show 6 < 27 by decide)
  have e7 := B.i (show 7 < 27 by decide)
  exact ⟨fun k h => (A.1 k h).trans (B.1 k h), fun r c hr hc => (A.2.1 r c (by omega) (by omega)).trans (B.2.1 r c hr hc), fun k h => (A.2.2.1 k (by omega)).trans (B.2.2.1 k h), fun k h => (A.2.2.2 k (by omega)).trans (B.2.2.2 k h)⟩
theorem xnn_ag {i lo hi : Nat} (e : w i = z i) (h : xnn z i lo hi) : xnn w i lo hi := by
  unfold xnn zI at *
  rw [e]
  exact h
theorem xag.inv (A : xag w z) (I : xInv z) : xInv w := by
  have e4 := A.i (show 4 < 27 by decide)
  have e5 := A.i (show 5 < 27 by decide)
  have e6 := A.i (show 6 < 27 by decide)
  have e7 := A.i (show 7 < 27 by decide)
  have h7 := I.iK.2.1
  refine ⟨xnn_ag (A.1 0 (by decide)) I.iA, xnn_ag (A.1 1 (by decide)) I.iS, xnn_ag (A.1 2 (by decide)) I.iH, xnn_ag (A.1 3 (by decide)) I.iD, xnn_ag (A.1 4 (by decide)) I.iR, xnn_ag (A.1 5 (by decide)) I.iC, xnn_ag (A.1 6 (by decide)) I.iM, xnn_ag (A.1 7 (by decide)) I.iK, fun k hk => ?_, ?_, fun k hk => ?_, fun k hk => ?_, fun r c hr hc => ?_⟩
  · rw [e6]
    exact xnn_ag (A.2.2.2 k (by omega)) (I.iB k (by omega))
  · rw [A.bg (k := 0) (by omega)]
    exact I.i0
  · rw [A.bg (k := k) (by omega), A.bg (k := k + 1) (by omega)]
    exact I.im k (by omega)
  · exact xnn_ag (A.2.2.1 k (by omega)) (I.ib k (by omega))
  · exact xnn_ag (A.2.1 r c (by omega) (by omega)) (I.ic r c (by omega) (by omega))
theorem xag.pc (A : xag w z) (I : xInv z) (n : Nat) : pcol w n = pcol z n := by
  have h4 := I.iR.2.1
  have h5 := I.iC.2.1
  unfold pcol xpl
  rw [A.i (show 0 < 27 by decide), A.i (show 1 < 27 by decide), A.i (show 4 < 27 by decide), A.i (show 5 < 27 by decide)]
  exact A.2.1 _ _ (Nat.mod_lt _ h4) (Nat.mod_lt _ h5)
theorem xag.wr (A : xag w z) (I : xInv z) {n : Nat} (h : n < zI z 6) : zwr w n = zwr z n := by
  unfold zwr
  rw [A.2.2.1 n h, A.pc I]
theorem xdown_congr {p q : Nat → Bool} : ∀ {k : Nat}, (∀ i, i < k → p (i + 1) = q (i + 1)) → xdown p k = xdown q k
  | 0, _ => rfl
  | k + 1, h => by
    unfold xdown
    rw [h k (by omega), xdown_congr (k := k) (fun i hi => h i (by omega))]
theorem xag.str (A : xag w z) (n : Nat) : zstr w n = zstr z n := by
  unfold zstr
  rw [A.i (show 7 < 27 by decide)]
  exact xdown_congr fun i hi => by rw [A.bg (k := i + 1) (by omega)]
theorem xag.en (A : xag w z) (s : Nat) : zend w s = zend z s := by
  unfold zend
  rw [A.i (show 7 < 27 by decide), A.i (show 6 < 27 by decide)]
  by_cases h : s + 1 < zI z 7
  · rw [if_pos h, if_pos h, A.bg h]
  · rw [if_neg h, if_neg h]
theorem xag.len (A : xag w z) {s : Nat} (h : s < zI z 7) : zlen w s = zlen z s := by
  unfold zlen
  rw [A.en, A.bg h]
theorem xag.hid (A : xag w z) (I : xInv z) {s : Nat} (h : s < zI z 7) : zhid w s = zhid z s := by
  unfold zhid
  rw [A.pc I, A.bg h, A.1 3 (by decide)]
theorem xag.op (A : xag w z) (I : xInv z) : zopen w = zopen z := by
  have h7 := I.iK.2.1
  unfold zopen
  rw [A.i (show 7 < 27 by decide)]
  exact xct_congr fun i hi => by rw [A.hid I (by omega)]
theorem xctr_congr {p q : Nat → Bool} {b e : Nat} (h : ∀ k, b ≤ k → k < e → p k = q k) : xctr p b e = xctr q b e := by
  unfold xctr
  exact xct_congr fun k hk => h _ (by omega) (by omega)
theorem xag.be (A : xag w z) (I : xInv z) {b : Nat} (h : b < zI z 6) (k : Nat) : zbead w b k = zbead z b k := by
  unfold zbead
  rw [A.2.2.1 b h, A.wr I h, A.str, A.2.2.2 _ (I.str b)]
theorem xag.sn (A : xag w z) (I : xInv z) {s : Nat} (h : s < zI z 7) (k : Nat) : zstrand w s k = zstrand z s k := by
  have e := (I.el h).2
  unfold zstrand
  rw [A.2.2.2 s h, A.len h, A.hid I h, A.bg h, A.en, xctr_congr (p := zwr w) (q := zwr z) (fun n _ hn => A.wr I (by omega))]
theorem xag.co (A : xag w z) (I : xInv z) {c : Nat} (h : c < 6) (k : Nat) : zcolour w c k = zcolour z c k := by
  unfold zcolour
  rw [A.1 (9 + c) (by omega), A.1 (15 + c) (by omega), A.1 (21 + c) (by omega), A.i (show 4 < 27 by decide), A.i (show 5 < 27 by decide), A.i (show 6 < 27 by decide), xocc_congr (f := fun k => w (147 + k)) (g := fun k => z (147 + k)) (fun k hk => A.2.2.1 k hk), xct2_congr (fun r d hr hd => by rw [A.2.1 r d hr hd]), xct_congr (p := fun n => decide (w (147 + n) = nI c) && zwr w n) (q := fun n => decide (z (147 + n) = nI c) && zwr z n) (fun n hn => by rw [A.2.2.1 n hn, A.wr I hn])]
theorem xag.ne (A : xag w z) (I : xInv z) (c : Int32) (t : Nat) : xct (fun n => decide (pcol w n = c)) t = xct (fun n => decide (pcol z n = c)) t := xct_congr fun n _ => by rw [A.pc I]
theorem xag.hd (A : xag w z) (I : xInv z) : zhd w = zhd z := by
  funext n
  unfold zhd
  rw [A.pc I, A.1 3 (by decide)]
theorem xag.gr (A : xag w z) (I : xInv z) (T : Nat) : ∀ n b, zgr w T n b = zgr z T n b
  | 0, _ => rfl
  | n + 1, b => by
    unfold zgr
    rw [A.i (show 2 < 27 by decide), A.hd I]
    split
    · cases xlst (zhd z) (b + 1) (zI z 2) with
      | none => rfl
      | some b' => dsimp only; rw [A.gr I T n b']
    · rfl
theorem xag.pla (A : xag w z) (I : xInv z) (T : Nat) (s : Option Nat) : zplan w T s = zplan z T s := by
  unfold zplan
  rw [A.gr I]
theorem xfnd_congr {p q : Nat → Bool} : ∀ {t i : Nat}, (∀ k, i ≤ k → k < i + t → p k = q k) → xfnd p i t = xfnd q i t
  | 0, _, _ => rfl
  | t + 1, i, h => by
    unfold xfnd
    rw [h i (by omega) (by omega), xfnd_congr (t := t) (i := i + 1) (fun k h1 h2 => h k (by omega) (by omega))]
theorem xag.fw (A : xag w z) (I : xInv z) : xfnd (zwr w) 0 (zI w 6) = xfnd (zwr z) 0 (zI z 6) := by
  rw [A.i (show 6 < 27 by decide)]
  exact xfnd_congr fun k _ hk => A.wr I (by omega)
theorem xag.ke (A : xag w z) (I : xInv z) : ∀ n, n ≤ zI z 6 → zkeep w n = zkeep z n
  | 0, _ => rfl
  | n + 1, h => by
    unfold zkeep
    rw [A.ke I n (by omega), A.2.2.1 n (by omega), A.pc I]
theorem xag.pt (A : xag w z) (I : xInv z) (n k : Nat) : zpat w n k = zpat z n k := by
  unfold zpat
  rw [A.pc I, A.i (show 0 < 27 by decide), A.i (show 1 < 27 by decide), A.i (show 4 < 27 by decide), A.i (show 5 < 27 by decide)]
theorem xag.ro (A : xag w z) (I : xInv z) : zroom w = zroom z := by
  have h7 := I.iK.2.1
  unfold zroom
  rw [A.i (show 7 < 27 by decide), A.len (by omega), A.1 2 (by decide)]
theorem xag.nu (A : xag w z) (I : xInv z) (many : Int32) (k : Nat) : znum w many k = znum z many k := by
  unfold znum
  rw [A.1 4 (by decide), A.1 5 (by decide), A.1 6 (by decide), A.1 7 (by decide), A.1 8 (by decide), A.i (show 4 < 27 by decide), A.i (show 5 < 27 by decide), A.i (show 6 < 27 by decide), A.op I, A.ro I, xctr_congr (p := zwr w) (q := zwr z) (fun n _ hn => A.wr I hn), xsum_congr (f := fun k => w (9 + k)) (g := fun k => z (9 + k)) (fun k hk => A.1 _ (by omega)), xsum_congr (f := fun k => w (15 + k)) (g := fun k => z (15 + k)) (fun k hk => A.1 _ (by omega)), xsum_congr (f := fun k => w (21 + k)) (g := fun k => z (21 + k)) (fun k hk => A.1 _ (by omega)), xdiff_congr (f := fun k => w (27 + k)) (g := fun k => z (27 + k)) (fun r c hr hc => A.2.1 r c hr hc)]
end P28

/-! ===== Work: what would be ===== -/
def xoI : Option Nat → Int32
  | none => -1
  | some n => nI n
/-- the last of the t places from f on that has p -/
def xlst (p : Nat → Bool) (f : Nat) : Nat → Option Nat
  | 0 => none
  | t + 1 => if p (f + t) = true then some (f + t) else xlst p f t
theorem xlst_some {p : Nat → Bool} {f : Nat} : ∀ {t n : Nat}, xlst p f t = some n → f ≤ n ∧ n < f + t ∧ p n = true
  | 0, n, h => by cases h
  | t + 1, n, h => by
    unfold xlst at h
    by_cases hp : p (f + t) = true
    · rw [if_pos hp] at h
      cases h
      exact ⟨by omega, by omega, hp⟩
    · rw [if_neg hp] at h
      have := xlst_some h
      exact ⟨this.1, by omega, this.2.2⟩
/-- the first of the t places from i on that has p -/
def xfnd (p : Nat → Bool) : Nat → Nat → Option Nat
  | _, 0 => none
  | i, t + 1 => if p i = true then some i else xfnd p (i + 1) t
/-- a bead's number hides a knot -/
def zhd (z : Nat → Int32) (n : Nat) : Bool := decide (pcol z n = z 3)
/-- where the next strings begin, each as late as it can -/
def zgr (z : Nat → Int32) (T : Nat) : Nat → Nat → Option (List Nat)
  | 0, _ => some []
  | n + 1, b => if b + zI z 2 < T then (match xlst (zhd z) (b + 1) (zI z 2) with | none => none | some b' => (zgr z T n b').map (fun l => b' :: l)) else some []
def zpR (k : Nat) (a : Int32) (s : Option Nat) : Option (List Nat) → Int32
  | none => -1
  | some l => match s with
    | none => nI (k + l.length)
    | some s => if k ≤ s then (match l[s - k]? with | some b => nI b | none => a) else a
def zplan (z : Nat → Int32) (T : Nat) (s : Option Nat) : Int32 := zpR 1 (if s = some 0 then nI 0 else -1) s (zgr z T 240 0)
/-- how many beads would be left -/
def zkeep (z : Nat → Int32) : Nat → Nat
  | 0 => 0
  | n + 1 => if z (147 + n) = pcol z (zkeep z n) then zkeep z n + 1 else zkeep z n
theorem zkeep_le (z : Nat → Int32) : ∀ n, zkeep z n ≤ n
  | 0 => Nat.le_refl _
  | n + 1 => by
    have := zkeep_le z n
    unfold zkeep
    split <;> omega
/-- wrong beads by another chart or slant -/
def zwb (z : Nat → Int32) (f : Nat → Int32) (R C S : Nat) : Nat := xct (fun n => decide (z (147 + n) ≠ f (xpl (zI z 0) S R C n))) (zI z 6)
def xall (p : Nat → Bool) : Nat → Bool
  | 0 => true
  | n + 1 => xall p n && p n
theorem xall_iff {p : Nat → Bool} : ∀ {n : Nat}, xall p n = true ↔ ∀ k, k < n → p k = true
  | 0 => ⟨fun _ k hk => absurd hk (Nat.not_lt_zero k), fun _ => rfl⟩
  | n + 1 => by
    unfold xall
    rw [Bool.and_eq_true, xall_iff]
    constructor
    · intro h k hk
      by_cases e : k = n
      · subst e; exact h.2
      · exact h.1 k (by omega)
    · intro h
      exact ⟨fun k hk => h k (by omega), h n (by omega)⟩
/-- so many beads, with these colours, can be strung -/
def zcan (z : Nat → Int32) (occ : Nat → Nat) (m : Nat) : Bool := decide (zI z 6 + m ≤ 240) && (decide (nI m ≤ z 2 - nI (zlen z (zI z 7 - 1))) && xall (fun c => decide (nI (occ c) ≤ z (9 + c))) 6)
theorem xne_m1 {n : Nat} (h : n < 2 ^ 31) : ¬ nI n = -1 := by
  intro q
  have a := nI_toInt h
  rw [q] at a
  have : ((-1 : Int32)).toInt = -1 := by decide
  omega
section P16
variable {G : xG} {hp : List xE} {x : Nat} {p : Nat} {w : Nat → Int32}
theorem zgr_end {z : Nat → Int32} {T b : Nat} (h : ¬ b + zI z 2 < T) : ∀ n, zgr z T n b = some []
  | 0 => rfl
  | n + 1 => if_neg h
theorem xoI_m1 {s : Option Nat} (hs : ∀ k, s = some k → k < 2 ^ 31) : xoI s = -1 ↔ s = none := by
  cases s with
  | none => simp [xoI]
  | some k => simp [xoI, xne_m1 (hs k rfl)]
theorem S_W_canTake {kf m : Nat} {fr : Nat → Int32} (W : xWk hp p w) (I : xInv w) (hf : hp[kf]? = some (.inl (0, 240, .inl fr))) (hm : m ≤ 100000) : xMet G W_canTake [.ref p, .ref kf, .int (nI m)] hp x 0 0 (xRetV (.int (nI (if zcan w (fun c => xocc fr (nI c) m) m = true then 1 else 0))) hp) := by
  have hM := I.iM.2.2
  have hW := W.o
  rw [I.iM.1] at hW
  by_cases hA : zI w 6 + m ≤ 240
  · by_cases hB : nI m ≤ w 2 - nI (zlen w (zI w 7 - 1))
    · have eq : zcan w (fun c => xocc fr (nI c) m) m = xall (fun c => decide (nI (xocc fr (nI c) m) ≤ w (9 + c))) 6 := by simp [zcan, hA, hB]
      rw [eq]
      have loop : ∀ (t i : Nat), i + t = 6 → (∀ c, c < i → nI (xocc fr (nI c) m) ≤ w (9 + c)) → xW G W_canTake (xRetV (.int (nI (if xall (fun c => decide (nI (xocc fr (nI c) m) ≤ w (9 + c))) 6 = true then 1 else 0))) hp) 24 [(3, .int (nI i)), (0, .ref p), (1, .ref kf), (2, .int (nI m))] [] hp x 0 0 := by
        intro t
        induction t with
        | zero =>
          intro i hi hall
          have e1 : i = 6 := by omega
          subst e1
          rw [if_pos (xall_iff.mpr (fun k hk => decide_eq_true (hall k hk)))]
          refine xw_iload_n 25 dX3_canTake_24 rfl rfl ?_
          refine xw_bipush 27 (nI 6) dX3_canTake_25 rfl (by decide) ?_
          refine xw_icmp_ge 55 30 dX3_canTake_27 rfl rfl (fun h27 => ?_) (fun h27 => absurd (nI_le (by omega) (by omega)) h27)
          refine xw_iconst 56 (nI 1) dX3_canTake_55 rfl (xofI 1) ?_
          exact xw_zreturn dX3_canTake_56 rfl (by decide) (⟨rfl, rfl⟩)
        | succ t ih =>
          intro i hi hall
          by_cases hz : nI (xocc fr (nI i) m) ≤ w (9 + i)
          · have ih := ih (i + 1) (by omega) (fun c hc => by
              by_cases e : c = i
              · subst e; exact hz
              · exact hall c (by omega))
            refine xw_iload_n 25 dX3_canTake_24 rfl rfl ?_
            refine xw_bipush 27 (nI 6) dX3_canTake_25 rfl (by decide) ?_
            refine xw_icmp_ge 55 30 dX3_canTake_27 rfl rfl (fun h27 => absurd h27 (nI_ge (by omega) (by omega))) (fun h27 => ?_)
            refine xw_aload_n 31 dX3_canTake_30 rfl rfl rfl ?_
            refine xw_iload_n 32 dX3_canTake_31 rfl rfl ?_
            refine xw_iload_n 33 dX3_canTake_32 rfl rfl ?_
            refine xw_pSN 36 dX3_canTake_33 rfl ok_B_occurrences s_X3_96 (S_B_occurrences hf (by decide) (by omega)) (rfl) rfl rfl rfl rfl rfl rfl ?_
            refine xw_aload_n 37 dX3_canTake_36 rfl rfl rfl ?_
            refine xw_get 40 dX3_canTake_37 rfl f_X3_29 (W.o) rfl ?_
            refine xw_iload_n 41 dX3_canTake_40 rfl rfl ?_
            refine xw_pSN 44 dX3_canTake_41 rfl ok_B_at s_X3_58 (S_B_ats W.st (by decide) rfl (by omega) rfl) (rfl) rfl rfl rfl rfl rfl rfl ?_
            refine xw_icmp_le 49 47 dX3_canTake_44 rfl rfl (fun h44 => ?_) (fun h44 => absurd (hz) h44)
            refine xw_iinc (ls' := [(3, _), (0, _), (1, _), (2, _)]) 52 _ dX3_canTake_49 rfl rfl (xnI_inc _) rfl rfl ?_
            refine xw_goto 24 dX3_canTake_52 rfl ?_
            exact xW.pick [0, 1, 2, 3] rfl (ih)
          · rw [if_neg (fun q => hz (of_decide_eq_true (xall_iff.mp q i (by omega))))]
            refine xw_iload_n 25 dX3_canTake_24 rfl rfl ?_
            refine xw_bipush 27 (nI 6) dX3_canTake_25 rfl (by decide) ?_
            refine xw_icmp_ge 55 30 dX3_canTake_27 rfl rfl (fun h27 => absurd h27 (nI_ge (by omega) (by omega))) (fun h27 => ?_)
            refine xw_aload_n 31 dX3_canTake_30 rfl rfl rfl ?_
            refine xw_iload_n 32 dX3_canTake_31 rfl rfl ?_
            refine xw_iload_n 33 dX3_canTake_32 rfl rfl ?_
            refine xw_pSN 36 dX3_canTake_33 rfl ok_B_occurrences s_X3_96 (S_B_occurrences hf (by decide) (by omega)) (rfl) rfl rfl rfl rfl rfl rfl ?_
            refine xw_aload_n 37 dX3_canTake_36 rfl rfl rfl ?_
            refine xw_get 40 dX3_canTake_37 rfl f_X3_29 (W.o) rfl ?_
            refine xw_iload_n 41 dX3_canTake_40 rfl rfl ?_
            refine xw_pSN 44 dX3_canTake_41 rfl ok_B_at s_X3_58 (S_B_ats W.st (by decide) rfl (by omega) rfl) (rfl) rfl rfl rfl rfl rfl rfl ?_
            refine xw_icmp_le 49 47 dX3_canTake_44 rfl rfl (fun h44 => absurd h44 (hz)) (fun h44 => ?_)
            refine xw_iconst 48 (nI 0) dX3_canTake_47 rfl (xofI 0) ?_
            exact xw_zreturn dX3_canTake_48 rfl (by decide) (⟨rfl, rfl⟩)
      refine xw_aload_n 1 dX3_canTake_0 rfl rfl rfl ?_
      refine xw_get 4 dX3_canTake_1 rfl f_X3_44 (hW) rfl ?_
      refine xw_iload_n 5 dX3_canTake_4 rfl rfl ?_
      refine xw_iadd 6 dX3_canTake_5 rfl ?_
      refine xw_sipush 9 (nI 240) dX3_canTake_6 rfl (by decide) ?_
      refine xw_icmp_gt 20 12 dX3_canTake_9 rfl rfl (fun h9 => absurd h9 (by rw [nI_add]; exact nI_nlt hA (by omega))) (fun h9 => ?_)
      refine xw_iload_n 13 dX3_canTake_12 rfl rfl ?_
      refine xw_aload_n 14 dX3_canTake_13 rfl rfl rfl ?_
      refine xw_pV 17 dX3_canTake_14 rfl ok_W_room s_X3_106 (S_W_room W I) (rfl) (W.o) rfl rfl rfl rfl rfl rfl rfl ?_
      refine xw_icmp_le 22 20 dX3_canTake_17 rfl rfl (fun h17 => ?_) (fun h17 => absurd (hB) h17)
      refine xw_iconst 23 (nI 0) dX3_canTake_22 rfl (xofI 0) ?_
      refine xw_istore_n (ls' := [(3, _), (0, _), (1, _), (2, _)]) 24 dX3_canTake_23 rfl rfl rfl ?_
      exact loop 6 0 (by omega) (fun c hc => absurd hc (Nat.not_lt_zero c))
    · rw [if_neg (by simp [zcan, hA, hB])]
      refine xw_aload_n 1 dX3_canTake_0 rfl rfl rfl ?_
      refine xw_get 4 dX3_canTake_1 rfl f_X3_44 (hW) rfl ?_
      refine xw_iload_n 5 dX3_canTake_4 rfl rfl ?_
      refine xw_iadd 6 dX3_canTake_5 rfl ?_
      refine xw_sipush 9 (nI 240) dX3_canTake_6 rfl (by decide) ?_
      refine xw_icmp_gt 20 12 dX3_canTake_9 rfl rfl (fun h9 => absurd h9 (by rw [nI_add]; exact nI_nlt hA (by omega))) (fun h9 => ?_)
      refine xw_iload_n 13 dX3_canTake_12 rfl rfl ?_
      refine xw_aload_n 14 dX3_canTake_13 rfl rfl rfl ?_
      refine xw_pV 17 dX3_canTake_14 rfl ok_W_room s_X3_106 (S_W_room W I) (rfl) (W.o) rfl rfl rfl rfl rfl rfl rfl ?_
      refine xw_icmp_le 22 20 dX3_canTake_17 rfl rfl (fun h17 => absurd h17 (hB)) (fun h17 => ?_)
      refine xw_iconst 21 (nI 0) dX3_canTake_20 rfl (xofI 0) ?_
      exact xw_zreturn dX3_canTake_21 rfl (by decide) (⟨rfl, rfl⟩)
  · rw [if_neg (by simp [zcan, hA])]
    refine xw_aload_n 1 dX3_canTake_0 rfl rfl rfl ?_
    refine xw_get 4 dX3_canTake_1 rfl f_X3_44 (hW) rfl ?_
    refine xw_iload_n 5 dX3_canTake_4 rfl rfl ?_
    refine xw_iadd 6 dX3_canTake_5 rfl ?_
    refine xw_sipush 9 (nI 240) dX3_canTake_6 rfl (by decide) ?_
    refine xw_icmp_gt 20 12 dX3_canTake_9 rfl rfl (fun h9 => ?_) (fun h9 => absurd (by rw [nI_add]; exact nI_lt (by omega) (by omega)) h9)
    refine xw_iconst 21 (nI 0) dX3_canTake_20 rfl (xofI 0) ?_
    exact xw_zreturn dX3_canTake_21 rfl (by decide) (⟨rfl, rfl⟩)
end P16

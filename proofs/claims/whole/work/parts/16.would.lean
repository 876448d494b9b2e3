/-! ===== Work: what would be ===== -/
def xoI : Option Nat → Int32
  | none => -1
  | some n => nI n
/-- the last of the t places from f on that has p -/
def xlst (p : Nat → Bool) (f : Nat) : Nat → Option Nat
  | 0 => none
  | t + 1 => if p (f + t) = true then some (f + t) else xlst p f t
theorem xlst_some {p : Nat → Bool} {f : Nat} : ∀ {t n : Nat}, xlst p f t = some n → f ≤ n ∧ n < f + t ∧ p n = true
  | 0, n, h => by cases h
  | t + 1, n, h => by
    unfold xlst at h
    by_cases hp : p (f + t) = true
    · rw [if_pos hp] at h
      cases h
      exact ⟨by omega, by omega, hp⟩
    · rw [if_neg hp] at h
      have := xlst_some h
      exact ⟨this.1, by omega, this.2.2⟩
/-- the first of the t places from i on that has p -/
def xfnd (p : Nat → Bool) : Nat → Nat → Option Nat
  | _, 0 => none
  | i, t + 1 => if p i = true then some i else xfnd p (i + 1) t
/-- a bead's number hides a knot -/
def zhd (z : Nat → Int32) (n : Nat) : Bool := decide (pcol z n = z 3)
/-- where the next strings begin, each as late as it can -/
def zgr (z : Nat → Int32) (T : Nat) : Nat → Nat → Option (List Nat)
  | 0, _ => some []
  | n + 1, b => if b + zI z 2 < T then (match xlst (zhd z) (b + 1) (zI z 2) with | none => none | some b' => (zgr z T n b').map (fun l => b' :: l)) else some []
def zpR (k : Nat) (a : Int32) (s : Option Nat) : Option (List Nat) → Int32
  | none => -1
  | some l => match s with
    | none => nI (k + l.length)
    | some s => if k ≤ s then (match l[s - k]? with | some b => nI b | none => a) else a
def zplan (z : Nat → Int32) (T : Nat) (s : Option Nat) : Int32 := zpR 1 (if s = some 0 then nI 0 else -1) s (zgr z T 240 0)
/-- how many beads would be left -/
def zkeep (z : Nat → Int32) : Nat → Nat
  | 0 => 0
  | n + 1 => if z (147 + n) = pcol z (zkeep z n) then zkeep z n + 1 else zkeep z n
theorem zkeep_le (z : Nat → Int32) : ∀ n, zkeep z n ≤ n
  | 0 => Nat.le_refl _
  | n + 1 => by
    have := zkeep_le z n
    unfold zkeep
    split <;> omega
/-- wrong beads by another chart or slant -/
def zwb (z : Nat → Int32) (f : Nat → Int32) (R C S : Nat) : Nat := xct (fun n => decide (z (147 + n) ≠ f (xpl (zI z 0) S R C n))) (zI z 6)
def xall (p : Nat → Bool) : Nat → Bool
  | 0 => true
  | n + 1 => xall p n && p n
theorem xall_iff {p : Nat → Bool} : ∀ {n : Nat}, xall p n = true ↔ ∀ k, k < n → p k = true
  | 0 => ⟨fun _ k hk => absurd hk (Nat.not_lt_zero k), fun _ => rfl⟩
  | n + 1 => by
    unfold xall
    rw [Bool.and_eq_true, xall_iff]
    constructor
    · intro h k hk
      by_cases e : k = n
      · subst e; exact h.2
      · exact h.1 k (by omega)
    · intro h
      exact ⟨fun k hk => h k (by omega), h n (by omega)⟩
/-- so many beads, with these colours, can be strung -/
def zcan (z : Nat → Int32) (occ : Nat → Nat) (m : Nat) : Bool := decide (zI z 6 + m ≤ 240) && (decide (nI m ≤ z 2 - nI (zlen z (zI z 7 - 1))) && xall (fun c => decide (nI (occ c) ≤ z (9 + c))) 6)
theorem xne_m1 {n : Nat} (h : n < 2 ^ 31) : ¬ nI n = -1 := by
  intro q
  have a := nI_toInt h
  rw [q] at a
  have : ((-1 : Int32)).toInt = -1 := by decide
  omega
section P16
variable {G : xG} {hp : List xE} {x : Nat} {p : Nat} {w : Nat → Int32}
theorem S_W_neededBeads {c t : Nat} (W : xWk hp p w) (I : xInv w) (ht : t ≤ 240) : xMet G W_neededBeads [.ref p, .int (nI c), .int (nI t)] hp x 0 0 (xRetV (.int (nI (xct (fun n => decide (pcol w n = nI c)) t))) hp) := by
  have loop : ∀ (s i : Nat), i + s = t → xW G W_neededBeads (xRetV (.int (nI (xct (fun n => decide (pcol w n = nI c)) t))) hp) 5 [(4, .int (nI i)), (3, .int (nI (xct (fun n => decide (pcol w n = nI c)) i))), (0, .ref p), (1, .int (nI c)), (2, .int (nI t))] [] hp x 0 0 := by
    intro s
    induction s with
    | zero =>
      intro i hi
      have e1 : i = t := by omega
      subst e1
      refine xw_iload 7 dX3_neededBeads_5 rfl rfl ?_
      refine xw_iload_n 8 dX3_neededBeads_7 rfl rfl ?_
      refine xw_icmp_ge 30 11 dX3_neededBeads_8 rfl rfl (fun h8 => ?_) (fun h8 => absurd (nI_le (by omega) (by omega)) h8)
      refine xw_iload_n 31 dX3_neededBeads_30 rfl rfl ?_
      exact xw_ireturn dX3_neededBeads_31 rfl (⟨rfl, rfl⟩)
    | succ s ih =>
      intro i hi
      have ih := ih (i + 1) (by omega)
      by_cases hc : pcol w i = nI c
      · have e1 : xct (fun n => decide (pcol w n = nI c)) (i + 1) = xct (fun n => decide (pcol w n = nI c)) i + 1 := xct_y (by simp [hc])
        rw [e1] at ih
        refine xw_iload 7 dX3_neededBeads_5 rfl rfl ?_
        refine xw_iload_n 8 dX3_neededBeads_7 rfl rfl ?_
        refine xw_icmp_ge 30 11 dX3_neededBeads_8 rfl rfl (fun h8 => absurd h8 (nI_ge (by omega) (by omega))) (fun h8 => ?_)
        refine xw_aload_n 12 dX3_neededBeads_11 rfl rfl rfl ?_
        refine xw_iload 14 dX3_neededBeads_12 rfl rfl ?_
        refine xw_pV 17 dX3_neededBeads_14 rfl ok_W_patternColour s_X3_73 (S_W_patternColour W I (by omega)) (rfl) (W.o) rfl rfl rfl rfl rfl rfl rfl ?_
        refine xw_iload_n 18 dX3_neededBeads_17 rfl rfl ?_
        refine xw_icmp_ne 24 21 dX3_neededBeads_18 rfl rfl (fun h18 => absurd (hc) h18) (fun h18 => ?_)
        refine xw_iinc (ls' := [(3, _), (4, _), (0, _), (1, _), (2, _)]) 24 _ dX3_neededBeads_21 rfl rfl (xnI_inc _) rfl rfl ?_
        refine xw_iinc (ls' := [(4, _), (3, _), (0, _), (1, _), (2, _)]) 27 _ dX3_neededBeads_24 rfl rfl (xnI_inc _) rfl rfl ?_
        refine xw_goto 5 dX3_neededBeads_27 rfl ?_
        exact xW.pick [0, 1, 2, 3, 4] rfl (ih)
      · have e1 : xct (fun n => decide (pcol w n = nI c)) (i + 1) = xct (fun n => decide (pcol w n = nI c)) i := xct_n (by simp [hc])
        rw [e1] at ih
        refine xw_iload 7 dX3_neededBeads_5 rfl rfl ?_
        refine xw_iload_n 8 dX3_neededBeads_7 rfl rfl ?_
        refine xw_icmp_ge 30 11 dX3_neededBeads_8 rfl rfl (fun h8 => absurd h8 (nI_ge (by omega) (by omega))) (fun h8 => ?_)
        refine xw_aload_n 12 dX3_neededBeads_11 rfl rfl rfl ?_
        refine xw_iload 14 dX3_neededBeads_12 rfl rfl ?_
        refine xw_pV 17 dX3_neededBeads_14 rfl ok_W_patternColour s_X3_73 (S_W_patternColour W I (by omega)) (rfl) (W.o) rfl rfl rfl rfl rfl rfl rfl ?_
        refine xw_iload_n 18 dX3_neededBeads_17 rfl rfl ?_
        refine xw_icmp_ne 24 21 dX3_neededBeads_18 rfl rfl (fun h18 => ?_) (fun h18 => absurd h18 (hc))
        refine xw_iinc (ls' := [(4, _), (3, _), (0, _), (1, _), (2, _)]) 27 _ dX3_neededBeads_24 rfl rfl (xnI_inc _) rfl rfl ?_
        refine xw_goto 5 dX3_neededBeads_27 rfl ?_
        exact xW.pick [0, 1, 2, 3, 4] rfl (ih)
  refine xw_iconst 1 (nI 0) dX3_neededBeads_0 rfl (xofI 0) ?_
  refine xw_istore_n (ls' := [(3, _), (0, _), (1, _), (2, _)]) 2 dX3_neededBeads_1 rfl rfl rfl ?_
  refine xw_iconst 3 (nI 0) dX3_neededBeads_2 rfl (xofI 0) ?_
  refine xw_istore (ls' := [(4, _), (3, _), (0, _), (1, _), (2, _)]) 5 dX3_neededBeads_3 rfl rfl rfl ?_
  exact loop t 0 (by omega)
theorem S_W_lastHiddenPlace {f t : Nat} (W : xWk hp p w) (I : xInv w) (hf : 1 ≤ f) (ht : f + t ≤ 1000) : xMet G W_lastHiddenPlace [.ref p, .int (nI f), .int (nI (f + t - 1))] hp x 0 0 (xRetV (.int (xoI (xlst (zhd w) f t))) hp) := by
  have loop : ∀ (t : Nat), f + t ≤ 1000 → ∀ (l : Int32), xW G W_lastHiddenPlace (xRetV (.int (xoI (xlst (zhd w) f t))) hp) 2 [(3, .int (nI (f + t - 1))), (0, .ref p), (1, .int (nI f)), (2, .int l)] [] hp x 0 0 := by
    intro t
    induction t with
    | zero =>
      intro ht l
      refine xw_iload_n 3 dX3_lastHiddenPlace_2 rfl rfl ?_
      refine xw_iload_n 4 dX3_lastHiddenPlace_3 rfl rfl ?_
      refine xw_icmp_lt 31 7 dX3_lastHiddenPlace_4 rfl rfl (fun h4 => ?_) (fun h4 => absurd (nI_lt (by omega) (by omega)) h4)
      refine xw_iconst 32 (-1) dX3_lastHiddenPlace_31 rfl rfl ?_
      exact xw_ireturn dX3_lastHiddenPlace_32 rfl (⟨rfl, rfl⟩)
    | succ t ih =>
      intro ht l
      have ih := ih (by omega) l
      have e0 : f + (t + 1) - 1 = f + t := by omega
      have e2 : f + t = (f + t - 1) + 1 := by omega
      rw [e0]
      by_cases hz : pcol w (f + t) = w 3
      · have e1 : xlst (zhd w) f (t + 1) = some (f + t) := if_pos (by simp [zhd, hz])
        rw [e1]
        refine xw_iload_n 3 dX3_lastHiddenPlace_2 rfl rfl ?_
        refine xw_iload_n 4 dX3_lastHiddenPlace_3 rfl rfl ?_
        refine xw_icmp_lt 31 7 dX3_lastHiddenPlace_4 rfl rfl (fun h4 => absurd h4 (nI_nlt (by omega) (by omega))) (fun h4 => ?_)
        refine xw_aload_n 8 dX3_lastHiddenPlace_7 rfl rfl rfl ?_
        refine xw_iload_n 9 dX3_lastHiddenPlace_8 rfl rfl ?_
        refine xw_pV 12 dX3_lastHiddenPlace_9 rfl ok_W_patternColour s_X3_73 (S_W_patternColour W I (by omega)) (rfl) (W.o) rfl rfl rfl rfl rfl rfl rfl ?_
        refine xw_aload_n 13 dX3_lastHiddenPlace_12 rfl rfl rfl ?_
        refine xw_get 16 dX3_lastHiddenPlace_13 rfl f_X3_18 (W.o) rfl ?_
        refine xw_iconst 17 (nI 3) dX3_lastHiddenPlace_16 rfl (xofI 3) ?_
        refine xw_pSN 20 dX3_lastHiddenPlace_17 rfl ok_B_at s_X3_58 (S_B_ats W.se (j := 3) (by decide) rfl (by decide) rfl) (rfl) rfl rfl rfl rfl rfl rfl ?_
        refine xw_icmp_ne 25 23 dX3_lastHiddenPlace_20 rfl rfl (fun h20 => absurd (hz) h20) (fun h20 => ?_)
        refine xw_iload_n 24 dX3_lastHiddenPlace_23 rfl rfl ?_
        exact xw_ireturn dX3_lastHiddenPlace_24 rfl (⟨rfl, rfl⟩)
      · have e1 : xlst (zhd w) f (t + 1) = xlst (zhd w) f t := if_neg (by simp [zhd, hz])
        rw [e1]
        refine xw_iload_n 3 dX3_lastHiddenPlace_2 rfl rfl ?_
        refine xw_iload_n 4 dX3_lastHiddenPlace_3 rfl rfl ?_
        refine xw_icmp_lt 31 7 dX3_lastHiddenPlace_4 rfl rfl (fun h4 => absurd h4 (nI_nlt (by omega) (by omega))) (fun h4 => ?_)
        refine xw_aload_n 8 dX3_lastHiddenPlace_7 rfl rfl rfl ?_
        refine xw_iload_n 9 dX3_lastHiddenPlace_8 rfl rfl ?_
        refine xw_pV 12 dX3_lastHiddenPlace_9 rfl ok_W_patternColour s_X3_73 (S_W_patternColour W I (by omega)) (rfl) (W.o) rfl rfl rfl rfl rfl rfl rfl ?_
        refine xw_aload_n 13 dX3_lastHiddenPlace_12 rfl rfl rfl ?_
        refine xw_get 16 dX3_lastHiddenPlace_13 rfl f_X3_18 (W.o) rfl ?_
        refine xw_iconst 17 (nI 3) dX3_lastHiddenPlace_16 rfl (xofI 3) ?_
        refine xw_pSN 20 dX3_lastHiddenPlace_17 rfl ok_B_at s_X3_58 (S_B_ats W.se (j := 3) (by decide) rfl (by decide) rfl) (rfl) rfl rfl rfl rfl rfl rfl ?_
        refine xw_icmp_ne 25 23 dX3_lastHiddenPlace_20 rfl rfl (fun h20 => ?_) (fun h20 => absurd h20 (hz))
        refine xw_iinc (ls' := [(3, _), (0, _), (1, _), (2, _)]) 28 (nI (f + t - 1)) dX3_lastHiddenPlace_25 rfl rfl (by rw [e2]; exact xnI_dec _) rfl rfl ?_
        refine xw_goto 2 dX3_lastHiddenPlace_28 rfl ?_
        exact xW.pick [0, 1, 2, 3] rfl (ih)
  refine xw_iload_n 1 dX3_lastHiddenPlace_0 rfl rfl ?_
  refine xw_istore_n (ls' := [(3, _), (0, _), (1, _), (2, _)]) 2 dX3_lastHiddenPlace_1 rfl rfl rfl ?_
  exact loop t ht _
theorem zgr_end {z : Nat → Int32} {T b : Nat} (h : ¬ b + zI z 2 < T) : ∀ n, zgr z T n b = some []
  | 0 => rfl
  | n + 1 => if_neg h
theorem xoI_m1 {s : Option Nat} (hs : ∀ k, s = some k → k < 2 ^ 31) : xoI s = -1 ↔ s = none := by
  cases s with
  | none => simp [xoI]
  | some k => simp [xoI, xne_m1 (hs k rfl)]
theorem S_W_plannedNumber {T : Nat} {s : Option Nat} (W : xWk hp p w) (I : xInv w) (hT : T ≤ 240) (hs : ∀ k, s = some k → k < 48) : xMet G W_plannedNumber [.ref p, .int (nI T), .int (xoI s)] hp x 0 0 (xRetV (.int (zplan w T s)) hp) := by
  have hH := I.iH.2.2
  have hH1 := I.iH.2.1
  have ends : ∀ (i b : Nat) (a : Int32), i < 10000 → xW G W_plannedNumber (xRetV (.int (zpR (i + 1) a s (some []))) hp) 86 [(7, .int (nI i)), (6, .int a), (5, .int (nI (i + 1))), (4, .int (nI b)), (3, .int (nI (zI w 2))), (0, .ref p), (1, .int (nI T)), (2, .int (xoI s))] [] hp x 0 0 := by
    intro i b a hi
    cases s with
    | none =>
      refine xw_iload_n 87 dX3_plannedNumber_86 rfl rfl ?_
      refine xw_iconst 88 (-1) dX3_plannedNumber_87 rfl rfl ?_
      refine xw_icmp_ne 96 91 dX3_plannedNumber_88 rfl rfl (fun h88 => absurd (rfl) h88) (fun h88 => ?_)
      refine xw_iload 93 dX3_plannedNumber_91 rfl rfl ?_
      refine xw_goto 98 dX3_plannedNumber_93 rfl ?_
      exact xw_ireturn dX3_plannedNumber_98 rfl (⟨rfl, rfl⟩)
    | some k =>
      have hk := hs k rfl
      have e : zpR (i + 1) a (some k) (some []) = a := by simp [zpR]
      rw [e]
      refine xw_iload_n 87 dX3_plannedNumber_86 rfl rfl ?_
      refine xw_iconst 88 (-1) dX3_plannedNumber_87 rfl rfl ?_
      refine xw_icmp_ne 96 91 dX3_plannedNumber_88 rfl rfl (fun h88 => ?_) (fun h88 => absurd h88 (xne_m1 (by omega)))
      refine xw_iload 98 dX3_plannedNumber_96 rfl rfl ?_
      exact xw_ireturn dX3_plannedNumber_98 rfl (⟨rfl, rfl⟩)
  have loop : ∀ (t i b : Nat) (a : Int32), i + t = 240 → i ≤ b → b ≤ 240 → xW G W_plannedNumber (xRetV (.int (zpR (i + 1) a s (zgr w T t b))) hp) 29 [(7, .int (nI i)), (6, .int a), (5, .int (nI (i + 1))), (4, .int (nI b)), (3, .int (nI (zI w 2))), (0, .ref p), (1, .int (nI T)), (2, .int (xoI s))] [] hp x 0 0 := by
    intro t
    induction t with
    | zero =>
      intro i b a hi hb hb2
      have e : i = 240 := by omega
      refine xw_iload 31 dX3_plannedNumber_29 rfl rfl ?_
      refine xw_sipush 34 (nI 240) dX3_plannedNumber_31 rfl (by decide) ?_
      refine xw_icmp_ge 86 37 dX3_plannedNumber_34 rfl rfl (fun h34 => ?_) (fun h34 => absurd (nI_le (by omega) (by omega)) h34)
      exact ends i b a (by omega)
    | succ t ih =>
      intro i b a hi hb hb2
      by_cases hlt : b + zI w 2 < T
      · have eL : b + zI w 2 = b + 1 + zI w 2 - 1 := by omega
        have hx := S_W_lastHiddenPlace (G := G) (x := x) (f := b + 1) (t := zI w 2) W I (by omega) (by omega)
        rw [← eL] at hx
        cases hz : xlst (zhd w) (b + 1) (zI w 2) with
        | none =>
          have e1 : zgr w T (t + 1) b = none := by unfold zgr; rw [if_pos hlt, hz]
          rw [e1]
          rw [hz] at hx
          refine xw_iload 31 dX3_plannedNumber_29 rfl rfl ?_
          refine xw_sipush 34 (nI 240) dX3_plannedNumber_31 rfl (by decide) ?_
          refine xw_icmp_ge 86 37 dX3_plannedNumber_34 rfl rfl (fun h34 => absurd h34 (nI_ge (by omega) (by omega))) (fun h34 => ?_)
          refine xw_iload 39 dX3_plannedNumber_37 rfl rfl ?_
          refine xw_iload_n 40 dX3_plannedNumber_39 rfl rfl ?_
          refine xw_iadd 41 dX3_plannedNumber_40 rfl ?_
          refine xw_iload_n 42 dX3_plannedNumber_41 rfl rfl ?_
          refine xw_icmp_ge 86 45 dX3_plannedNumber_42 rfl rfl (fun h42 => absurd h42 (by rw [nI_add]; exact nI_ge hlt (by omega))) (fun h42 => ?_)
          refine xw_aload_n 46 dX3_plannedNumber_45 rfl rfl rfl ?_
          refine xw_iload 48 dX3_plannedNumber_46 rfl rfl ?_
          refine xw_iconst 49 (nI 1) dX3_plannedNumber_48 rfl (xofI 1) ?_
          refine xw_iadd 50 dX3_plannedNumber_49 rfl ?_
          refine xw_iload 52 dX3_plannedNumber_50 rfl rfl ?_
          refine xw_iload_n 53 dX3_plannedNumber_52 rfl rfl ?_
          refine xw_iadd 54 dX3_plannedNumber_53 rfl ?_
          rw [nI_add, nI_add]
          refine xw_pV 57 dX3_plannedNumber_54 rfl ok_W_lastHiddenPlace s_X3_117 (hx) (rfl) (W.o) rfl rfl rfl rfl rfl rfl rfl ?_
          refine xw_istore (ls' := [(4, _), (7, _), (6, _), (5, _), (3, _), (0, _), (1, _), (2, _)]) 59 dX3_plannedNumber_57 rfl rfl rfl ?_
          refine xw_iload 61 dX3_plannedNumber_59 rfl rfl ?_
          refine xw_iconst 62 (-1) dX3_plannedNumber_61 rfl rfl ?_
          refine xw_icmp_ne 67 65 dX3_plannedNumber_62 rfl rfl (fun h62 => absurd (rfl) h62) (fun h62 => ?_)
          refine xw_iconst 66 (-1) dX3_plannedNumber_65 rfl rfl ?_
          exact xw_ireturn dX3_plannedNumber_66 rfl (⟨rfl, rfl⟩)
        | some b' =>
          obtain ⟨g1, g2, g3⟩ := xlst_some hz
          rw [hz] at hx
          have hm1 : ¬ nI b' = -1 := xne_m1 (by omega)
          have e1 : zgr w T (t + 1) b = (zgr w T t b').map (fun l => b' :: l) := by rw [zgr, if_pos hlt, hz]
          by_cases hk : s = some (i + 1)
          · have ih := ih (i + 1) b' (nI b') (by omega) (by omega) (by omega)
            have e2 : zpR (i + 1) a s (zgr w T (t + 1) b) = zpR (i + 1 + 1) (nI b') s (zgr w T t b') := by
              rw [e1, hk]
              cases zgr w T t b' with
              | none => rfl
              | some l =>
                simp only [zpR, Option.map_some]
                rw [if_pos (Nat.le_refl _), if_neg (by omega), Nat.sub_self]
                rfl
            rw [e2]
            refine xw_iload 31 dX3_plannedNumber_29 rfl rfl ?_
            refine xw_sipush 34 (nI 240) dX3_plannedNumber_31 rfl (by decide) ?_
            refine xw_icmp_ge 86 37 dX3_plannedNumber_34 rfl rfl (fun h34 => absurd h34 (nI_ge (by omega) (by omega))) (fun h34 => ?_)
            refine xw_iload 39 dX3_plannedNumber_37 rfl rfl ?_
            refine xw_iload_n 40 dX3_plannedNumber_39 rfl rfl ?_
            refine xw_iadd 41 dX3_plannedNumber_40 rfl ?_
            refine xw_iload_n 42 dX3_plannedNumber_41 rfl rfl ?_
            refine xw_icmp_ge 86 45 dX3_plannedNumber_42 rfl rfl (fun h42 => absurd h42 (by rw [nI_add]; exact nI_ge hlt (by omega))) (fun h42 => ?_)
            refine xw_aload_n 46 dX3_plannedNumber_45 rfl rfl rfl ?_
            refine xw_iload 48 dX3_plannedNumber_46 rfl rfl ?_
            refine xw_iconst 49 (nI 1) dX3_plannedNumber_48 rfl (xofI 1) ?_
            refine xw_iadd 50 dX3_plannedNumber_49 rfl ?_
            refine xw_iload 52 dX3_plannedNumber_50 rfl rfl ?_
            refine xw_iload_n 53 dX3_plannedNumber_52 rfl rfl ?_
            refine xw_iadd 54 dX3_plannedNumber_53 rfl ?_
            rw [nI_add, nI_add]
            refine xw_pV 57 dX3_plannedNumber_54 rfl ok_W_lastHiddenPlace s_X3_117 (hx) (rfl) (W.o) rfl rfl rfl rfl rfl rfl rfl ?_
            refine xw_istore (ls' := [(4, _), (7, _), (6, _), (5, _), (3, _), (0, _), (1, _), (2, _)]) 59 dX3_plannedNumber_57 rfl rfl rfl ?_
            refine xw_iload 61 dX3_plannedNumber_59 rfl rfl ?_
            refine xw_iconst 62 (-1) dX3_plannedNumber_61 rfl rfl ?_
            refine xw_icmp_ne 67 65 dX3_plannedNumber_62 rfl rfl (fun h62 => ?_) (fun h62 => absurd h62 (hm1))
            refine xw_iload 69 dX3_plannedNumber_67 rfl rfl ?_
            refine xw_iload_n 70 dX3_plannedNumber_69 rfl rfl ?_
            refine xw_icmp_ne 77 73 dX3_plannedNumber_70 rfl rfl (fun h70 => absurd (by rw [hk]; rfl) h70) (fun h70 => ?_)
            refine xw_iload 75 dX3_plannedNumber_73 rfl rfl ?_
            refine xw_istore (ls' := [(6, _), (4, _), (7, _), (5, _), (3, _), (0, _), (1, _), (2, _)]) 77 dX3_plannedNumber_75 rfl rfl rfl ?_
            refine xw_iinc (ls' := [(5, _), (6, _), (4, _), (7, _), (3, _), (0, _), (1, _), (2, _)]) 80 _ dX3_plannedNumber_77 rfl rfl (xnI_inc _) rfl rfl ?_
            refine xw_iinc (ls' := [(7, _), (5, _), (6, _), (4, _), (3, _), (0, _), (1, _), (2, _)]) 83 _ dX3_plannedNumber_80 rfl rfl (xnI_inc _) rfl rfl ?_
            refine xw_goto 29 dX3_plannedNumber_83 rfl ?_
            exact xW.pick [0, 2, 1, 3, 4, 5, 6, 7] rfl (ih)
          · have ih := ih (i + 1) b' a (by omega) (by omega) (by omega)
            have hne : ¬ nI (i + 1) = xoI s := by
              cases s with
              | none => exact xne_m1 (by omega)
              | some k =>
                have hk9 := hs k rfl
                intro q
                exact hk (by rw [(nI_eq (by omega) (by omega)).mp q])
            have e2 : zpR (i + 1) a s (zgr w T (t + 1) b) = zpR (i + 1 + 1) a s (zgr w T t b') := by
              rw [e1]
              cases zgr w T t b' with
              | none => rfl
              | some l =>
                cases s with
                | none => simp only [zpR, Option.map_some, List.length_cons]; congr 1; omega
                | some k =>
                  have hk9 : k ≠ i + 1 := fun q => hk (by rw [q])
                  simp only [zpR, Option.map_some]
                  by_cases h1 : i + 1 ≤ k
                  · rw [if_pos h1, if_pos (by omega), show k - (i + 1) = (k - (i + 1 + 1)) + 1 by omega, List.getElem?_cons_succ]
                  · rw [if_neg h1, if_neg (by omega)]
            rw [e2]
            refine xw_iload 31 dX3_plannedNumber_29 rfl rfl ?_
            refine xw_sipush 34 (nI 240) dX3_plannedNumber_31 rfl (by decide) ?_
            refine xw_icmp_ge 86 37 dX3_plannedNumber_34 rfl rfl (fun h34 => absurd h34 (nI_ge (by omega) (by omega))) (fun h34 => ?_)
            refine xw_iload 39 dX3_plannedNumber_37 rfl rfl ?_
            refine xw_iload_n 40 dX3_plannedNumber_39 rfl rfl ?_
            refine xw_iadd 41 dX3_plannedNumber_40 rfl ?_
            refine xw_iload_n 42 dX3_plannedNumber_41 rfl rfl ?_
            refine xw_icmp_ge 86 45 dX3_plannedNumber_42 rfl rfl (fun h42 => absurd h42 (by rw [nI_add]; exact nI_ge hlt (by omega))) (fun h42 => ?_)
            refine xw_aload_n 46 dX3_plannedNumber_45 rfl rfl rfl ?_
            refine xw_iload 48 dX3_plannedNumber_46 rfl rfl ?_
            refine xw_iconst 49 (nI 1) dX3_plannedNumber_48 rfl (xofI 1) ?_
            refine xw_iadd 50 dX3_plannedNumber_49 rfl ?_
            refine xw_iload 52 dX3_plannedNumber_50 rfl rfl ?_
            refine xw_iload_n 53 dX3_plannedNumber_52 rfl rfl ?_
            refine xw_iadd 54 dX3_plannedNumber_53 rfl ?_
            rw [nI_add, nI_add]
            refine xw_pV 57 dX3_plannedNumber_54 rfl ok_W_lastHiddenPlace s_X3_117 (hx) (rfl) (W.o) rfl rfl rfl rfl rfl rfl rfl ?_
            refine xw_istore (ls' := [(4, _), (7, _), (6, _), (5, _), (3, _), (0, _), (1, _), (2, _)]) 59 dX3_plannedNumber_57 rfl rfl rfl ?_
            refine xw_iload 61 dX3_plannedNumber_59 rfl rfl ?_
            refine xw_iconst 62 (-1) dX3_plannedNumber_61 rfl rfl ?_
            refine xw_icmp_ne 67 65 dX3_plannedNumber_62 rfl rfl (fun h62 => ?_) (fun h62 => absurd h62 (hm1))
            refine xw_iload 69 dX3_plannedNumber_67 rfl rfl ?_
            refine xw_iload_n 70 dX3_plannedNumber_69 rfl rfl ?_
            refine xw_icmp_ne 77 73 dX3_plannedNumber_70 rfl rfl (fun h70 => ?_) (fun h70 => absurd h70 (hne))
            refine xw_iinc (ls' := [(5, _), (4, _), (7, _), (6, _), (3, _), (0, _), (1, _), (2, _)]) 80 _ dX3_plannedNumber_77 rfl rfl (xnI_inc _) rfl rfl ?_
            refine xw_iinc (ls' := [(7, _), (5, _), (4, _), (6, _), (3, _), (0, _), (1, _), (2, _)]) 83 _ dX3_plannedNumber_80 rfl rfl (xnI_inc _) rfl rfl ?_
            refine xw_goto 29 dX3_plannedNumber_83 rfl ?_
            exact xW.pick [0, 3, 1, 2, 4, 5, 6, 7] rfl (ih)
      · rw [zgr_end hlt]
        refine xw_iload 31 dX3_plannedNumber_29 rfl rfl ?_
        refine xw_sipush 34 (nI 240) dX3_plannedNumber_31 rfl (by decide) ?_
        refine xw_icmp_ge 86 37 dX3_plannedNumber_34 rfl rfl (fun h34 => absurd h34 (nI_ge (by omega) (by omega))) (fun h34 => ?_)
        refine xw_iload 39 dX3_plannedNumber_37 rfl rfl ?_
        refine xw_iload_n 40 dX3_plannedNumber_39 rfl rfl ?_
        refine xw_iadd 41 dX3_plannedNumber_40 rfl ?_
        refine xw_iload_n 42 dX3_plannedNumber_41 rfl rfl ?_
        refine xw_icmp_ge 86 45 dX3_plannedNumber_42 rfl rfl (fun h42 => ?_) (fun h42 => absurd (by rw [nI_add]; exact nI_le (by omega) (by omega)) h42)
        exact ends i b a (by omega)
  by_cases h0 : s = some 0
  · subst h0
    show xMet _ _ _ _ _ _ _ (xRetV (.int (zpR 1 (nI 0) (some 0) (zgr w T 240 0))) hp)
    refine xw_aload_n 1 dX3_plannedNumber_0 rfl rfl rfl ?_
    refine xw_get 4 dX3_plannedNumber_1 rfl f_X3_18 (W.o) rfl ?_
    refine xw_iconst 5 (nI 2) dX3_plannedNumber_4 rfl (xofI 2) ?_
    refine xw_pSN 8 dX3_plannedNumber_5 rfl ok_B_at s_X3_58 (S_B_ats W.se (j := 2) (by decide) rfl (by decide) I.iH.1) (rfl) rfl rfl rfl rfl rfl rfl ?_
    refine xw_istore_n (ls' := [(3, _), (0, _), (1, _), (2, _)]) 9 dX3_plannedNumber_8 rfl rfl rfl ?_
    refine xw_iconst 10 (nI 0) dX3_plannedNumber_9 rfl (xofI 0) ?_
    refine xw_istore (ls' := [(4, _), (3, _), (0, _), (1, _), (2, _)]) 12 dX3_plannedNumber_10 rfl rfl rfl ?_
    refine xw_iconst 13 (nI 1) dX3_plannedNumber_12 rfl (xofI 1) ?_
    refine xw_istore (ls' := [(5, _), (4, _), (3, _), (0, _), (1, _), (2, _)]) 15 dX3_plannedNumber_13 rfl rfl rfl ?_
    refine xw_iload_n 16 dX3_plannedNumber_15 rfl rfl ?_
    refine xw_if_ne 23 19 dX3_plannedNumber_16 rfl rfl (fun h16 => absurd (rfl) h16) (fun h16 => ?_)
    refine xw_iconst 20 (nI 0) dX3_plannedNumber_19 rfl (xofI 0) ?_
    refine xw_goto 24 dX3_plannedNumber_20 rfl ?_
    refine xw_istore (ls' := [(6, _), (5, _), (4, _), (3, _), (0, _), (1, _), (2, _)]) 26 dX3_plannedNumber_24 rfl rfl rfl ?_
    refine xw_iconst 27 (nI 0) dX3_plannedNumber_26 rfl (xofI 0) ?_
    refine xw_istore (ls' := [(7, _), (6, _), (5, _), (4, _), (3, _), (0, _), (1, _), (2, _)]) 29 dX3_plannedNumber_27 rfl rfl rfl ?_
    exact loop 240 0 0 _ rfl (by omega) (by omega)
  · have e : zplan w T s = zpR 1 (-1) s (zgr w T 240 0) := by unfold zplan; rw [if_neg h0]
    rw [e]
    have hne : ¬ xoI s = 0 := by
      cases s with
      | none => decide
      | some k =>
        have hk := hs k rfl
        exact nI_ne0 (Nat.pos_of_ne_zero (fun q => h0 (by rw [q]))) (by omega)
    refine xw_aload_n 1 dX3_plannedNumber_0 rfl rfl rfl ?_
    refine xw_get 4 dX3_plannedNumber_1 rfl f_X3_18 (W.o) rfl ?_
    refine xw_iconst 5 (nI 2) dX3_plannedNumber_4 rfl (xofI 2) ?_
    refine xw_pSN 8 dX3_plannedNumber_5 rfl ok_B_at s_X3_58 (S_B_ats W.se (j := 2) (by decide) rfl (by decide) I.iH.1) (rfl) rfl rfl rfl rfl rfl rfl ?_
    refine xw_istore_n (ls' := [(3, _), (0, _), (1, _), (2, _)]) 9 dX3_plannedNumber_8 rfl rfl rfl ?_
    refine xw_iconst 10 (nI 0) dX3_plannedNumber_9 rfl (xofI 0) ?_
    refine xw_istore (ls' := [(4, _), (3, _), (0, _), (1, _), (2, _)]) 12 dX3_plannedNumber_10 rfl rfl rfl ?_
    refine xw_iconst 13 (nI 1) dX3_plannedNumber_12 rfl (xofI 1) ?_
    refine xw_istore (ls' := [(5, _), (4, _), (3, _), (0, _), (1, _), (2, _)]) 15 dX3_plannedNumber_13 rfl rfl rfl ?_
    refine xw_iload_n 16 dX3_plannedNumber_15 rfl rfl ?_
    refine xw_if_ne 23 19 dX3_plannedNumber_16 rfl rfl (fun h16 => ?_) (fun h16 => absurd h16 (hne))
    refine xw_iconst 24 (-1) dX3_plannedNumber_23 rfl rfl ?_
    refine xw_istore (ls' := [(6, _), (5, _), (4, _), (3, _), (0, _), (1, _), (2, _)]) 26 dX3_plannedNumber_24 rfl rfl rfl ?_
    refine xw_iconst 27 (nI 0) dX3_plannedNumber_26 rfl (xofI 0) ?_
    refine xw_istore (ls' := [(7, _), (6, _), (5, _), (4, _), (3, _), (0, _), (1, _), (2, _)]) 29 dX3_plannedNumber_27 rfl rfl rfl ?_
    exact loop 240 0 0 _ rfl (by omega) (by omega)
theorem S_W_firstWrongBead (W : xWk hp p w) (I : xInv w) : xMet G W_firstWrongBead [.ref p] hp x 0 0 (xRetV (.int (xoI (xfnd (zwr w) 0 (zI w 6)))) hp) := by
  have hM := I.iM.2.2
  have hW := W.o
  rw [I.iM.1] at hW
  have loop : ∀ (t i : Nat), i + t = zI w 6 → xW G W_firstWrongBead (xRetV (.int (xoI (xfnd (zwr w) i t))) hp) 2 [(1, .int (nI i)), (0, .ref p)] [] hp x 0 0 := by
    intro t
    induction t with
    | zero =>
      intro i hi
      refine xw_iload_n 3 dX3_firstWrongBead_2 rfl rfl ?_
      refine xw_aload_n 4 dX3_firstWrongBead_3 rfl rfl rfl ?_
      refine xw_get 7 dX3_firstWrongBead_4 rfl f_X3_44 (hW) rfl ?_
      refine xw_icmp_ge 26 10 dX3_firstWrongBead_7 rfl rfl (fun h7 => ?_) (fun h7 => absurd (nI_le (by omega) (by omega)) h7)
      refine xw_iconst 27 (-1) dX3_firstWrongBead_26 rfl rfl ?_
      exact xw_ireturn dX3_firstWrongBead_27 rfl (⟨rfl, rfl⟩)
    | succ t ih =>
      intro i hi
      have ih := ih (i + 1) (by omega)
      have hx := S_W_isWrong (G := G) (x := x) (n := i) W I (by omega)
      by_cases hz : zwr w i = true
      · rw [if_pos hz] at hx
        have e1 : xfnd (zwr w) i (t + 1) = some i := if_pos hz
        rw [e1]
        refine xw_iload_n 3 dX3_firstWrongBead_2 rfl rfl ?_
        refine xw_aload_n 4 dX3_firstWrongBead_3 rfl rfl rfl ?_
        refine xw_get 7 dX3_firstWrongBead_4 rfl f_X3_44 (hW) rfl ?_
        refine xw_icmp_ge 26 10 dX3_firstWrongBead_7 rfl rfl (fun h7 => absurd h7 (nI_ge (by omega) (by omega))) (fun h7 => ?_)
        refine xw_aload_n 11 dX3_firstWrongBead_10 rfl rfl rfl ?_
        refine xw_iload_n 12 dX3_firstWrongBead_11 rfl rfl ?_
        refine xw_pV 15 dX3_firstWrongBead_12 rfl ok_W_isWrong s_X3_77 (hx) (rfl) (W.o) rfl rfl rfl rfl rfl rfl rfl ?_
        refine xw_if_eq 20 18 dX3_firstWrongBead_15 rfl rfl (fun h15 => absurd h15 (by decide)) (fun h15 => ?_)
        refine xw_iload_n 19 dX3_firstWrongBead_18 rfl rfl ?_
        exact xw_ireturn dX3_firstWrongBead_19 rfl (⟨rfl, rfl⟩)
      · rw [if_neg hz] at hx
        have e1 : xfnd (zwr w) i (t + 1) = xfnd (zwr w) (i + 1) t := if_neg hz
        rw [e1]
        refine xw_iload_n 3 dX3_firstWrongBead_2 rfl rfl ?_
        refine xw_aload_n 4 dX3_firstWrongBead_3 rfl rfl rfl ?_
        refine xw_get 7 dX3_firstWrongBead_4 rfl f_X3_44 (hW) rfl ?_
        refine xw_icmp_ge 26 10 dX3_firstWrongBead_7 rfl rfl (fun h7 => absurd h7 (nI_ge (by omega) (by omega))) (fun h7 => ?_)
        refine xw_aload_n 11 dX3_firstWrongBead_10 rfl rfl rfl ?_
        refine xw_iload_n 12 dX3_firstWrongBead_11 rfl rfl ?_
        refine xw_pV 15 dX3_firstWrongBead_12 rfl ok_W_isWrong s_X3_77 (hx) (rfl) (W.o) rfl rfl rfl rfl rfl rfl rfl ?_
        refine xw_if_eq 20 18 dX3_firstWrongBead_15 rfl rfl (fun h15 => ?_) (fun h15 => absurd (by decide) h15)
        refine xw_iinc (ls' := [(1, _), (0, _)]) 23 _ dX3_firstWrongBead_20 rfl rfl (xnI_inc _) rfl rfl ?_
        refine xw_goto 2 dX3_firstWrongBead_23 rfl ?_
        exact xW.pick [0, 1] rfl (ih)
  refine xw_iconst 1 (nI 0) dX3_firstWrongBead_0 rfl (xofI 0) ?_
  refine xw_istore_n (ls' := [(1, _), (0, _)]) 2 dX3_firstWrongBead_1 rfl rfl rfl ?_
  exact loop (zI w 6) 0 (by omega)
theorem S_W_rightByCrushing (W : xWk hp p w) (I : xInv w) : xMet G W_rightByCrushing [.ref p] hp x 0 0 (xRetV (.int (nI (zkeep w (zI w 6)))) hp) := by
  have hM := I.iM.2.2
  have hW := W.o
  rw [I.iM.1] at hW
  have loop : ∀ (t i : Nat), i + t = zI w 6 → xW G W_rightByCrushing (xRetV (.int (nI (zkeep w (zI w 6)))) hp) 4 [(2, .int (nI i)), (1, .int (nI (zkeep w i))), (0, .ref p)] [] hp x 0 0 := by
    intro t
    induction t with
    | zero =>
      intro i hi
      have e1 : i = zI w 6 := by omega
      refine xw_iload_n 5 dX3_rightByCrushing_4 rfl rfl ?_
      refine xw_aload_n 6 dX3_rightByCrushing_5 rfl rfl rfl ?_
      refine xw_get 9 dX3_rightByCrushing_6 rfl f_X3_44 (hW) rfl ?_
      refine xw_icmp_ge 37 12 dX3_rightByCrushing_9 rfl rfl (fun h9 => ?_) (fun h9 => absurd (nI_le (by omega) (by omega)) h9)
      refine xw_iload_n 38 dX3_rightByCrushing_37 rfl rfl ?_
      exact xw_ireturn dX3_rightByCrushing_38 rfl (by rw [e1]; exact ⟨rfl, rfl⟩)
    | succ t ih =>
      intro i hi
      have ih := ih (i + 1) (by omega)
      have hk := zkeep_le w i
      by_cases hz : w (147 + i) = pcol w (zkeep w i)
      · have e1 : zkeep w (i + 1) = zkeep w i + 1 := if_pos hz
        rw [e1] at ih
        refine xw_iload_n 5 dX3_rightByCrushing_4 rfl rfl ?_
        refine xw_aload_n 6 dX3_rightByCrushing_5 rfl rfl rfl ?_
        refine xw_get 9 dX3_rightByCrushing_6 rfl f_X3_44 (hW) rfl ?_
        refine xw_icmp_ge 37 12 dX3_rightByCrushing_9 rfl rfl (fun h9 => absurd h9 (nI_ge (by omega) (by omega))) (fun h9 => ?_)
        refine xw_aload_n 13 dX3_rightByCrushing_12 rfl rfl rfl ?_
        refine xw_get 16 dX3_rightByCrushing_13 rfl f_X3_38 (W.o) rfl ?_
        refine xw_iload_n 17 dX3_rightByCrushing_16 rfl rfl ?_
        refine xw_pSN 20 dX3_rightByCrushing_17 rfl ok_B_at s_X3_58 (S_B_ats W.be (by decide) rfl (by omega) rfl) (rfl) rfl rfl rfl rfl rfl rfl ?_
        refine xw_aload_n 21 dX3_rightByCrushing_20 rfl rfl rfl ?_
        refine xw_iload_n 22 dX3_rightByCrushing_21 rfl rfl ?_
        refine xw_pV 25 dX3_rightByCrushing_22 rfl ok_W_patternColour s_X3_73 (S_W_patternColour W I (by omega)) (rfl) (W.o) rfl rfl rfl rfl rfl rfl rfl ?_
        refine xw_icmp_ne 31 28 dX3_rightByCrushing_25 rfl rfl (fun h25 => absurd (hz) h25) (fun h25 => ?_)
        refine xw_iinc (ls' := [(1, _), (2, _), (0, _)]) 31 _ dX3_rightByCrushing_28 rfl rfl (xnI_inc _) rfl rfl ?_
        refine xw_iinc (ls' := [(2, _), (1, _), (0, _)]) 34 _ dX3_rightByCrushing_31 rfl rfl (xnI_inc _) rfl rfl ?_
        refine xw_goto 4 dX3_rightByCrushing_34 rfl ?_
        exact xW.pick [0, 1, 2] rfl (ih)
      · have e1 : zkeep w (i + 1) = zkeep w i := if_neg hz
        rw [e1] at ih
        refine xw_iload_n 5 dX3_rightByCrushing_4 rfl rfl ?_
        refine xw_aload_n 6 dX3_rightByCrushing_5 rfl rfl rfl ?_
        refine xw_get 9 dX3_rightByCrushing_6 rfl f_X3_44 (hW) rfl ?_
        refine xw_icmp_ge 37 12 dX3_rightByCrushing_9 rfl rfl (fun h9 => absurd h9 (nI_ge (by omega) (by omega))) (fun h9 => ?_)
        refine xw_aload_n 13 dX3_rightByCrushing_12 rfl rfl rfl ?_
        refine xw_get 16 dX3_rightByCrushing_13 rfl f_X3_38 (W.o) rfl ?_
        refine xw_iload_n 17 dX3_rightByCrushing_16 rfl rfl ?_
        refine xw_pSN 20 dX3_rightByCrushing_17 rfl ok_B_at s_X3_58 (S_B_ats W.be (by decide) rfl (by omega) rfl) (rfl) rfl rfl rfl rfl rfl rfl ?_
        refine xw_aload_n 21 dX3_rightByCrushing_20 rfl rfl rfl ?_
        refine xw_iload_n 22 dX3_rightByCrushing_21 rfl rfl ?_
        refine xw_pV 25 dX3_rightByCrushing_22 rfl ok_W_patternColour s_X3_73 (S_W_patternColour W I (by omega)) (rfl) (W.o) rfl rfl rfl rfl rfl rfl rfl ?_
        refine xw_icmp_ne 31 28 dX3_rightByCrushing_25 rfl rfl (fun h25 => ?_) (fun h25 => absurd h25 (hz))
        refine xw_iinc (ls' := [(2, _), (1, _), (0, _)]) 34 _ dX3_rightByCrushing_31 rfl rfl (xnI_inc _) rfl rfl ?_
        refine xw_goto 4 dX3_rightByCrushing_34 rfl ?_
        exact xW.pick [0, 1, 2] rfl (ih)
  refine xw_iconst 1 (nI 0) dX3_rightByCrushing_0 rfl (xofI 0) ?_
  refine xw_istore_n (ls' := [(1, _), (0, _)]) 2 dX3_rightByCrushing_1 rfl rfl rfl ?_
  refine xw_iconst 3 (nI 0) dX3_rightByCrushing_2 rfl (xofI 0) ?_
  refine xw_istore_n (ls' := [(2, _), (1, _), (0, _)]) 4 dX3_rightByCrushing_3 rfl rfl rfl ?_
  exact loop (zI w 6) 0 (by omega)
theorem S_W_wrongBeadsBy {k q R C S : Nat} {f : Nat → Int32} (W : xWk hp p w) (I : xInv w) (hc : hp[k]? = some (.inr (0, [.ref q, .int (nI R), .int (nI C)]))) (hq : hp[q]? = some (.inl (0, 120, .inl f))) (h1 : 1 ≤ R) (h2 : R ≤ 10) (h3 : 1 ≤ C) (h4 : C ≤ 12) (hS : S ≤ 11) : xMet G W_wrongBeadsBy [.ref p, .ref k, .int (nI S)] hp x 0 0 (xRetV (.int (nI (zwb w f R C S))) hp) := by
  have hM := I.iM.2.2
  have hW := W.o
  rw [I.iM.1] at hW
  have loop : ∀ (t i : Nat), i + t = zI w 6 → xW G W_wrongBeadsBy (xRetV (.int (nI (zwb w f R C S))) hp) 21 [(5, .int (nI i)), (4, .int (nI (xct (fun n => decide (w (147 + n) ≠ f (xpl (zI w 0) S R C n))) i))), (3, .int (nI (zI w 0))), (0, .ref p), (1, .ref k), (2, .int (nI S))] [] hp x 0 0 := by
    intro t
    induction t with
    | zero =>
      intro i hi
      have e1 : i = zI w 6 := by omega
      refine xw_iload 23 dX3_wrongBeadsBy_21 rfl rfl ?_
      refine xw_aload_n 24 dX3_wrongBeadsBy_23 rfl rfl rfl ?_
      refine xw_get 27 dX3_wrongBeadsBy_24 rfl f_X3_44 (hW) rfl ?_
      refine xw_icmp_ge 66 30 dX3_wrongBeadsBy_27 rfl rfl (fun h27 => ?_) (fun h27 => absurd (nI_le (by omega) (by omega)) h27)
      refine xw_iload 68 dX3_wrongBeadsBy_66 rfl rfl ?_
      exact xw_ireturn dX3_wrongBeadsBy_68 rfl (by rw [e1]; exact ⟨rfl, rfl⟩)
    | succ t ih =>
      intro i hi
      have ih := ih (i + 1) (by omega)
      by_cases hz : w (147 + i) = f (xpl (zI w 0) S R C i)
      · have e1 : xct (fun n => decide (w (147 + n) ≠ f (xpl (zI w 0) S R C n))) (i + 1) = xct (fun n => decide (w (147 + n) ≠ f (xpl (zI w 0) S R C n))) i := xct_n (by simp [hz])
        rw [e1] at ih
        refine xw_iload 23 dX3_wrongBeadsBy_21 rfl rfl ?_
        refine xw_aload_n 24 dX3_wrongBeadsBy_23 rfl rfl rfl ?_
        refine xw_get 27 dX3_wrongBeadsBy_24 rfl f_X3_44 (hW) rfl ?_
        refine xw_icmp_ge 66 30 dX3_wrongBeadsBy_27 rfl rfl (fun h27 => absurd h27 (nI_ge (by omega) (by omega))) (fun h27 => ?_)
        refine xw_aload_n 31 dX3_wrongBeadsBy_30 rfl rfl rfl ?_
        refine xw_get 34 dX3_wrongBeadsBy_31 rfl f_X3_38 (W.o) rfl ?_
        refine xw_iload 36 dX3_wrongBeadsBy_34 rfl rfl ?_
        refine xw_pSN 39 dX3_wrongBeadsBy_36 rfl ok_B_at s_X3_58 (S_B_ats W.be (by decide) rfl (by omega) rfl) (rfl) rfl rfl rfl rfl rfl rfl ?_
        refine xw_aload_n 40 dX3_wrongBeadsBy_39 rfl rfl rfl ?_
        refine xw_get 43 dX3_wrongBeadsBy_40 rfl f_X3_66 (hc) rfl ?_
        refine xw_aload_n 44 dX3_wrongBeadsBy_43 rfl rfl rfl ?_
        refine xw_iload 46 dX3_wrongBeadsBy_44 rfl rfl ?_
        refine xw_iload_n 47 dX3_wrongBeadsBy_46 rfl rfl ?_
        refine xw_iload_n 48 dX3_wrongBeadsBy_47 rfl rfl ?_
        refine xw_pVN 51 dX3_wrongBeadsBy_48 rfl ok_C_placeFor s_X3_62 (S_C_placeFor hc h1 h2 h3 h4 (Nat.le_trans (by decide) I.iA.2.1) I.iA.2.2 hS (by omega)) (rfl) (hc) rfl rfl rfl rfl rfl rfl rfl ?_
        refine xw_pSN 54 dX3_wrongBeadsBy_51 rfl ok_B_at s_X3_58 (S_B_at hq (by decide) rfl (xpl_lt h1 h2 h3 h4)) (rfl) rfl rfl rfl rfl rfl rfl ?_
        refine xw_icmp_eq 60 57 dX3_wrongBeadsBy_54 rfl rfl (fun h54 => ?_) (fun h54 => absurd (hz) h54)
        refine xw_iinc (ls' := [(5, _), (4, _), (3, _), (0, _), (1, _), (2, _)]) 63 _ dX3_wrongBeadsBy_60 rfl rfl (xnI_inc _) rfl rfl ?_
        refine xw_goto 21 dX3_wrongBeadsBy_63 rfl ?_
        exact xW.pick [0, 1, 2, 3, 4, 5] rfl (ih)
      · have e1 : xct (fun n => decide (w (147 + n) ≠ f (xpl (zI w 0) S R C n))) (i + 1) = xct (fun n => decide (w (147 + n) ≠ f (xpl (zI w 0) S R C n))) i + 1 := xct_y (by simp [hz])
        rw [e1] at ih
        refine xw_iload 23 dX3_wrongBeadsBy_21 rfl rfl ?_
        refine xw_aload_n 24 dX3_wrongBeadsBy_23 rfl rfl rfl ?_
        refine xw_get 27 dX3_wrongBeadsBy_24 rfl f_X3_44 (hW) rfl ?_
        refine xw_icmp_ge 66 30 dX3_wrongBeadsBy_27 rfl rfl (fun h27 => absurd h27 (nI_ge (by omega) (by omega))) (fun h27 => ?_)
        refine xw_aload_n 31 dX3_wrongBeadsBy_30 rfl rfl rfl ?_
        refine xw_get 34 dX3_wrongBeadsBy_31 rfl f_X3_38 (W.o) rfl ?_
        refine xw_iload 36 dX3_wrongBeadsBy_34 rfl rfl ?_
        refine xw_pSN 39 dX3_wrongBeadsBy_36 rfl ok_B_at s_X3_58 (S_B_ats W.be (by decide) rfl (by omega) rfl) (rfl) rfl rfl rfl rfl rfl rfl ?_
        refine xw_aload_n 40 dX3_wrongBeadsBy_39 rfl rfl rfl ?_
        refine xw_get 43 dX3_wrongBeadsBy_40 rfl f_X3_66 (hc) rfl ?_
        refine xw_aload_n 44 dX3_wrongBeadsBy_43 rfl rfl rfl ?_
        refine xw_iload 46 dX3_wrongBeadsBy_44 rfl rfl ?_
        refine xw_iload_n 47 dX3_wrongBeadsBy_46 rfl rfl ?_
        refine xw_iload_n 48 dX3_wrongBeadsBy_47 rfl rfl ?_
        refine xw_pVN 51 dX3_wrongBeadsBy_48 rfl ok_C_placeFor s_X3_62 (S_C_placeFor hc h1 h2 h3 h4 (Nat.le_trans (by decide) I.iA.2.1) I.iA.2.2 hS (by omega)) (rfl) (hc) rfl rfl rfl rfl rfl rfl rfl ?_
        refine xw_pSN 54 dX3_wrongBeadsBy_51 rfl ok_B_at s_X3_58 (S_B_at hq (by decide) rfl (xpl_lt h1 h2 h3 h4)) (rfl) rfl rfl rfl rfl rfl rfl ?_
        refine xw_icmp_eq 60 57 dX3_wrongBeadsBy_54 rfl rfl (fun h54 => absurd h54 (hz)) (fun h54 => ?_)
        refine xw_iinc (ls' := [(4, _), (5, _), (3, _), (0, _), (1, _), (2, _)]) 60 _ dX3_wrongBeadsBy_57 rfl rfl (xnI_inc _) rfl rfl ?_
        refine xw_iinc (ls' := [(5, _), (4, _), (3, _), (0, _), (1, _), (2, _)]) 63 _ dX3_wrongBeadsBy_60 rfl rfl (xnI_inc _) rfl rfl ?_
        refine xw_goto 21 dX3_wrongBeadsBy_63 rfl ?_
        exact xW.pick [0, 1, 2, 3, 4, 5] rfl (ih)
  refine xw_aload_n 1 dX3_wrongBeadsBy_0 rfl rfl rfl ?_
  refine xw_ifnonnull 6 dX3_wrongBeadsBy_1 rfl rfl rfl ?_
  refine xw_aload_n 7 dX3_wrongBeadsBy_6 rfl rfl rfl ?_
  refine xw_get 10 dX3_wrongBeadsBy_7 rfl f_X3_18 (W.o) rfl ?_
  refine xw_iconst 11 (nI 0) dX3_wrongBeadsBy_10 rfl (xofI 0) ?_
  refine xw_pSN 14 dX3_wrongBeadsBy_11 rfl ok_B_at s_X3_58 (S_B_ats W.se (by decide) rfl (by decide) I.iA.1) (rfl) rfl rfl rfl rfl rfl rfl ?_
  refine xw_istore_n (ls' := [(3, _), (0, _), (1, _), (2, _)]) 15 dX3_wrongBeadsBy_14 rfl rfl rfl ?_
  refine xw_iconst 16 (nI 0) dX3_wrongBeadsBy_15 rfl (xofI 0) ?_
  refine xw_istore (ls' := [(4, _), (3, _), (0, _), (1, _), (2, _)]) 18 dX3_wrongBeadsBy_16 rfl rfl rfl ?_
  refine xw_iconst 19 (nI 0) dX3_wrongBeadsBy_18 rfl (xofI 0) ?_
  refine xw_istore (ls' := [(5, _), (4, _), (3, _), (0, _), (1, _), (2, _)]) 21 dX3_wrongBeadsBy_19 rfl rfl rfl ?_
  exact loop (zI w 6) 0 (by omega)
theorem S_W_canTake {kf m : Nat} {fr : Nat → Int32} (W : xWk hp p w) (I : xInv w) (hf : hp[kf]? = some (.inl (0, 240, .inl fr))) (hm : m ≤ 100000) : xMet G W_canTake [.ref p, .ref kf, .int (nI m)] hp x 0 0 (xRetV (.int (nI (if zcan w (fun c => xocc fr (nI c) m) m = true then 1 else 0))) hp) := by
  have hM := I.iM.2.2
  have hW := W.o
  rw [I.iM.1] at hW
  by_cases hA : zI w 6 + m ≤ 240
  · by_cases hB : nI m ≤ w 2 - nI (zlen w (zI w 7 - 1))
    · have eq : zcan w (fun c => xocc fr (nI c) m) m = xall (fun c => decide (nI (xocc fr (nI c) m) ≤ w (9 + c))) 6 := by simp [zcan, hA, hB]
      rw [eq]
      have loop : ∀ (t i : Nat), i + t = 6 → (∀ c, c < i → nI (xocc fr (nI c) m) ≤ w (9 + c)) → xW G W_canTake (xRetV (.int (nI (if xall (fun c => decide (nI (xocc fr (nI c) m) ≤ w (9 + c))) 6 = true then 1 else 0))) hp) 24 [(3, .int (nI i)), (0, .ref p), (1, .ref kf), (2, .int (nI m))] [] hp x 0 0 := by
        intro t
        induction t with
        | zero =>
          intro i hi hall
          have e1 : i = 6 := by omega
          subst e1
          rw [if_pos (xall_iff.mpr (fun k hk => decide_eq_true (hall k hk)))]
          refine xw_iload_n 25 dX3_canTake_24 rfl rfl ?_
          refine xw_bipush 27 (nI 6) dX3_canTake_25 rfl (by decide) ?_
          refine xw_icmp_ge 55 30 dX3_canTake_27 rfl rfl (fun h27 => ?_) (fun h27 => absurd (nI_le (by omega) (by omega)) h27)
          refine xw_iconst 56 (nI 1) dX3_canTake_55 rfl (xofI 1) ?_
          exact xw_zreturn dX3_canTake_56 rfl (by decide) (⟨rfl, rfl⟩)
        | succ t ih =>
          intro i hi hall
          by_cases hz : nI (xocc fr (nI i) m) ≤ w (9 + i)
          · have ih := ih (i + 1) (by omega) (fun c hc => by
              by_cases e : c = i
              · subst e; exact hz
              · exact hall c (by omega))
            refine xw_iload_n 25 dX3_canTake_24 rfl rfl ?_
            refine xw_bipush 27 (nI 6) dX3_canTake_25 rfl (by decide) ?_
            refine xw_icmp_ge 55 30 dX3_canTake_27 rfl rfl (fun h27 => absurd h27 (nI_ge (by omega) (by omega))) (fun h27 => ?_)
            refine xw_aload_n 31 dX3_canTake_30 rfl rfl rfl ?_
            refine xw_iload_n 32 dX3_canTake_31 rfl rfl ?_
            refine xw_iload_n 33 dX3_canTake_32 rfl rfl ?_
            refine xw_pSN 36 dX3_canTake_33 rfl ok_B_occurrences s_X3_96 (S_B_occurrences hf (by decide) (by omega)) (rfl) rfl rfl rfl rfl rfl rfl ?_
            refine xw_aload_n 37 dX3_canTake_36 rfl rfl rfl ?_
            refine xw_get 40 dX3_canTake_37 rfl f_X3_29 (W.o) rfl ?_
            refine xw_iload_n 41 dX3_canTake_40 rfl rfl ?_
            refine xw_pSN 44 dX3_canTake_41 rfl ok_B_at s_X3_58 (S_B_ats W.st (by decide) rfl (by omega) rfl) (rfl) rfl rfl rfl rfl rfl rfl ?_
            refine xw_icmp_le 49 47 dX3_canTake_44 rfl rfl (fun h44 => ?_) (fun h44 => absurd (hz) h44)
            refine xw_iinc (ls' := [(3, _), (0, _), (1, _), (2, _)]) 52 _ dX3_canTake_49 rfl rfl (xnI_inc _) rfl rfl ?_
            refine xw_goto 24 dX3_canTake_52 rfl ?_
            exact xW.pick [0, 1, 2, 3] rfl (ih)
          · rw [if_neg (fun q => hz (of_decide_eq_true (xall_iff.mp q i (by omega))))]
            refine xw_iload_n 25 dX3_canTake_24 rfl rfl ?_
            refine xw_bipush 27 (nI 6) dX3_canTake_25 rfl (by decide) ?_
            refine xw_icmp_ge 55 30 dX3_canTake_27 rfl rfl (fun h27 => absurd h27 (nI_ge (by omega) (by omega))) (fun h27 => ?_)
            refine xw_aload_n 31 dX3_canTake_30 rfl rfl rfl ?_
            refine xw_iload_n 32 dX3_canTake_31 rfl rfl ?_
            refine xw_iload_n 33 dX3_canTake_32 rfl rfl ?_
            refine xw_pSN 36 dX3_canTake_33 rfl ok_B_occurrences s_X3_96 (S_B_occurrences hf (by decide) (by omega)) (rfl) rfl rfl rfl rfl rfl rfl ?_
            refine xw_aload_n 37 dX3_canTake_36 rfl rfl rfl ?_
            refine xw_get 40 dX3_canTake_37 rfl f_X3_29 (W.o) rfl ?_
            refine xw_iload_n 41 dX3_canTake_40 rfl rfl ?_
            refine xw_pSN 44 dX3_canTake_41 rfl ok_B_at s_X3_58 (S_B_ats W.st (by decide) rfl (by omega) rfl) (rfl) rfl rfl rfl rfl rfl rfl ?_
            refine xw_icmp_le 49 47 dX3_canTake_44 rfl rfl (fun h44 => absurd h44 (hz)) (fun h44 => ?_)
            refine xw_iconst 48 (nI 0) dX3_canTake_47 rfl (xofI 0) ?_
            exact xw_zreturn dX3_canTake_48 rfl (by decide) (⟨rfl, rfl⟩)
      refine xw_aload_n 1 dX3_canTake_0 rfl rfl rfl ?_
      refine xw_get 4 dX3_canTake_1 rfl f_X3_44 (hW) rfl ?_
      refine xw_iload_n 5 dX3_canTake_4 rfl rfl ?_
      refine xw_iadd 6 dX3_canTake_5 rfl ?_
      refine xw_sipush 9 (nI 240) dX3_canTake_6 rfl (by decide) ?_
      refine xw_icmp_gt 20 12 dX3_canTake_9 rfl rfl (fun h9 => absurd h9 (by rw [nI_add]; exact nI_nlt hA (by omega))) (fun h9 => ?_)
      refine xw_iload_n 13 dX3_canTake_12 rfl rfl ?_
      refine xw_aload_n 14 dX3_canTake_13 rfl rfl rfl ?_
      refine xw_pV 17 dX3_canTake_14 rfl ok_W_room s_X3_106 (S_W_room W I) (rfl) (W.o) rfl rfl rfl rfl rfl rfl rfl ?_
      refine xw_icmp_le 22 20 dX3_canTake_17 rfl rfl (fun h17 => ?_) (fun h17 => absurd (hB) h17)
      refine xw_iconst 23 (nI 0) dX3_canTake_22 rfl (xofI 0) ?_
      refine xw_istore_n (ls' := [(3, _), (0, _), (1, _), (2, _)]) 24 dX3_canTake_23 rfl rfl rfl ?_
      exact loop 6 0 (by omega) (fun c hc => absurd hc (Nat.not_lt_zero c))
    · rw [if_neg (by simp [zcan, hA, hB])]
      refine xw_aload_n 1 dX3_canTake_0 rfl rfl rfl ?_
      refine xw_get 4 dX3_canTake_1 rfl f_X3_44 (hW) rfl ?_
      refine xw_iload_n 5 dX3_canTake_4 rfl rfl ?_
      refine xw_iadd 6 dX3_canTake_5 rfl ?_
      refine xw_sipush 9 (nI 240) dX3_canTake_6 rfl (by decide) ?_
      refine xw_icmp_gt 20 12 dX3_canTake_9 rfl rfl (fun h9 => absurd h9 (by rw [nI_add]; exact nI_nlt hA (by omega))) (fun h9 => ?_)
      refine xw_iload_n 13 dX3_canTake_12 rfl rfl ?_
      refine xw_aload_n 14 dX3_canTake_13 rfl rfl rfl ?_
      refine xw_pV 17 dX3_canTake_14 rfl ok_W_room s_X3_106 (S_W_room W I) (rfl) (W.o) rfl rfl rfl rfl rfl rfl rfl ?_
      refine xw_icmp_le 22 20 dX3_canTake_17 rfl rfl (fun h17 => absurd h17 (hB)) (fun h17 => ?_)
      refine xw_iconst 21 (nI 0) dX3_canTake_20 rfl (xofI 0) ?_
      exact xw_zreturn dX3_canTake_21 rfl (by decide) (⟨rfl, rfl⟩)
  · rw [if_neg (by simp [zcan, hA])]
    refine xw_aload_n 1 dX3_canTake_0 rfl rfl rfl ?_
    refine xw_get 4 dX3_canTake_1 rfl f_X3_44 (hW) rfl ?_
    refine xw_iload_n 5 dX3_canTake_4 rfl rfl ?_
    refine xw_iadd 6 dX3_canTake_5 rfl ?_
    refine xw_sipush 9 (nI 240) dX3_canTake_6 rfl (by decide) ?_
    refine xw_icmp_gt 20 12 dX3_canTake_9 rfl rfl (fun h9 => ?_) (fun h9 => absurd (by rw [nI_add]; exact nI_lt (by omega) (by omega)) h9)
    refine xw_iconst 21 (nI 0) dX3_canTake_20 rfl (xofI 0) ?_
    exact xw_zreturn dX3_canTake_21 rfl (by decide) (⟨rfl, rfl⟩)
end P16

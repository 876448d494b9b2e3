/-! ===== Text: errors and completeness ===== -/
/-- one character more: whether a part stands in this row, the number ahead (0: none) -/
def zst (ch : Bool) (s : Bool × Nat) (c : Nat) : Option (Bool × Nat) :=
  if c = 47 then (if ch = true ∧ s.1 = true ∧ s.2 = 0 then some (false, 0) else none)
  else if 48 ≤ c ∧ c ≤ 57 then (if 1 ≤ 10 * s.2 + (c - 48) ∧ 10 * s.2 + (c - 48) ≤ 60 then some (s.1, 10 * s.2 + (c - 48)) else none)
  else if 97 ≤ c ∧ c ≤ 102 ∧ s.2 ≠ 1 then some (true, 0) else none
theorem zst_le {ch : Bool} {s s' : Bool × Nat} {c : Nat} (h : zst ch s c = some s') : s'.2 ≤ 60 := by
  unfold zst at h
  split at h
  · split at h
    · cases h; exact Nat.zero_le _
    · cases h
  · split at h
    · split at h
      · rename_i h1; cases h; exact h1.2
      · cases h
    · split at h
      · cases h; exact Nat.zero_le _
      · cases h
/-- behind i characters; none: an error among them -/
def zps (ch : Bool) (co : Nat → Int32) : Nat → Option (Bool × Nat)
  | 0 => some (false, 0)
  | i + 1 => match zps ch co i with
    | none => none
    | some s => zst ch s (zI co i)
theorem zps_le {ch : Bool} {co : Nat → Int32} : ∀ {i : Nat} {s : Bool × Nat}, zps ch co i = some s → s.2 ≤ 60
  | 0, s, h => by cases h; exact Nat.zero_le _
  | i + 1, s, h => by
    unfold zps at h
    cases hz : zps ch co i with
    | none => rw [hz] at h; cases h
    | some s' => rw [hz] at h; exact zst_le h
/-- the first error of t characters from i on -/
def zei (ch : Bool) (co : Nat → Int32) : Nat → Nat → Nat
  | i, 0 => i
  | i, t + 1 => match zps ch co (i + 1) with
    | none => i
    | some _ => zei ch co (i + 1) t
theorem zei_le (ch : Bool) (co : Nat → Int32) : ∀ (t i : Nat), zei ch co i t ≤ i + t
  | 0, i => Nat.le_refl _
  | t + 1, i => by
    unfold zei
    cases zps ch co (i + 1) with
    | none => dsimp only; omega
    | some s => have := zei_le ch co t (i + 1); dsimp only; omega
/-- no error at all -/
theorem zei_full {ch : Bool} {co : Nat → Int32} : ∀ (t i : Nat), zps ch co i ≠ none → (zei ch co i t = i + t ↔ zps ch co (i + t) ≠ none)
  | 0, i, h => by simp [zei, h]
  | t + 1, i, h => by
    unfold zei
    cases hz : zps ch co (i + 1) with
    | none =>
      dsimp only
      constructor
      · intro q; omega
      · intro q
        exfalso
        have up : ∀ d, zps ch co (i + 1 + d) = none := by
          intro d
          induction d with
          | zero => exact hz
          | succ d ih => rw [← Nat.add_assoc]; unfold zps; rw [ih]
        exact q (by have := up t; rw [← this]; congr 1; omega)
    | some s =>
      dsimp only
      have := zei_full (ch := ch) (co := co) t (i + 1) (by rw [hz]; simp)
      rw [show i + (t + 1) = i + 1 + t by omega]
      exact this
def zwhole (ch : Bool) (co : Nat → Int32) (n : Nat) : Bool := decide (zps ch co n = some (true, 0))
/-- the class's number of a state -/
def zcs (s : Bool × Nat) : Nat := if s.2 = 0 then (if s.1 = true then 1 else 0) else if s.2 = 1 then 2 else if s.2 ≤ 5 then 3 else if s.2 = 6 then 4 else 5
def zcsO : Option (Bool × Nat) → Nat
  | none => 6
  | some s => zcs s
def xb01 (b : Bool) : Nat := if b = true then 1 else 0
section P19
variable {G : xG} {hp : List xE} {x : Nat}
theorem S_T_isLetter {c : Nat} (hc : c < 1000) : xMet G T_isLetter [.int (nI c)] hp x 0 0 (xRetV (.int (nI (if 97 ≤ c ∧ c ≤ 102 then 1 else 0))) hp) := by
  by_cases h1 : 97 ≤ c
  · by_cases h2 : c ≤ 102
    · rw [if_pos ⟨h1, h2⟩]
      refine xw_iload_n 1 dX2_isLetter_0 rfl rfl ?_
      refine xw_bipush 3 (nI 97) dX2_isLetter_1 rfl (by decide) ?_
      refine xw_icmp_lt 16 6 dX2_isLetter_3 rfl rfl (fun h3 => absurd h3 (nI_nlt h1 (by omega))) (fun h3 => ?_)
      refine xw_iload_n 7 dX2_isLetter_6 rfl rfl ?_
      refine xw_bipush 9 (nI 102) dX2_isLetter_7 rfl (by decide) ?_
      refine xw_icmp_gt 16 12 dX2_isLetter_9 rfl rfl (fun h9 => absurd h9 (nI_nlt h2 (by decide))) (fun h9 => ?_)
      refine xw_iconst 13 (nI 1) dX2_isLetter_12 rfl (xofI 1) ?_
      refine xw_goto 17 dX2_isLetter_13 rfl ?_
      exact xw_zreturn dX2_isLetter_17 rfl (by decide) (⟨rfl, rfl⟩)
    · rw [if_neg (fun q => h2 q.2)]
      refine xw_iload_n 1 dX2_isLetter_0 rfl rfl ?_
      refine xw_bipush 3 (nI 97) dX2_isLetter_1 rfl (by decide) ?_
      refine xw_icmp_lt 16 6 dX2_isLetter_3 rfl rfl (fun h3 => absurd h3 (nI_nlt h1 (by omega))) (fun h3 => ?_)
      refine xw_iload_n 7 dX2_isLetter_6 rfl rfl ?_
      refine xw_bipush 9 (nI 102) dX2_isLetter_7 rfl (by decide) ?_
      refine xw_icmp_gt 16 12 dX2_isLetter_9 rfl rfl (fun h9 => ?_) (fun h9 => absurd (nI_lt (by omega) (by omega)) h9)
      refine xw_iconst 17 (nI 0) dX2_isLetter_16 rfl (xofI 0) ?_
      exact xw_zreturn dX2_isLetter_17 rfl (by decide) (⟨rfl, rfl⟩)
  · rw [if_neg (fun q => h1 q.1)]
    refine xw_iload_n 1 dX2_isLetter_0 rfl rfl ?_
    refine xw_bipush 3 (nI 97) dX2_isLetter_1 rfl (by decide) ?_
    refine xw_icmp_lt 16 6 dX2_isLetter_3 rfl rfl (fun h3 => ?_) (fun h3 => absurd (nI_lt (by omega) (by omega)) h3)
    refine xw_iconst 17 (nI 0) dX2_isLetter_16 rfl (xofI 0) ?_
    exact xw_zreturn dX2_isLetter_17 rfl (by decide) (⟨rfl, rfl⟩)
theorem S_T_isLetter_y {c : Nat} (h1 : 97 ≤ c) (h2 : c ≤ 102) : xMet G T_isLetter [.int (nI c)] hp x 0 0 (xRetV (.int (nI 1)) hp) := by
  have h := S_T_isLetter (G := G) (hp := hp) (x := x) (c := c) (by omega)
  rw [if_pos ⟨h1, h2⟩] at h
  exact h
theorem S_T_isLetter_n {c : Nat} (hc : c < 1000) (h1 : c < 97 ∨ 102 < c) : xMet G T_isLetter [.int (nI c)] hp x 0 0 (xRetV (.int (nI 0)) hp) := by
  have h := S_T_isLetter (G := G) (hp := hp) (x := x) hc
  rw [if_neg (by omega)] at h
  exact h
theorem S_T_isDigit {c : Nat} (hc : c < 1000) : xMet G T_isDigit [.int (nI c)] hp x 0 0 (xRetV (.int (nI (if 48 ≤ c ∧ c ≤ 57 then 1 else 0))) hp) := by
  by_cases h1 : 48 ≤ c
  · by_cases h2 : c ≤ 57
    · rw [if_pos ⟨h1, h2⟩]
      refine xw_iload_n 1 dX2_isDigit_0 rfl rfl ?_
      refine xw_bipush 3 (nI 48) dX2_isDigit_1 rfl (by decide) ?_
      refine xw_icmp_lt 16 6 dX2_isDigit_3 rfl rfl (fun h3 => absurd h3 (nI_nlt h1 (by omega))) (fun h3 => ?_)
      refine xw_iload_n 7 dX2_isDigit_6 rfl rfl ?_
      refine xw_bipush 9 (nI 57) dX2_isDigit_7 rfl (by decide) ?_
      refine xw_icmp_gt 16 12 dX2_isDigit_9 rfl rfl (fun h9 => absurd h9 (nI_nlt h2 (by decide))) (fun h9 => ?_)
      refine xw_iconst 13 (nI 1) dX2_isDigit_12 rfl (xofI 1) ?_
      refine xw_goto 17 dX2_isDigit_13 rfl ?_
      exact xw_zreturn dX2_isDigit_17 rfl (by decide) (⟨rfl, rfl⟩)
    · rw [if_neg (fun q => h2 q.2)]
      refine xw_iload_n 1 dX2_isDigit_0 rfl rfl ?_
      refine xw_bipush 3 (nI 48) dX2_isDigit_1 rfl (by decide) ?_
      refine xw_icmp_lt 16 6 dX2_isDigit_3 rfl rfl (fun h3 => absurd h3 (nI_nlt h1 (by omega))) (fun h3 => ?_)
      refine xw_iload_n 7 dX2_isDigit_6 rfl rfl ?_
      refine xw_bipush 9 (nI 57) dX2_isDigit_7 rfl (by decide) ?_
      refine xw_icmp_gt 16 12 dX2_isDigit_9 rfl rfl (fun h9 => ?_) (fun h9 => absurd (nI_lt (by omega) (by omega)) h9)
      refine xw_iconst 17 (nI 0) dX2_isDigit_16 rfl (xofI 0) ?_
      exact xw_zreturn dX2_isDigit_17 rfl (by decide) (⟨rfl, rfl⟩)
  · rw [if_neg (fun q => h1 q.1)]
    refine xw_iload_n 1 dX2_isDigit_0 rfl rfl ?_
    refine xw_bipush 3 (nI 48) dX2_isDigit_1 rfl (by decide) ?_
    refine xw_icmp_lt 16 6 dX2_isDigit_3 rfl rfl (fun h3 => ?_) (fun h3 => absurd (nI_lt (by omega) (by omega)) h3)
    refine xw_iconst 17 (nI 0) dX2_isDigit_16 rfl (xofI 0) ?_
    exact xw_zreturn dX2_isDigit_17 rfl (by decide) (⟨rfl, rfl⟩)
theorem S_T_isDigit_y {c : Nat} (h1 : 48 ≤ c) (h2 : c ≤ 57) : xMet G T_isDigit [.int (nI c)] hp x 0 0 (xRetV (.int (nI 1)) hp) := by
  have h := S_T_isDigit (G := G) (hp := hp) (x := x) (c := c) (by omega)
  rw [if_pos ⟨h1, h2⟩] at h
  exact h
theorem S_T_isDigit_n {c : Nat} (hc : c < 1000) (h1 : c < 48 ∨ 57 < c) : xMet G T_isDigit [.int (nI c)] hp x 0 0 (xRetV (.int (nI 0)) hp) := by
  have h := S_T_isDigit (G := G) (hp := hp) (x := x) hc
  rw [if_neg (by omega)] at h
  exact h
theorem S_T_stateBehindNumber {c : Nat} (hc : c < 1000) : xMet G T_stateBehindNumber [.int (nI c)] hp x 0 0 (xRetV (.int (nI (if 97 ≤ c ∧ c ≤ 102 then 1 else 6))) hp) := by
  by_cases h : 97 ≤ c ∧ c ≤ 102
  · rw [if_pos h]
    refine xw_iload_n 1 dX2_stateBehindNumber_0 rfl rfl ?_
    refine xw_pS 4 dX2_stateBehindNumber_1 rfl ok_T_isLetter s_X2_31 (S_T_isLetter_y h.1 h.2) (rfl) rfl rfl rfl rfl rfl rfl ?_
    refine xw_if_eq 11 7 dX2_stateBehindNumber_4 rfl rfl (fun h4 => absurd h4 (by decide)) (fun h4 => ?_)
    refine xw_iconst 8 (nI 1) dX2_stateBehindNumber_7 rfl (xofI 1) ?_
    refine xw_goto 13 dX2_stateBehindNumber_8 rfl ?_
    exact xw_ireturn dX2_stateBehindNumber_13 rfl (⟨rfl, rfl⟩)
  · rw [if_neg h]
    refine xw_iload_n 1 dX2_stateBehindNumber_0 rfl rfl ?_
    refine xw_pS 4 dX2_stateBehindNumber_1 rfl ok_T_isLetter s_X2_31 (S_T_isLetter_n hc (by omega)) (rfl) rfl rfl rfl rfl rfl rfl ?_
    refine xw_if_eq 11 7 dX2_stateBehindNumber_4 rfl rfl (fun h4 => ?_) (fun h4 => absurd (by decide) h4)
    refine xw_bipush 13 (nI 6) dX2_stateBehindNumber_11 rfl (by decide) ?_
    exact xw_ireturn dX2_stateBehindNumber_13 rfl (⟨rfl, rfl⟩)
theorem S_T_stateInPart {c : Nat} (hc : c < 1000) : xMet G T_stateInPart [.int (nI c)] hp x 0 0 (xRetV (.int (nI (if 48 ≤ c ∧ c ≤ 57 then (if c = 48 then 6 else if c = 49 then 2 else if c = 54 then 4 else if c < 54 then 3 else 5) else if 97 ≤ c ∧ c ≤ 102 then 1 else 6))) hp) := by
  by_cases h : 48 ≤ c ∧ c ≤ 57
  · rw [if_pos h]
    have et : (nI c).toInt = (c : Int) := nI_toInt (by omega)
    rcases (show c = 48 ∨ c = 49 ∨ c = 54 ∨ (c ≠ 48 ∧ c ≠ 49 ∧ c ≠ 54) by omega) with hk | hk | hk | hk
    · subst hk
      refine xw_iload_n 1 dX2_stateInPart_0 rfl rfl ?_
      refine xw_pS 4 dX2_stateInPart_1 rfl ok_T_isDigit s_X2_39 (S_T_isDigit_y (by decide) (by decide)) (rfl) rfl rfl rfl rfl rfl rfl ?_
      refine xw_if_ne 12 7 dX2_stateInPart_4 rfl rfl (fun h4 => ?_) (fun h4 => absurd h4 (by decide))
      refine xw_iload_n 13 dX2_stateInPart_12 rfl rfl ?_
      refine xw_lookup 48 dX2_stateInPart_13 rfl (off := 35) (by decide) rfl ?_
      refine xw_bipush 50 (nI 6) dX2_stateInPart_48 rfl (by decide) ?_
      exact xw_ireturn dX2_stateInPart_50 rfl (⟨rfl, rfl⟩)
    · subst hk
      refine xw_iload_n 1 dX2_stateInPart_0 rfl rfl ?_
      refine xw_pS 4 dX2_stateInPart_1 rfl ok_T_isDigit s_X2_39 (S_T_isDigit_y (by decide) (by decide)) (rfl) rfl rfl rfl rfl rfl rfl ?_
      refine xw_if_ne 12 7 dX2_stateInPart_4 rfl rfl (fun h4 => ?_) (fun h4 => absurd h4 (by decide))
      refine xw_iload_n 13 dX2_stateInPart_12 rfl rfl ?_
      refine xw_lookup 51 dX2_stateInPart_13 rfl (off := 38) (by decide) rfl ?_
      refine xw_iconst 52 (nI 2) dX2_stateInPart_51 rfl (xofI 2) ?_
      exact xw_ireturn dX2_stateInPart_52 rfl (⟨rfl, rfl⟩)
    · subst hk
      refine xw_iload_n 1 dX2_stateInPart_0 rfl rfl ?_
      refine xw_pS 4 dX2_stateInPart_1 rfl ok_T_isDigit s_X2_39 (S_T_isDigit_y (by decide) (by decide)) (rfl) rfl rfl rfl rfl rfl rfl ?_
      refine xw_if_ne 12 7 dX2_stateInPart_4 rfl rfl (fun h4 => ?_) (fun h4 => absurd h4 (by decide))
      refine xw_iload_n 13 dX2_stateInPart_12 rfl rfl ?_
      refine xw_lookup 53 dX2_stateInPart_13 rfl (off := 40) (by decide) rfl ?_
      refine xw_iconst 54 (nI 4) dX2_stateInPart_53 rfl (xofI 4) ?_
      exact xw_ireturn dX2_stateInPart_54 rfl (⟨rfl, rfl⟩)
    · obtain ⟨k1, k2, k3⟩ := hk
      have hoff : Op.lookupswitch.offset (#[(48, 35), (49, 38), (54, 40)] : Array (Int × Int)).toList 42 (nI c).toInt = 42 := by
        rw [et]
        simp only [Op.lookupswitch.offset]
        have j1 : ¬ (48 : Int) = (c : Int) := by omega
        have j2 : ¬ (49 : Int) = (c : Int) := by omega
        have j3 : ¬ (54 : Int) = (c : Int) := by omega
        simp [List.find?, j1, j2, j3]
      refine xw_iload_n 1 dX2_stateInPart_0 rfl rfl ?_
      refine xw_pS 4 dX2_stateInPart_1 rfl ok_T_isDigit s_X2_39 (S_T_isDigit_y h.1 h.2) (rfl) rfl rfl rfl rfl rfl rfl ?_
      refine xw_if_ne 12 7 dX2_stateInPart_4 rfl rfl (fun h4 => ?_) (fun h4 => absurd h4 (by decide))
      refine xw_iload_n 13 dX2_stateInPart_12 rfl rfl ?_
      refine xw_lookup 55 dX2_stateInPart_13 rfl hoff rfl ?_
      by_cases hlt : c < 54
      · rw [if_neg k1, if_neg k2, if_neg k3, if_pos hlt]
        refine xw_iload_n 56 dX2_stateInPart_55 rfl rfl ?_
        refine xw_bipush 58 (nI 54) dX2_stateInPart_56 rfl (by decide) ?_
        refine xw_icmp_ge 65 61 dX2_stateInPart_58 rfl rfl (fun h58 => absurd h58 (nI_ge hlt (by decide))) (fun h58 => ?_)
        refine xw_iconst 62 (nI 3) dX2_stateInPart_61 rfl (xofI 3) ?_
        refine xw_goto 66 dX2_stateInPart_62 rfl ?_
        exact xw_ireturn dX2_stateInPart_66 rfl (⟨rfl, rfl⟩)
      · rw [if_neg k1, if_neg k2, if_neg k3, if_neg hlt]
        refine xw_iload_n 56 dX2_stateInPart_55 rfl rfl ?_
        refine xw_bipush 58 (nI 54) dX2_stateInPart_56 rfl (by decide) ?_
        refine xw_icmp_ge 65 61 dX2_stateInPart_58 rfl rfl (fun h58 => ?_) (fun h58 => absurd (nI_le (by omega) (by omega)) h58)
        refine xw_iconst 66 (nI 5) dX2_stateInPart_65 rfl (xofI 5) ?_
        exact xw_ireturn dX2_stateInPart_66 rfl (⟨rfl, rfl⟩)
  · rw [if_neg h]
    refine xw_iload_n 1 dX2_stateInPart_0 rfl rfl ?_
    refine xw_pS 4 dX2_stateInPart_1 rfl ok_T_isDigit s_X2_39 (S_T_isDigit_n hc (by omega)) (rfl) rfl rfl rfl rfl rfl rfl ?_
    refine xw_if_ne 12 7 dX2_stateInPart_4 rfl rfl (fun h4 => absurd (by decide) h4) (fun h4 => ?_)
    refine xw_iload_n 8 dX2_stateInPart_7 rfl rfl ?_
    refine xw_pS 11 dX2_stateInPart_8 rfl ok_T_stateBehindNumber s_X2_42 (S_T_stateBehindNumber hc) (rfl) rfl rfl rfl rfl rfl rfl ?_
    exact xw_ireturn dX2_stateInPart_11 rfl (⟨rfl, rfl⟩)
theorem S_T_stateBehind {ch pt : Bool} {n c : Nat} (hc : 33 ≤ c) (hc2 : c ≤ 126) (hn : n ≤ 60) : xMet G T_stateBehind [.int (nI (zcs (pt, n))), .int (nI c), .int (nI (xb01 ch))] hp x 0 0 (xRetV (.int (nI (zcsO (zst ch (pt, n) c)))) hp) := by
  have hSB := S_T_stateBehindNumber (G := G) (hp := hp) (x := x) (c := c) (by omega)
  have hSP := S_T_stateInPart (G := G) (hp := hp) (x := x) (c := c) (by omega)
  have hDG := S_T_isDigit (G := G) (hp := hp) (x := x) (c := c) (by omega)
  rcases (show n = 0 ∨ n = 1 ∨ (2 ≤ n ∧ n ≤ 5) ∨ n = 6 ∨ 7 ≤ n by omega) with hk | hk | hk | hk | hk
  · subst hk
    have e0 : c ≠ 47 → (if 48 ≤ c ∧ c ≤ 57 then (if c = 48 then 6 else if c = 49 then 2 else if c = 54 then 4 else if c < 54 then 3 else 5) else if 97 ≤ c ∧ c ≤ 102 then 1 else 6) = zcsO (zst ch (pt, 0) c) := by
      intro h47
      unfold zst
      rw [if_neg h47]
      by_cases hd : 48 ≤ c ∧ c ≤ 57
      · rw [if_pos hd, if_pos hd]
        rcases (show c = 48 ∨ c = 49 ∨ c = 50 ∨ c = 51 ∨ c = 52 ∨ c = 53 ∨ c = 54 ∨ c = 55 ∨ c = 56 ∨ c = 57 by omega) with h | h | h | h | h | h | h | h | h | h <;> subst h <;> rfl
      · rw [if_neg hd, if_neg hd]
        by_cases hl : 97 ≤ c ∧ c ≤ 102
        · rw [if_pos hl, if_pos ⟨hl.1, hl.2, by simp⟩]; rfl
        · rw [if_neg hl, if_neg (by omega)]; rfl
    cases pt with
    | false =>
      show xMet _ _ [.int (nI 0), _, _] _ _ _ _ _
      have e1 : (if 48 ≤ c ∧ c ≤ 57 then (if c = 48 then 6 else if c = 49 then 2 else if c = 54 then 4 else if c < 54 then 3 else 5) else if 97 ≤ c ∧ c ≤ 102 then 1 else 6) = zcsO (zst ch (false, 0) c) := by
        by_cases h47 : c = 47
        · subst h47; cases ch <;> rfl
        · exact e0 h47
      rw [e1] at hSP
      refine xw_iload_n 1 dX2_stateBehind_0 rfl rfl ?_
      refine xw_table [40, 45, 64, 78, 94, 109] 114 dX2_stateBehind_1 rfl rfl rfl ⟨fun _ => ?_, fun h => absurd h (by decide), fun h => absurd h (by decide), fun h => absurd h (by decide), fun h => absurd h (by decide), fun h => absurd h (by decide), trivial⟩ (fun h => absurd h (by decide))
      refine xw_iload_n 41 dX2_stateBehind_40 rfl rfl ?_
      refine xw_pS 44 dX2_stateBehind_41 rfl ok_T_stateInPart s_X2_35 (hSP) (rfl) rfl rfl rfl rfl rfl rfl ?_
      exact xw_ireturn dX2_stateBehind_44 rfl (⟨rfl, rfl⟩)
    | true =>
      show xMet _ _ [.int (nI 1), _, _] _ _ _ _ _
      cases ch with
      | true =>
        by_cases h47 : c = 47
        · subst h47
          refine xw_iload_n 1 dX2_stateBehind_0 rfl rfl ?_
          refine xw_table [40, 45, 64, 78, 94, 109] 114 dX2_stateBehind_1 rfl rfl rfl ⟨fun h => absurd h (by decide), fun _ => ?_, fun h => absurd h (by decide), fun h => absurd h (by decide), fun h => absurd h (by decide), fun h => absurd h (by decide), trivial⟩ (fun h => absurd h (by decide))
          refine xw_iload_n 46 dX2_stateBehind_45 rfl rfl ?_
          refine xw_if_eq 59 49 dX2_stateBehind_46 rfl rfl (fun h46 => absurd h46 (by decide)) (fun h46 => ?_)
          refine xw_iload_n 50 dX2_stateBehind_49 rfl rfl ?_
          refine xw_bipush 52 (nI 47) dX2_stateBehind_50 rfl (by decide) ?_
          refine xw_icmp_ne 59 55 dX2_stateBehind_52 rfl rfl (fun h52 => absurd (rfl) h52) (fun h52 => ?_)
          refine xw_iconst 56 (nI 0) dX2_stateBehind_55 rfl (xofI 0) ?_
          refine xw_goto 63 dX2_stateBehind_56 rfl ?_
          exact xw_ireturn dX2_stateBehind_63 rfl (⟨rfl, rfl⟩)
        · rw [e0 h47] at hSP
          refine xw_iload_n 1 dX2_stateBehind_0 rfl rfl ?_
          refine xw_table [40, 45, 64, 78, 94, 109] 114 dX2_stateBehind_1 rfl rfl rfl ⟨fun h => absurd h (by decide), fun _ => ?_, fun h => absurd h (by decide), fun h => absurd h (by decide), fun h => absurd h (by decide), fun h => absurd h (by decide), trivial⟩ (fun h => absurd h (by decide))
          refine xw_iload_n 46 dX2_stateBehind_45 rfl rfl ?_
          refine xw_if_eq 59 49 dX2_stateBehind_46 rfl rfl (fun h46 => absurd h46 (by decide)) (fun h46 => ?_)
          refine xw_iload_n 50 dX2_stateBehind_49 rfl rfl ?_
          refine xw_bipush 52 (nI 47) dX2_stateBehind_50 rfl (by decide) ?_
          refine xw_icmp_ne 59 55 dX2_stateBehind_52 rfl rfl (fun h52 => ?_) (fun h52 => absurd h52 (fun q => h47 ((nI_eq (by omega) (by decide)).mp q)))
          refine xw_iload_n 60 dX2_stateBehind_59 rfl rfl ?_
          refine xw_pS 63 dX2_stateBehind_60 rfl ok_T_stateInPart s_X2_35 (hSP) (rfl) rfl rfl rfl rfl rfl rfl ?_
          exact xw_ireturn dX2_stateBehind_63 rfl (⟨rfl, rfl⟩)
      | false =>
        have e1 : (if 48 ≤ c ∧ c ≤ 57 then (if c = 48 then 6 else if c = 49 then 2 else if c = 54 then 4 else if c < 54 then 3 else 5) else if 97 ≤ c ∧ c ≤ 102 then 1 else 6) = zcsO (zst false (true, 0) c) := by
          by_cases h47 : c = 47
          · subst h47; rfl
          · exact e0 h47
        rw [e1] at hSP
        refine xw_iload_n 1 dX2_stateBehind_0 rfl rfl ?_
        refine xw_table [40, 45, 64, 78, 94, 109] 114 dX2_stateBehind_1 rfl rfl rfl ⟨fun h => absurd h (by decide), fun _ => ?_, fun h => absurd h (by decide), fun h => absurd h (by decide), fun h => absurd h (by decide), fun h => absurd h (by decide), trivial⟩ (fun h => absurd h (by decide))
        refine xw_iload_n 46 dX2_stateBehind_45 rfl rfl ?_
        refine xw_if_eq 59 49 dX2_stateBehind_46 rfl rfl (fun h46 => ?_) (fun h46 => absurd (by decide) h46)
        refine xw_iload_n 60 dX2_stateBehind_59 rfl rfl ?_
        refine xw_pS 63 dX2_stateBehind_60 rfl ok_T_stateInPart s_X2_35 (hSP) (rfl) rfl rfl rfl rfl rfl rfl ?_
        exact xw_ireturn dX2_stateBehind_63 rfl (⟨rfl, rfl⟩)
  · subst hk
    show xMet _ _ [.int (nI 2), _, _] _ _ _ _ _
    by_cases hd : 48 ≤ c ∧ c ≤ 57
    · rw [if_pos hd] at hDG
      have e1 : zcsO (zst ch (pt, 1) c) = 5 := by
        rcases (show c = 48 ∨ c = 49 ∨ c = 50 ∨ c = 51 ∨ c = 52 ∨ c = 53 ∨ c = 54 ∨ c = 55 ∨ c = 56 ∨ c = 57 by omega) with h | h | h | h | h | h | h | h | h | h <;> subst h <;> rfl
      rw [e1]
      refine xw_iload_n 1 dX2_stateBehind_0 rfl rfl ?_
      refine xw_table [40, 45, 64, 78, 94, 109] 114 dX2_stateBehind_1 rfl rfl rfl ⟨fun h => absurd h (by decide), fun h => absurd h (by decide), fun _ => ?_, fun h => absurd h (by decide), fun h => absurd h (by decide), fun h => absurd h (by decide), trivial⟩ (fun h => absurd h (by decide))
      refine xw_iload_n 65 dX2_stateBehind_64 rfl rfl ?_
      refine xw_pS 68 dX2_stateBehind_65 rfl ok_T_isDigit s_X2_39 (hDG) (rfl) rfl rfl rfl rfl rfl rfl ?_
      refine xw_if_eq 75 71 dX2_stateBehind_68 rfl rfl (fun h68 => absurd h68 (by decide)) (fun h68 => ?_)
      refine xw_iconst 72 (nI 5) dX2_stateBehind_71 rfl (xofI 5) ?_
      refine xw_goto 77 dX2_stateBehind_72 rfl ?_
      exact xw_ireturn dX2_stateBehind_77 rfl (⟨rfl, rfl⟩)
    · rw [if_neg hd] at hDG
      have e1 : zcsO (zst ch (pt, 1) c) = 6 := by
        unfold zst
        by_cases h47 : c = 47
        · rw [if_pos h47, if_neg (by simp)]; rfl
        · rw [if_neg h47, if_neg hd, if_neg (by simp)]; rfl
      rw [e1]
      refine xw_iload_n 1 dX2_stateBehind_0 rfl rfl ?_
      refine xw_table [40, 45, 64, 78, 94, 109] 114 dX2_stateBehind_1 rfl rfl rfl ⟨fun h => absurd h (by decide), fun h => absurd h (by decide), fun _ => ?_, fun h => absurd h (by decide), fun h => absurd h (by decide), fun h => absurd h (by decide), trivial⟩ (fun h => absurd h (by decide))
      refine xw_iload_n 65 dX2_stateBehind_64 rfl rfl ?_
      refine xw_pS 68 dX2_stateBehind_65 rfl ok_T_isDigit s_X2_39 (hDG) (rfl) rfl rfl rfl rfl rfl rfl ?_
      refine xw_if_eq 75 71 dX2_stateBehind_68 rfl rfl (fun h68 => ?_) (fun h68 => absurd (by decide) h68)
      refine xw_bipush 77 (nI 6) dX2_stateBehind_75 rfl (by decide) ?_
      exact xw_ireturn dX2_stateBehind_77 rfl (⟨rfl, rfl⟩)
  · have es : zcs (pt, n) = 3 := by unfold zcs; rw [if_neg (by show ¬ n = 0; omega), if_neg (by show ¬ n = 1; omega), if_pos (by show n ≤ 5; omega)]
    rw [es]
    by_cases hd : 48 ≤ c ∧ c ≤ 57
    · rw [if_pos hd] at hDG
      have e1 : zcsO (zst ch (pt, n) c) = 5 := by
        unfold zst
        rw [if_neg (by omega), if_pos hd, if_pos (by dsimp only; omega)]
        show zcs (pt, 10 * n + (c - 48)) = 5
        unfold zcs
        dsimp only
        rw [if_neg (by omega), if_neg (by omega), if_neg (by omega), if_neg (by omega)]
      rw [e1]
      refine xw_iload_n 1 dX2_stateBehind_0 rfl rfl ?_
      refine xw_table [40, 45, 64, 78, 94, 109] 114 dX2_stateBehind_1 rfl rfl rfl ⟨fun h => absurd h (by decide), fun h => absurd h (by decide), fun h => absurd h (by decide), fun _ => ?_, fun h => absurd h (by decide), fun h => absurd h (by decide), trivial⟩ (fun h => absurd h (by decide))
      refine xw_iload_n 79 dX2_stateBehind_78 rfl rfl ?_
      refine xw_pS 82 dX2_stateBehind_79 rfl ok_T_isDigit s_X2_39 (hDG) (rfl) rfl rfl rfl rfl rfl rfl ?_
      refine xw_if_eq 89 85 dX2_stateBehind_82 rfl rfl (fun h82 => absurd h82 (by decide)) (fun h82 => ?_)
      refine xw_iconst 86 (nI 5) dX2_stateBehind_85 rfl (xofI 5) ?_
      refine xw_goto 93 dX2_stateBehind_86 rfl ?_
      exact xw_ireturn dX2_stateBehind_93 rfl (⟨rfl, rfl⟩)
    · rw [if_neg hd] at hDG
      have e1 : (if 97 ≤ c ∧ c ≤ 102 then 1 else 6) = zcsO (zst ch (pt, n) c) := by
        unfold zst
        by_cases h47 : c = 47
        · rw [if_pos h47, if_neg (by omega), if_neg (by dsimp only; omega)]; rfl
        · rw [if_neg h47, if_neg hd]
          by_cases hl : 97 ≤ c ∧ c ≤ 102
          · rw [if_pos hl, if_pos ⟨hl.1, hl.2, by dsimp only; omega⟩]; rfl
          · rw [if_neg hl, if_neg (by omega)]; rfl
      rw [e1] at hSB
      refine xw_iload_n 1 dX2_stateBehind_0 rfl rfl ?_
      refine xw_table [40, 45, 64, 78, 94, 109] 114 dX2_stateBehind_1 rfl rfl rfl ⟨fun h => absurd h (by decide), fun h => absurd h (by decide), fun h => absurd h (by decide), fun _ => ?_, fun h => absurd h (by decide), fun h => absurd h (by decide), trivial⟩ (fun h => absurd h (by decide))
      refine xw_iload_n 79 dX2_stateBehind_78 rfl rfl ?_
      refine xw_pS 82 dX2_stateBehind_79 rfl ok_T_isDigit s_X2_39 (hDG) (rfl) rfl rfl rfl rfl rfl rfl ?_
      refine xw_if_eq 89 85 dX2_stateBehind_82 rfl rfl (fun h82 => ?_) (fun h82 => absurd (by decide) h82)
      refine xw_iload_n 90 dX2_stateBehind_89 rfl rfl ?_
      refine xw_pS 93 dX2_stateBehind_90 rfl ok_T_stateBehindNumber s_X2_42 (hSB) (rfl) rfl rfl rfl rfl rfl rfl ?_
      exact xw_ireturn dX2_stateBehind_93 rfl (⟨rfl, rfl⟩)
  · subst hk
    show xMet _ _ [.int (nI 4), _, _] _ _ _ _ _
    by_cases h48 : c = 48
    · subst h48
      refine xw_iload_n 1 dX2_stateBehind_0 rfl rfl ?_
      refine xw_table [40, 45, 64, 78, 94, 109] 114 dX2_stateBehind_1 rfl rfl rfl ⟨fun h => absurd h (by decide), fun h => absurd h (by decide), fun h => absurd h (by decide), fun h => absurd h (by decide), fun _ => ?_, fun h => absurd h (by decide), trivial⟩ (fun h => absurd h (by decide))
      refine xw_iload_n 95 dX2_stateBehind_94 rfl rfl ?_
      refine xw_bipush 97 (nI 48) dX2_stateBehind_95 rfl (by decide) ?_
      refine xw_icmp_ne 104 100 dX2_stateBehind_97 rfl rfl (fun h97 => absurd (rfl) h97) (fun h97 => ?_)
      refine xw_iconst 101 (nI 5) dX2_stateBehind_100 rfl (xofI 5) ?_
      refine xw_goto 108 dX2_stateBehind_101 rfl ?_
      exact xw_ireturn dX2_stateBehind_108 rfl (⟨rfl, rfl⟩)
    · have e1 : (if 97 ≤ c ∧ c ≤ 102 then 1 else 6) = zcsO (zst ch (pt, 6) c) := by
        unfold zst
        by_cases h47 : c = 47
        · rw [if_pos h47, if_neg (by omega), if_neg (by simp)]; rfl
        · rw [if_neg h47]
          by_cases hd : 48 ≤ c ∧ c ≤ 57
          · rw [if_pos hd, if_neg (by omega), if_neg (by dsimp only; omega)]; rfl
          · rw [if_neg hd]
            by_cases hl : 97 ≤ c ∧ c ≤ 102
            · rw [if_pos hl, if_pos ⟨hl.1, hl.2, by simp⟩]; rfl
            · rw [if_neg hl, if_neg (by omega)]; rfl
      rw [e1] at hSB
      refine xw_iload_n 1 dX2_stateBehind_0 rfl rfl ?_
      refine xw_table [40, 45, 64, 78, 94, 109] 114 dX2_stateBehind_1 rfl rfl rfl ⟨fun h => absurd h (by decide), fun h => absurd h (by decide), fun h => absurd h (by decide), fun h => absurd h (by decide), fun _ => ?_, fun h => absurd h (by decide), trivial⟩ (fun h => absurd h (by decide))
      refine xw_iload_n 95 dX2_stateBehind_94 rfl rfl ?_
      refine xw_bipush 97 (nI 48) dX2_stateBehind_95 rfl (by decide) ?_
      refine xw_icmp_ne 104 100 dX2_stateBehind_97 rfl rfl (fun h97 => ?_) (fun h97 => absurd h97 (fun q => h48 ((nI_eq (by omega) (by decide)).mp q)))
      refine xw_iload_n 105 dX2_stateBehind_104 rfl rfl ?_
      refine xw_pS 108 dX2_stateBehind_105 rfl ok_T_stateBehindNumber s_X2_42 (hSB) (rfl) rfl rfl rfl rfl rfl rfl ?_
      exact xw_ireturn dX2_stateBehind_108 rfl (⟨rfl, rfl⟩)
  · have es : zcs (pt, n) = 5 := by unfold zcs; rw [if_neg (by show ¬ n = 0; omega), if_neg (by show ¬ n = 1; omega), if_neg (by show ¬ n ≤ 5; omega), if_neg (by show ¬ n = 6; omega)]
    rw [es]
    have e1 : (if 97 ≤ c ∧ c ≤ 102 then 1 else 6) = zcsO (zst ch (pt, n) c) := by
      unfold zst
      by_cases h47 : c = 47
      · rw [if_pos h47, if_neg (by omega), if_neg (by dsimp only; omega)]; rfl
      · rw [if_neg h47]
        by_cases hd : 48 ≤ c ∧ c ≤ 57
        · rw [if_pos hd, if_neg (by omega), if_neg (by dsimp only; omega)]; rfl
        · rw [if_neg hd]
          by_cases hl : 97 ≤ c ∧ c ≤ 102
          · rw [if_pos hl, if_pos ⟨hl.1, hl.2, by dsimp only; omega⟩]; rfl
          · rw [if_neg hl, if_neg (by omega)]; rfl
    rw [e1] at hSB
    refine xw_iload_n 1 dX2_stateBehind_0 rfl rfl ?_
    refine xw_table [40, 45, 64, 78, 94, 109] 114 dX2_stateBehind_1 rfl rfl rfl ⟨fun h => absurd h (by decide), fun h => absurd h (by decide), fun h => absurd h (by decide), fun h => absurd h (by decide), fun h => absurd h (by decide), fun _ => ?_, trivial⟩ (fun h => absurd h (by decide))
    refine xw_iload_n 110 dX2_stateBehind_109 rfl rfl ?_
    refine xw_pS 113 dX2_stateBehind_110 rfl ok_T_stateBehindNumber s_X2_42 (hSB) (rfl) rfl rfl rfl rfl rfl rfl ?_
    exact xw_ireturn dX2_stateBehind_113 rfl (⟨rfl, rfl⟩)
end P19
/-- the buffer: ln characters, each 33 to 126 -/
def xTxt (co : Nat → Int32) (ln : Nat) : Prop := ln ≤ 60 ∧ ∀ i, i < ln → xnn co i 33 126
section P19b
variable {G : xG} {x : Nat} {w : Nat → Int32} {sv : Nat → Nat → Int32} {qo qm ql : Int32} {co : Nat → Int32} {sx : xSx} {T : List xE}
theorem S_T_errorIndex {ch : Bool} {ln : Nat} (X : xTxt co ln) : xMet G T_errorIndex [.ref 66, .int (nI (xb01 ch))] (bHp w sv qo qm (nI ln) co sx T) x 0 0 (xRetV (.int (nI (zei ch co 0 ln))) (bHp w sv qo qm (nI ln) co sx T)) := by
  have hl := X.1
  have loop : ∀ (t i : Nat) (s : Bool × Nat), i + t = ln → zps ch co i = some s → xW G T_errorIndex (xRetV (.int (nI (zei ch co i t))) (bHp w sv qo qm (nI ln) co sx T)) 4 [(3, .int (nI i)), (2, .int (nI (zcs s))), (0, .ref 66), (1, .int (nI (xb01 ch)))] [] (bHp w sv qo qm (nI ln) co sx T) x 0 0 := by
    intro t
    induction t with
    | zero =>
      intro i s hi hs
      have e1 : i = ln := by omega
      subst e1
      refine xw_iload_n 5 dX2_errorIndex_4 rfl rfl ?_
      refine xw_aload_n 6 dX2_errorIndex_5 rfl rfl rfl ?_
      refine xw_get 9 dX2_errorIndex_6 rfl f_X2_15 (rfl) rfl ?_
      refine xw_icmp_ge 40 12 dX2_errorIndex_9 rfl rfl (fun h9 => ?_) (fun h9 => absurd (nI_le (by omega) (by omega)) h9)
      refine xw_aload_n 41 dX2_errorIndex_40 rfl rfl rfl ?_
      refine xw_get 44 dX2_errorIndex_41 rfl f_X2_15 (rfl) rfl ?_
      exact xw_ireturn dX2_errorIndex_44 rfl (⟨rfl, rfl⟩)
    | succ t ih =>
      intro i s hi hs
      obtain ⟨c1, c2, c3⟩ := X.2 i (by omega)
      obtain ⟨pt, n⟩ := s
      have hx := S_T_stateBehind (G := G) (hp := (bHp w sv qo qm (nI ln) co sx T)) (x := x) (ch := ch) (pt := pt) c2 c3 (zps_le hs)
      cases hz : zst ch (pt, n) (zI co i) with
      | none =>
        have e2 : zps ch co (i + 1) = none := by unfold zps; rw [hs]; exact hz
        have e1 : zei ch co i (t + 1) = i := by unfold zei; rw [e2]
        rw [e1]
        rw [hz] at hx
        refine xw_iload_n 5 dX2_errorIndex_4 rfl rfl ?_
        refine xw_aload_n 6 dX2_errorIndex_5 rfl rfl rfl ?_
        refine xw_get 9 dX2_errorIndex_6 rfl f_X2_15 (rfl) rfl ?_
        refine xw_icmp_ge 40 12 dX2_errorIndex_9 rfl rfl (fun h9 => absurd h9 (nI_ge (by omega) (by omega))) (fun h9 => ?_)
        refine xw_iload_n 13 dX2_errorIndex_12 rfl rfl ?_
        refine xw_aload_n 14 dX2_errorIndex_13 rfl rfl rfl ?_
        refine xw_get 17 dX2_errorIndex_14 rfl f_X2_9 (rfl) rfl ?_
        refine xw_iload_n 18 dX2_errorIndex_17 rfl rfl ?_
        refine xw_pSN 21 dX2_errorIndex_18 rfl ok_B_at s_X2_19 (S_B_atv rfl (by decide) rfl (by omega) c1) (bHp_len) rfl rfl rfl rfl rfl rfl ?_
        refine xw_iload_n 22 dX2_errorIndex_21 rfl rfl ?_
        refine xw_pS 25 dX2_errorIndex_22 rfl ok_T_stateBehind s_X2_23 (hx) (bHp_len) rfl rfl rfl rfl rfl rfl ?_
        refine xw_istore_n (ls' := [(2, _), (3, _), (0, _), (1, _)]) 26 dX2_errorIndex_25 rfl rfl rfl ?_
        refine xw_iload_n 27 dX2_errorIndex_26 rfl rfl ?_
        refine xw_bipush 29 (nI 6) dX2_errorIndex_27 rfl (by decide) ?_
        refine xw_icmp_ne 34 32 dX2_errorIndex_29 rfl rfl (fun h29 => absurd (rfl) h29) (fun h29 => ?_)
        refine xw_iload_n 33 dX2_errorIndex_32 rfl rfl ?_
        exact xw_ireturn dX2_errorIndex_33 rfl (⟨rfl, rfl⟩)
      | some s' =>
        have e2 : zps ch co (i + 1) = some s' := by unfold zps; rw [hs]; exact hz
        have e1 : zei ch co i (t + 1) = zei ch co (i + 1) t := by rw [zei, e2]
        have ih := ih (i + 1) s' (by omega) e2
        have h6 : ¬ nI (zcs s') = nI 6 := by
          have : zcs s' ≤ 5 := by
            unfold zcs
            split
            · split <;> omega
            · split
              · omega
              · split
                · omega
                · split <;> omega
          intro q
          have := (nI_eq (by omega) (by decide)).mp q
          omega
        rw [e1]
        rw [hz] at hx
        refine xw_iload_n 5 dX2_errorIndex_4 rfl rfl ?_
        refine xw_aload_n 6 dX2_errorIndex_5 rfl rfl rfl ?_
        refine xw_get 9 dX2_errorIndex_6 rfl f_X2_15 (rfl) rfl ?_
        refine xw_icmp_ge 40 12 dX2_errorIndex_9 rfl rfl (fun h9 => absurd h9 (nI_ge (by omega) (by omega))) (fun h9 => ?_)
        refine xw_iload_n 13 dX2_errorIndex_12 rfl rfl ?_
        refine xw_aload_n 14 dX2_errorIndex_13 rfl rfl rfl ?_
        refine xw_get 17 dX2_errorIndex_14 rfl f_X2_9 (rfl) rfl ?_
        refine xw_iload_n 18 dX2_errorIndex_17 rfl rfl ?_
        refine xw_pSN 21 dX2_errorIndex_18 rfl ok_B_at s_X2_19 (S_B_atv rfl (by decide) rfl (by omega) c1) (bHp_len) rfl rfl rfl rfl rfl rfl ?_
        refine xw_iload_n 22 dX2_errorIndex_21 rfl rfl ?_
        refine xw_pS 25 dX2_errorIndex_22 rfl ok_T_stateBehind s_X2_23 (hx) (bHp_len) rfl rfl rfl rfl rfl rfl ?_
        refine xw_istore_n (ls' := [(2, _), (3, _), (0, _), (1, _)]) 26 dX2_errorIndex_25 rfl rfl rfl ?_
        refine xw_iload_n 27 dX2_errorIndex_26 rfl rfl ?_
        refine xw_bipush 29 (nI 6) dX2_errorIndex_27 rfl (by decide) ?_
        refine xw_icmp_ne 34 32 dX2_errorIndex_29 rfl rfl (fun h29 => ?_) (fun h29 => absurd h29 (h6))
        refine xw_iinc (ls' := [(3, _), (2, _), (0, _), (1, _)]) 37 _ dX2_errorIndex_34 rfl rfl (xnI_inc _) rfl rfl ?_
        refine xw_goto 4 dX2_errorIndex_37 rfl ?_
        exact xW.pick [0, 1, 2, 3] rfl (ih)
  refine xw_iconst 1 (nI 0) dX2_errorIndex_0 rfl (xofI 0) ?_
  refine xw_istore_n (ls' := [(2, _), (0, _), (1, _)]) 2 dX2_errorIndex_1 rfl rfl rfl ?_
  refine xw_iconst 3 (nI 0) dX2_errorIndex_2 rfl (xofI 0) ?_
  refine xw_istore_n (ls' := [(3, _), (2, _), (0, _), (1, _)]) 4 dX2_errorIndex_3 rfl rfl rfl ?_
  exact loop ln 0 (false, 0) (by omega) rfl
theorem zwhole_last {ch : Bool} {co : Nat → Int32} {n : Nat} {s s' : Bool × Nat} (h0 : zps ch co n = some s) (h : zps ch co (n + 1) = some s') : s' = (true, 0) ↔ (97 ≤ zI co n ∧ zI co n ≤ 102) := by
  have h2 : zst ch s (zI co n) = some s' := by
    have h3 := h
    unfold zps at h3
    rw [h0] at h3
    exact h3
  unfold zst at h2
  constructor
  · intro e
    rw [e] at h2
    split at h2
    · split at h2
      · cases h2
      · cases h2
    · split at h2
      · split at h2
        · rename_i q1 q2 q3
          have q4 := congrArg Prod.snd (Option.some.inj h2)
          dsimp only at q4
          omega
        · cases h2
      · split at h2
        · rename_i q1 q2 q3; exact ⟨q3.1, q3.2.1⟩
        · cases h2
  · intro e
    rw [if_neg (by omega), if_neg (by omega)] at h2
    split at h2
    · exact (Option.some.inj h2).symm
    · cases h2
theorem S_T_isComplete {ch : Bool} {ln : Nat} (X : xTxt co ln) : xMet G T_isComplete [.ref 66, .int (nI (xb01 ch))] (bHp w sv qo qm (nI ln) co sx T) x 0 0 (xRetV (.int (nI (xb01 (zwhole ch co ln)))) (bHp w sv qo qm (nI ln) co sx T)) := by
  have hl := X.1
  by_cases h0 : ln = 0
  · subst h0
    show xMet _ _ _ _ _ _ _ (xRetV (.int (nI 0)) _)
    refine xw_aload_n 1 dX2_isComplete_0 rfl rfl rfl ?_
    refine xw_get 4 dX2_isComplete_1 rfl f_X2_15 (rfl) rfl ?_
    refine xw_if_le 42 7 dX2_isComplete_4 rfl rfl (fun h4 => ?_) (fun h4 => absurd (xle0' rfl) h4)
    refine xw_iconst 43 (nI 0) dX2_isComplete_42 rfl (xofI 0) ?_
    exact xw_zreturn dX2_isComplete_43 rfl (by decide) (⟨rfl, rfl⟩)
  · have hei := zei_full (ch := ch) (co := co) ln 0 (by simp [zps])
    rw [Nat.zero_add] at hei
    have hle := zei_le ch co ln 0
    by_cases hz : zei ch co 0 ln = ln
    · obtain ⟨s', hs'⟩ := Option.ne_none_iff_exists'.mp (hei.mp hz)
      obtain ⟨n, rfl⟩ : ∃ n, ln = n + 1 := ⟨ln - 1, by omega⟩
      obtain ⟨s, hs⟩ : ∃ s, zps ch co n = some s := by
        cases hq : zps ch co n with
        | none => unfold zps at hs'; rw [hq] at hs'; cases hs'
        | some s => exact ⟨s, rfl⟩
      have hlast := zwhole_last hs hs'
      obtain ⟨c1, c2, c3⟩ := X.2 n (by omega)
      have hLT := S_T_isLetter (G := G) (hp := (bHp w sv qo qm (nI (n + 1)) co sx T)) (x := x) (c := zI co n) (by omega)
      by_cases hlt : 97 ≤ zI co n ∧ zI co n ≤ 102
      · have ew : zwhole ch co (n + 1) = true := by unfold zwhole; rw [hs', hlast.mpr hlt]; simp
        rw [ew]
        rw [if_pos hlt] at hLT
        refine xw_aload_n 1 dX2_isComplete_0 rfl rfl rfl ?_
        refine xw_get 4 dX2_isComplete_1 rfl f_X2_15 (rfl) rfl ?_
        refine xw_if_le 42 7 dX2_isComplete_4 rfl rfl (fun h4 => absurd h4 (xle0 (by omega) (by omega))) (fun h4 => ?_)
        refine xw_aload_n 8 dX2_isComplete_7 rfl rfl rfl ?_
        refine xw_iload_n 9 dX2_isComplete_8 rfl rfl ?_
        refine xw_pV 12 dX2_isComplete_9 rfl ok_T_errorIndex s_X2_27 (S_T_errorIndex X) (bHp_len) (rfl) rfl rfl rfl rfl rfl rfl rfl ?_
        refine xw_aload_n 13 dX2_isComplete_12 rfl rfl rfl ?_
        refine xw_get 16 dX2_isComplete_13 rfl f_X2_15 (rfl) rfl ?_
        refine xw_icmp_ne 42 19 dX2_isComplete_16 rfl rfl (fun h16 => absurd (by rw [hz]) h16) (fun h16 => ?_)
        refine xw_aload_n 20 dX2_isComplete_19 rfl rfl rfl ?_
        refine xw_get 23 dX2_isComplete_20 rfl f_X2_9 (rfl) rfl ?_
        refine xw_aload_n 24 dX2_isComplete_23 rfl rfl rfl ?_
        refine xw_get 27 dX2_isComplete_24 rfl f_X2_15 (rfl) rfl ?_
        refine xw_iconst 28 (nI 1) dX2_isComplete_27 rfl (xofI 1) ?_
        refine xw_isub 29 dX2_isComplete_28 rfl ?_
        rw [nI_1s (by omega), Nat.add_sub_cancel]
        refine xw_pSN 32 dX2_isComplete_29 rfl ok_B_at s_X2_19 (S_B_atv rfl (by decide) rfl (by omega) c1) (bHp_len) rfl rfl rfl rfl rfl rfl ?_
        refine xw_pS 35 dX2_isComplete_32 rfl ok_T_isLetter s_X2_31 (hLT) (bHp_len) rfl rfl rfl rfl rfl rfl ?_
        refine xw_if_eq 42 38 dX2_isComplete_35 rfl rfl (fun h35 => absurd h35 (by decide)) (fun h35 => ?_)
        refine xw_iconst 39 (nI 1) dX2_isComplete_38 rfl (xofI 1) ?_
        refine xw_goto 43 dX2_isComplete_39 rfl ?_
        exact xw_zreturn dX2_isComplete_43 rfl (by decide) (⟨rfl, rfl⟩)
      · have ew : zwhole ch co (n + 1) = false := by unfold zwhole; rw [hs']; exact decide_eq_false (fun q => hlt (hlast.mp (Option.some.inj q)))
        rw [ew]
        rw [if_neg hlt] at hLT
        refine xw_aload_n 1 dX2_isComplete_0 rfl rfl rfl ?_
        refine xw_get 4 dX2_isComplete_1 rfl f_X2_15 (rfl) rfl ?_
        refine xw_if_le 42 7 dX2_isComplete_4 rfl rfl (fun h4 => absurd h4 (xle0 (by omega) (by omega))) (fun h4 => ?_)
        refine xw_aload_n 8 dX2_isComplete_7 rfl rfl rfl ?_
        refine xw_iload_n 9 dX2_isComplete_8 rfl rfl ?_
        refine xw_pV 12 dX2_isComplete_9 rfl ok_T_errorIndex s_X2_27 (S_T_errorIndex X) (bHp_len) (rfl) rfl rfl rfl rfl rfl rfl rfl ?_
        refine xw_aload_n 13 dX2_isComplete_12 rfl rfl rfl ?_
        refine xw_get 16 dX2_isComplete_13 rfl f_X2_15 (rfl) rfl ?_
        refine xw_icmp_ne 42 19 dX2_isComplete_16 rfl rfl (fun h16 => absurd (by rw [hz]) h16) (fun h16 => ?_)
        refine xw_aload_n 20 dX2_isComplete_19 rfl rfl rfl ?_
        refine xw_get 23 dX2_isComplete_20 rfl f_X2_9 (rfl) rfl ?_
        refine xw_aload_n 24 dX2_isComplete_23 rfl rfl rfl ?_
        refine xw_get 27 dX2_isComplete_24 rfl f_X2_15 (rfl) rfl ?_
        refine xw_iconst 28 (nI 1) dX2_isComplete_27 rfl (xofI 1) ?_
        refine xw_isub 29 dX2_isComplete_28 rfl ?_
        rw [nI_1s (by omega), Nat.add_sub_cancel]
        refine xw_pSN 32 dX2_isComplete_29 rfl ok_B_at s_X2_19 (S_B_atv rfl (by decide) rfl (by omega) c1) (bHp_len) rfl rfl rfl rfl rfl rfl ?_
        refine xw_pS 35 dX2_isComplete_32 rfl ok_T_isLetter s_X2_31 (hLT) (bHp_len) rfl rfl rfl rfl rfl rfl ?_
        refine xw_if_eq 42 38 dX2_isComplete_35 rfl rfl (fun h35 => ?_) (fun h35 => absurd (by decide) h35)
        refine xw_iconst 43 (nI 0) dX2_isComplete_42 rfl (xofI 0) ?_
        exact xw_zreturn dX2_isComplete_43 rfl (by decide) (⟨rfl, rfl⟩)
    · have ew : zwhole ch co ln = false := by unfold zwhole; exact decide_eq_false (fun q => hz (hei.mpr (by rw [q]; simp)))
      rw [ew]
      refine xw_aload_n 1 dX2_isComplete_0 rfl rfl rfl ?_
      refine xw_get 4 dX2_isComplete_1 rfl f_X2_15 (rfl) rfl ?_
      refine xw_if_le 42 7 dX2_isComplete_4 rfl rfl (fun h4 => absurd h4 (xle0 (by omega) (by omega))) (fun h4 => ?_)
      refine xw_aload_n 8 dX2_isComplete_7 rfl rfl rfl ?_
      refine xw_iload_n 9 dX2_isComplete_8 rfl rfl ?_
      refine xw_pV 12 dX2_isComplete_9 rfl ok_T_errorIndex s_X2_27 (S_T_errorIndex X) (bHp_len) (rfl) rfl rfl rfl rfl rfl rfl rfl ?_
      refine xw_aload_n 13 dX2_isComplete_12 rfl rfl rfl ?_
      refine xw_get 16 dX2_isComplete_13 rfl f_X2_15 (rfl) rfl ?_
      refine xw_icmp_ne 42 19 dX2_isComplete_16 rfl rfl (fun h16 => ?_) (fun h16 => absurd h16 (fun q => hz ((nI_eq (by omega) (by omega)).mp q)))
      refine xw_iconst 43 (nI 0) dX2_isComplete_42 rfl (xofI 0) ?_
      exact xw_zreturn dX2_isComplete_43 rfl (by decide) (⟨rfl, rfl⟩)
theorem S_T_empty {ln : Int32} : xMet G T_empty [.ref 66] (bHp w sv qo qm ln co sx T) x 0 0 (xRet none (bHp w sv qo qm (nI 0) co sx T)) := by
  refine xw_aload_n 1 dX2_empty_0 rfl rfl rfl ?_
  refine xw_iconst 2 (nI 0) dX2_empty_1 rfl (xofI 0) ?_
  refine xw_put 5 dX2_empty_2 rfl f_X2_15 (rfl) ⟨rfl, rfl⟩ rfl rfl ((rfl : _ = bHp w sv qo qm (nI 0) co sx T)) ?_
  exact xw_return dX2_empty_5 rfl (⟨rfl, rfl⟩)
end P19b

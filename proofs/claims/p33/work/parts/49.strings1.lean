/-! ===== the law: strings ===== -/
section P49a
variable {G : xG} {x : Nat} {w n ch be st : Nat → Int32} {sv : Nat → Nat → Int32} {qo qm ql : Int32} {q m ln : Nat} {co : Nat → Int32} {sx : xSx} {T J : List xE} {c k b : Nat} {fc : Nat → Nat} {f g : Nat → Int32} {e : xE}
theorem lT_len : (bHp w sv qo qm ql co sx (lT n ch be st J)).length = J.length + 75 := rfl
theorem lT_new : bHp w sv qo qm ql co sx (lT n ch be st J) ++ [e] = bHp w sv qo qm ql co sx (lT n ch be st (J ++ [e])) := rfl
theorem lT_w : (bHp w sv qo qm ql co sx (lT n ch be st (J ++ [.inl (0, 6, .inl f)])))[J.length + 75]? = some (.inl (0, 6, .inl f)) := by
  rw [← lT_new, List.getElem?_append_right (by rw [lT_len]; exact Nat.le_refl _), lT_len, Nat.sub_self]
  rfl
theorem lT_sw : (bHp w sv qo qm ql co sx (lT n ch be st (J ++ [.inl (0, 6, .inl f)]))).set (J.length + 75) (.inl (0, 6, .inl g)) = bHp w sv qo qm ql co sx (lT n ch be st (J ++ [.inl (0, 6, .inl g)])) := by
  rw [← lT_new, ← lT_new, List.set_append, if_neg (by rw [lT_len]; omega), lT_len, Nat.sub_self]
  rfl
theorem S_L_str (h : fc = fun _ => c) (I : xInv w) (hq : q < 6) (hm : m ≤ 6) (hc : c < 6) (h1 : 1 ≤ k) (h2 : k ≤ 60) (hcan : zcan w (zocc fc k) k = true) : xMet G B_string [.ref 0, .int (nI c), .int (nI k)] (bHp w sv (nI q) (nI m) (nI ln) co sx T) x 1 6 (xQ3 T (nI (zI w 6 + k)) (cSav (w, sv, q, m, ln, co) (ztake w fc k) ln)) := by
  subst h
  have h := S_B_string (G := G) (x := x) (w := w) (sv := sv) (ln := ln) (co := co) (sx := sx) (T := T) (p := nI c) (r := nI k) I hq hm
  have e : oStr (w, sv, q, m, ln, co) (nI c) (nI k) = ((0, nI (zI w 6 + k)), cSav (w, sv, q, m, ln, co) (ztake w (fun _ => c) k) ln) := by
    unfold oStr
    rw [if_pos (xlt_k (by decide) hc), if_pos ⟨nI_nlt h1 (by omega), nI_nlt h2 (by omega)⟩, pN_k (by omega), pN_k (by omega)]
    unfold oFre
    rw [if_pos hcan]
  rw [e] at h
  exact xQ3_ok h rfl
theorem S_L_nex (h : fc = znx w) (I : xInv w) (hq : q < 6) (hm : m ≤ 6) (h1 : 1 ≤ k) (h2 : k ≤ 60) (hcan : zcan w (zocc fc k) k = true) : xMet G B_stringNext [.ref 0, .int (nI k)] (bHp w sv (nI q) (nI m) (nI ln) co sx T) x 1 6 (xQ3 T (nI (zI w 6 + k)) (cSav (w, sv, q, m, ln, co) (ztake w fc k) ln)) := by
  subst h
  have h := S_B_stringNext (G := G) (x := x) (w := w) (sv := sv) (ln := ln) (co := co) (sx := sx) (T := T) (r := nI k) I hq hm
  have e : oNex (w, sv, q, m, ln, co) (nI k) = ((0, nI (zI w 6 + k)), cSav (w, sv, q, m, ln, co) (ztake w (znx w) k) ln) := by
    unfold oNex
    rw [if_pos ⟨nI_nlt h1 (by omega), nI_nlt h2 (by omega)⟩, pN_k (by omega)]
    unfold oFre
    rw [if_pos hcan]
  rw [e] at h
  exact xQ3_ok h rfl
theorem S_L_joi (I : xInv w) (hq : q < 6) (hm : m ≤ 6) (h1 : zlen w (zI w 7 - 1) ≠ 0) (h2 : zI w 7 < 48) : xMet G B_join [.ref 0] (bHp w sv (nI q) (nI m) (nI ln) co sx T) x 1 6 (xQ3 T (nI (if pcol w (zI w 6) = w 3 then 1 else 0)) (cSav (w, sv, q, m, ln, co) (zjoin w) ln)) := by
  have h := S_B_join (G := G) (x := x) (w := w) (sv := sv) (ln := ln) (co := co) (sx := sx) (T := T) I hq hm
  have e : oJoi (w, sv, q, m, ln, co) = ((0, nI (if pcol w (zI w 6) = w 3 then 1 else 0)), cSav (w, sv, q, m, ln, co) (zjoin w) ln) := by
    unfold oJoi
    rw [if_neg h1, if_pos h2, zhid_join I h2]
    by_cases g : pcol w (zI w 6) = w 3
    · rw [if_pos g, if_pos (decide_eq_true g)]
    · rw [if_neg g, if_neg (fun q => g (of_decide_eq_true q))]
  rw [e] at h
  exact xQ3_ok h rfl
theorem S_L_unp (I : xInv w) (hq : q < 6) (hm : m ≤ 6) (h1 : 1 ≤ k) (h2 : k ≤ zI w 6) : xMet G B_unpick [.ref 0, .int (nI k)] (bHp w sv (nI q) (nI m) (nI ln) co sx T) x 1 6 (xQ3 T (nI (zI w 6 - k)) (cSav (w, sv, q, m, ln, co) (zunp w k) ln)) := by
  have hM2 := I.iM.2.2
  have h := S_B_unpick (G := G) (x := x) (w := w) (sv := sv) (ln := ln) (co := co) (sx := sx) (T := T) (p := nI k) I hq hm
  have e : oUnp (w, sv, q, m, ln, co) (nI k) = ((0, nI (zI w 6 - k)), cSav (w, sv, q, m, ln, co) (zunp w k) ln) := by
    unfold oUnp
    rw [if_pos ⟨nI_nlt h1 (by omega), nI_nlt (by omega) (by omega)⟩, if_pos (by show ¬ w 6 < nI k; rw [I.iM.1]; exact nI_nlt h2 (by omega)), pN_k (by omega)]
  rw [e] at h
  exact xQ3_ok h rfl
theorem S_L_cru (I : xInv w) (hq : q < 6) (hm : m ≤ 6) (hb : b < zI w 6) : xMet G B_crush [.ref 0, .int (nI b)] (bHp w sv (nI q) (nI m) (nI ln) co sx T) x 1 6 (xQ3 T (nI (zI w 6 - 1)) (cSav (w, sv, q, m, ln, co) (zcrush w b) ln)) := by
  have hM2 := I.iM.2.2
  have h := S_B_crush (G := G) (x := x) (w := w) (sv := sv) (ln := ln) (co := co) (sx := sx) (T := T) (p := nI b) I hq hm
  have e : oCru (w, sv, q, m, ln, co) (nI b) = ((0, nI (zI w 6 - 1)), cSav (w, sv, q, m, ln, co) (zcrush w b) ln) := by
    unfold oCru
    rw [if_pos (xlt_k (by omega) hb), pN_k (by omega)]
  rw [e] at h
  exact xQ3_ok h rfl
end P49a
/-- i beads strung by the law -/
def lwT (w n be : Nat → Int32) (fc : Nat → Nat) (i : Nat) (n1 be1 : Nat → Int32) : Prop :=
  n1 6 = nI (zI w 6 + i) ∧ (∀ k, k ≠ 6 → (k < 10 ∨ 16 ≤ k) → n1 k = n k) ∧ (∀ d, d < 6 → n1 (10 + d) = w (9 + d) - nI (zocc fc i d)) ∧ (∀ j, j < zI w 6 → bcol be1 j = bcol be j) ∧ (∀ j, j < i → bcol be1 (zI w 6 + j) = nI (fc j))
theorem lwT.step {w n be n1 be1 : Nat → Int32} {fc : Nat → Nat} {i v : Nat} (T : lwT w n be fc i n1 be1) (e : v = fc i) (hv : v < 6) : lwT w n be fc (i + 1) (upd (upd n1 (10 + v) (w (9 + v) - nI (zocc fc i v) - nI 1)) 6 (nI (zI w 6 + i + 1))) (lput be1 (zI w 6 + i) v) := by
  obtain ⟨t1, t2, t3, t4, t5⟩ := T
  refine ⟨upd_at, fun k h6 hk => ?_, fun d hd => ?_, fun j hj => ?_, fun j hj => ?_⟩
  · rw [upd_ne h6, upd_ne (by omega), t2 k h6 hk]
  · rw [upd_ne (by omega), zocc_s]
    by_cases g : d = v
    · rw [g, upd_at, if_pos e.symm, i_s1, nI_add]
    · rw [upd_ne (by omega), t3 d hd, if_neg (fun q => g (q.symm.trans e.symm)), Nat.add_zero]
  · rw [lput_ne (by omega) (by omega), t4 j hj]
  · by_cases g : j = i
    · rw [g, lput_at (by omega), e]
    · rw [lput_ne (by omega) (by omega), t5 j (by omega)]
/-- i beads unpicked by the law -/
def lwV (w n : Nat → Int32) (i : Nat) (n1 : Nat → Int32) : Prop :=
  n1 6 = nI (zI w 6 - i) ∧ (∀ k, k ≠ 6 → (k < 10 ∨ 16 ≤ k) → n1 k = n k) ∧ (∀ d, d < 6 → n1 (10 + d) = w (9 + d) + nI (xct (fun j => decide (zI w (147 + (zI w 6 - 1 - j)) = d)) i))
theorem lwV.step {w n n1 : Nat → Int32} {i c : Nat} (V : lwV w n i n1) (e : zI w (147 + (zI w 6 - i - 1)) = c) (hc : c < 6) : lwV w n (i + 1) (upd (upd n1 6 (nI (zI w 6 - i - 1))) (10 + c) (w (9 + c) + nI (xct (fun j => decide (zI w (147 + (zI w 6 - 1 - j)) = c)) i) + nI 1)) := by
  obtain ⟨t1, t2, t3⟩ := V
  have e2 : zI w 6 - 1 - i = zI w 6 - i - 1 := by omega
  refine ⟨?_, fun k h6 hk => ?_, fun d hd => ?_⟩
  · rw [upd_ne (by omega), upd_at, Nat.sub_sub]
  · rw [upd_ne (by omega), upd_ne h6, t2 k h6 hk]
  · by_cases g : d = c
    · rw [g, upd_at, xct_y (n := i) (by rw [e2, e]; exact decide_eq_true rfl), Int32.add_assoc, nI_add]
    · rw [upd_ne (by omega), upd_ne (by omega), t3 d hd, xct_n (n := i) (by rw [e2, e]; simp; exact fun q => g q.symm)]
theorem lw_own {w : Nat → Int32} (I : xInv w) {b s : Nat} (h1 : s < zI w 7) (h2 : zI w (387 + s) ≤ b) (h3 : ∀ t, s < t → t < zI w 7 → b < zI w (387 + t)) : s = zstr w b := by
  have g1 := zstr_le I b
  have g2 := I.str b
  rcases Nat.lt_trichotomy s (zstr w b) with h | h | h
  · have := h3 _ h g2
    omega
  · exact h
  · have := zstr_gt h h1
    omega
section P49
variable {G : xG} {x : Nat} {w n ch be st : Nat → Int32} {sv : Nat → Nat → Int32} {q m : Nat} {co : Nat → Int32} {sx : xSx} {J : List xE} {a0 b0 a8 : Int32} {kc ks : Nat}
theorem stW1 {u mm c : Nat} {fc : Nat → Nat} (I : xInv w) (N : lwN w m n) (C : lwC w ch) (hv : (u < 2 ∧ fc = fun _ => c) ∨ (2 ≤ u ∧ fc = znx w)) (hf : ∀ j, j < mm → fc j < 6) (hu : u < 10) (hmm : mm ≤ 12) (next : ∀ f : Nat → Int32, (∀ d, d < 6 → f d = nI (zocc fc mm d)) → xW G L_strings lwQ 128 [(11, .ref (J.length + 75)), (10, .int (nI c)), (9, .int (nI mm)), (8, .int a8), (7, .int (nI u)), (0, .ref 0), (1, .int a0), (2, .int b0), (3, .ref 71), (4, .ref 72), (5, .ref 73), (6, .ref 74)] [] (bHp w sv (nI q) (nI m) (nI 0) co sx (lT n ch be st (J ++ [.inl (0, 6, .inl f)]))) x kc ks) :
    ∀ (t i : Nat) (f : Nat → Int32), i + t = mm → (∀ d, d < 6 → f d = nI (zocc fc i d)) → xW G L_strings lwQ 84 [(12, .int (nI i)), (11, .ref (J.length + 75)), (10, .int (nI c)), (9, .int (nI mm)), (8, .int a8), (7, .int (nI u)), (0, .ref 0), (1, .int a0), (2, .int b0), (3, .ref 71), (4, .ref 72), (5, .ref 73), (6, .ref 74)] [] (bHp w sv (nI q) (nI m) (nI 0) co sx (lT n ch be st (J ++ [.inl (0, 6, .inl f)]))) x kc ks := by
  have hA1 := I.iA.2.1
  have hA2 := I.iA.2.2
  have hS2 := I.iS.2.2
  have hH2 := I.iH.2.2
  have hR1 := I.iR.2.1
  have hR2 := I.iR.2.2
  have hC1 := I.iC.2.1
  have hC2 := I.iC.2.2
  have hM2 := I.iM.2.2
  have hK1 := I.iK.2.1
  have hK2 := I.iK.2.2
  intro t
  induction t with
  | zero =>
    intro i f hi hW
    obtain rfl : i = mm := by omega
    have next := next f hW
    refine xw_iload 86 dL_strings_84 rfl rfl ?_
    refine xw_iload 88 dL_strings_86 rfl rfl ?_
    refine xw_icmp_ge 128 91 dL_strings_88 rfl rfl (fun h88 => ?_) (fun h88 => absurd (nI_le (by omega) (by omega)) h88)
    exact xW.pick [1, 2, 3, 4, 5, 6, 7, 8, 9, 10, 11, 12] rfl (next)
  | succ t ih =>
    intro i f hi hW
    have hv9 := hf i (by omega)
    rcases hv with ⟨h2, h3⟩ | ⟨h2, h3⟩
    · have e9 : c = fc i := (congrFun h3 i).symm
      rw [← e9] at hv9
      have ih := ih (i + 1) (upd f c (nI (zocc fc i c + 1))) (by omega) (fun d hd => by
        rw [zocc_s]
        by_cases g : d = c
        · rw [g, upd_at, if_pos e9.symm]
        · rw [upd_ne g, hW d hd, if_neg (fun q => g (q.symm.trans e9.symm)), Nat.add_zero])
      refine xw_iload 86 dL_strings_84 rfl rfl ?_
      refine xw_iload 88 dL_strings_86 rfl rfl ?_
      refine xw_icmp_ge 128 91 dL_strings_88 rfl rfl (fun h88 => absurd h88 (nI_ge (by omega) (by omega))) (fun h88 => ?_)
      refine xw_aload 93 dL_strings_91 rfl rfl rfl ?_
      refine xw_iload 95 dL_strings_93 rfl rfl ?_
      refine xw_iconst 96 (nI 2) dL_strings_95 rfl (xofI 2) ?_
      refine xw_icmp_ge 104 99 dL_strings_96 rfl rfl (fun h96 => absurd h96 (nI_ge (by omega) (by omega))) (fun h96 => ?_)
      refine xw_iload 101 dL_strings_99 rfl rfl ?_
      refine xw_goto 117 dL_strings_101 rfl ?_
      refine xw_dup2 118 dL_strings_117 rfl rfl rfl ?_
      refine xw_ialv (j := c) 119 dL_strings_118 rfl (lT_w) (rfl) (by omega) (by omega) (hW c hv9) ?_
      refine xw_iconst 120 (nI 1) dL_strings_119 rfl (xofI 1) ?_
      refine xw_iadd 121 dL_strings_120 rfl ?_
      rw [nI_add]
      refine xw_iastore (j := c) 122 dL_strings_121 rfl (lT_w) (rfl) (by omega) (by omega) (lT_sw) ?_
      refine xw_iinc (ls' := [(12, _), (11, _), (10, _), (9, _), (8, _), (7, _), (0, _), (1, _), (2, _), (3, _), (4, _), (5, _), (6, _)]) 125 _ dL_strings_122 rfl rfl (xnI_inc _) rfl rfl ?_
      refine xw_goto 84 dL_strings_125 rfl ?_
      exact xW.pick [0, 1, 2, 3, 4, 5, 6, 7, 8, 9, 10, 11, 12] rfl (ih)
    · have e9 : znx w i = fc i := (congrFun h3 i).symm
      rw [← e9] at hv9
      have ih := ih (i + 1) (upd f (znx w i) (nI (zocc fc i (znx w i) + 1))) (by omega) (fun d hd => by
        rw [zocc_s]
        by_cases g : d = (znx w i)
        · rw [g, upd_at, if_pos e9.symm]
        · rw [upd_ne g, hW d hd, if_neg (fun q => g (q.symm.trans e9.symm)), Nat.add_zero])
      refine xw_iload 86 dL_strings_84 rfl rfl ?_
      refine xw_iload 88 dL_strings_86 rfl rfl ?_
      refine xw_icmp_ge 128 91 dL_strings_88 rfl rfl (fun h88 => absurd h88 (nI_ge (by omega) (by omega))) (fun h88 => ?_)
      refine xw_aload 93 dL_strings_91 rfl rfl rfl ?_
      refine xw_iload 95 dL_strings_93 rfl rfl ?_
      refine xw_iconst 96 (nI 2) dL_strings_95 rfl (xofI 2) ?_
      refine xw_icmp_ge 104 99 dL_strings_96 rfl rfl (fun h96 => ?_) (fun h96 => absurd (nI_le (by omega) (by omega)) h96)
      refine xw_aload_n 105 dL_strings_104 rfl rfl rfl ?_
      refine xw_aload 107 dL_strings_105 rfl rfl rfl ?_
      refine xw_aload_n 108 dL_strings_107 rfl rfl rfl ?_
      refine xw_bipush 110 (nI 6) dL_strings_108 rfl (by decide) ?_
      refine xw_ialv (j := 6) 111 dL_strings_110 rfl (lT_n) (rfl) (by decide) (by decide) (N.v6 I) ?_
      refine xw_iload 113 dL_strings_111 rfl rfl ?_
      refine xw_iadd 114 dL_strings_113 rfl ?_
      rw [nI_add]
      refine xw_pS 117 dL_strings_114 rfl ok_L_told s_L_14 (S_L_told lT_n lT_c (N.v0 I) (N.v1 I) (N.v2 I) (N.v3 I) hR1 hR2 hC1 hC2 (by omega) hA2 hS2 (by omega)) (rfl) rfl rfl rfl rfl rfl rfl ?_
      rw [lwC.p I C, (znx_is I i).1]
      refine xw_dup2 118 dL_strings_117 rfl rfl rfl ?_
      refine xw_ialv (j := (znx w i)) 119 dL_strings_118 rfl (lT_w) (rfl) (by omega) (by omega) (hW (znx w i) hv9) ?_
      refine xw_iconst 120 (nI 1) dL_strings_119 rfl (xofI 1) ?_
      refine xw_iadd 121 dL_strings_120 rfl ?_
      rw [nI_add]
      refine xw_iastore (j := (znx w i)) 122 dL_strings_121 rfl (lT_w) (rfl) (by omega) (by omega) (lT_sw) ?_
      refine xw_iinc (ls' := [(12, _), (11, _), (10, _), (9, _), (8, _), (7, _), (0, _), (1, _), (2, _), (3, _), (4, _), (5, _), (6, _)]) 125 _ dL_strings_122 rfl rfl (xnI_inc _) rfl rfl ?_
      refine xw_goto 84 dL_strings_125 rfl ?_
      exact xW.pick [0, 1, 2, 3, 4, 5, 6, 7, 8, 9, 10, 11, 12] rfl (ih)
theorem stW2 {u mm c : Nat} {fc : Nat → Nat} {f : Nat → Int32} (hq : q < 6) (hm : m ≤ 6) (N : lwN w m n) (L : lwA w ch be st) (hW : ∀ d, d < 6 → f d = nI (zocc fc mm d)) (next : (∀ d, d < 6 → nI (zocc fc mm d) ≤ w (9 + d)) → xW G L_strings lwQ 161 [(11, .ref (J.length + 75)), (10, .int (nI c)), (9, .int (nI mm)), (8, .int a8), (7, .int (nI u)), (0, .ref 0), (1, .int a0), (2, .int b0), (3, .ref 71), (4, .ref 72), (5, .ref 73), (6, .ref 74)] [] (bHp w sv (nI q) (nI m) (nI 0) co sx (lT n ch be st (J ++ [.inl (0, 6, .inl f)]))) x kc ks) :
    ∀ (t i : Nat), i + t = 6 → (∀ d, d < i → nI (zocc fc mm d) ≤ w (9 + d)) → xW G L_strings lwQ 131 [(12, .int (nI i)), (11, .ref (J.length + 75)), (10, .int (nI c)), (9, .int (nI mm)), (8, .int a8), (7, .int (nI u)), (0, .ref 0), (1, .int a0), (2, .int b0), (3, .ref 71), (4, .ref 72), (5, .ref 73), (6, .ref 74)] [] (bHp w sv (nI q) (nI m) (nI 0) co sx (lT n ch be st (J ++ [.inl (0, 6, .inl f)]))) x kc ks := by
  intro t
  induction t with
  | zero =>
    intro i hi h
    obtain rfl : i = 6 := by omega
    have next := next h
    refine xw_iload 133 dL_strings_131 rfl rfl ?_
    refine xw_bipush 135 (nI 6) dL_strings_133 rfl (by decide) ?_
    refine xw_icmp_ge 161 138 dL_strings_135 rfl rfl (fun h135 => ?_) (fun h135 => absurd (by decide) h135)
    exact xW.pick [1, 2, 3, 4, 5, 6, 7, 8, 9, 10, 11, 12] rfl (next)
  | succ t ih =>
    intro i hi h
    have hi6 : i < 6 := by omega
    refine xw_iload 133 dL_strings_131 rfl rfl ?_
    refine xw_bipush 135 (nI 6) dL_strings_133 rfl (by decide) ?_
    refine xw_icmp_ge 161 138 dL_strings_135 rfl rfl (fun h135 => absurd h135 (nI_ge hi6 (by omega))) (fun h135 => ?_)
    refine xw_aload 140 dL_strings_138 rfl rfl rfl ?_
    refine xw_iload 142 dL_strings_140 rfl rfl ?_
    refine xw_ialv (j := i) 143 dL_strings_142 rfl (lT_w) (rfl) (by omega) (by omega) (hW i hi6) ?_
    refine xw_aload_n 144 dL_strings_143 rfl rfl rfl ?_
    refine xw_bipush 146 (nI 10) dL_strings_144 rfl (by decide) ?_
    refine xw_iload 148 dL_strings_146 rfl rfl ?_
    refine xw_iadd 149 dL_strings_148 rfl ?_
    refine xw_ialv (j := 10 + i) 150 dL_strings_149 rfl (lT_n) (nI_add _ _) (by omega) (by omega) (N.a hi6) ?_
    refine xw_icmp_le 155 153 dL_strings_150 rfl rfl (fun h150 => ?_) (fun h150 => ?_)
    · refine xw_iinc (ls' := [(12, _), (11, _), (10, _), (9, _), (8, _), (7, _), (0, _), (1, _), (2, _), (3, _), (4, _), (5, _), (6, _)]) 158 _ dL_strings_155 rfl rfl (xnI_inc _) rfl rfl ?_
      refine xw_goto 131 dL_strings_158 rfl ?_
      exact xW.pick [0, 1, 2, 3, 4, 5, 6, 7, 8, 9, 10, 11, 12] rfl (ih (i + 1) (by omega) (fun d hd => by rcases (show d < i ∨ d = i by omega) with g | g; exact h d g; rw [g]; exact h150))
    · refine xw_iconst 154 (nI 1) dL_strings_153 rfl (xofI 1) ?_
      exact xw_zreturn dL_strings_154 rfl (Or.inr rfl) (⟨rfl, (w, sv, q, m, 0, co), sx, _, ch, be, st, _, ⟨hq, hm, rfl, N, L⟩, rfl⟩)
theorem stW3 {u mm c : Nat} {fc : Nat → Nat} {J1 : List xE} (I : xInv w) (N : lwN w m n) (C : lwC w ch) (hv : (u < 2 ∧ fc = fun _ => c) ∨ (2 ≤ u ∧ fc = znx w)) (hf : ∀ j, j < mm → fc j < 6) (hu : u < 10) (hmm : mm ≤ 12) (hM : zI w 6 + mm ≤ 240) (next : ∀ n1 be1 : Nat → Int32, lwT w n be fc mm n1 be1 → xW G L_strings lwQ 230 [(10, .int (nI c)), (9, .int (nI mm)), (8, .int a8), (7, .int (nI u)), (0, .ref 0), (1, .int a0), (2, .int b0), (3, .ref 71), (4, .ref 72), (5, .ref 73), (6, .ref 74)] [] (bHp w sv (nI q) (nI m) (nI 0) co sx (lT n1 ch be1 st J1)) x kc ks) :
    ∀ (t i : Nat) (n1 be1 : Nat → Int32), i + t = mm → lwT w n be fc i n1 be1 → xW G L_strings lwQ 164 [(12, .int (nI i)), (10, .int (nI c)), (9, .int (nI mm)), (8, .int a8), (7, .int (nI u)), (0, .ref 0), (1, .int a0), (2, .int b0), (3, .ref 71), (4, .ref 72), (5, .ref 73), (6, .ref 74)] [] (bHp w sv (nI q) (nI m) (nI 0) co sx (lT n1 ch be1 st J1)) x kc ks := by
  have hA1 := I.iA.2.1
  have hA2 := I.iA.2.2
  have hS2 := I.iS.2.2
  have hH2 := I.iH.2.2
  have hR1 := I.iR.2.1
  have hR2 := I.iR.2.2
  have hC1 := I.iC.2.1
  have hC2 := I.iC.2.2
  have hM2 := I.iM.2.2
  have hK1 := I.iK.2.1
  have hK2 := I.iK.2.2
  intro t
  induction t with
  | zero =>
    intro i n1 be1 hi T
    obtain rfl : i = mm := by omega
    have next := next n1 be1 T
    refine xw_iload 166 dL_strings_164 rfl rfl ?_
    refine xw_iload 168 dL_strings_166 rfl rfl ?_
    refine xw_icmp_ge 230 171 dL_strings_168 rfl rfl (fun h168 => ?_) (fun h168 => absurd (nI_le (by omega) (by omega)) h168)
    exact xW.pick [1, 2, 3, 4, 5, 6, 7, 8, 9, 10, 11] rfl (next)
  | succ t ih =>
    intro i n1 be1 hi T
    have hv9 := hf i (by omega)
    have ih := fun n1 be1 => ih (i + 1) n1 be1 (by omega)
    rcases hv with ⟨h2, h3⟩ | ⟨h2, h3⟩
    · have e9 : c = fc i := (congrFun h3 i).symm
      rw [← e9] at hv9
      have ih := ih _ _ (T.step e9 hv9)
      refine xw_iload 166 dL_strings_164 rfl rfl ?_
      refine xw_iload 168 dL_strings_166 rfl rfl ?_
      refine xw_icmp_ge 230 171 dL_strings_168 rfl rfl (fun h168 => absurd h168 (nI_ge (by omega) (by omega))) (fun h168 => ?_)
      refine xw_iload 173 dL_strings_171 rfl rfl ?_
      refine xw_iconst 174 (nI 2) dL_strings_173 rfl (xofI 2) ?_
      refine xw_icmp_ge 182 177 dL_strings_174 rfl rfl (fun h174 => absurd h174 (nI_ge (by omega) (by omega))) (fun h174 => ?_)
      refine xw_iload 179 dL_strings_177 rfl rfl ?_
      refine xw_goto 192 dL_strings_179 rfl ?_
      refine xw_istore (ls' := [(13, _), (12, _), (10, _), (9, _), (8, _), (7, _), (0, _), (1, _), (2, _), (3, _), (4, _), (5, _), (6, _)]) 194 dL_strings_192 rfl rfl rfl ?_
      refine xw_aload 196 dL_strings_194 rfl rfl rfl ?_
      refine xw_aload_n 197 dL_strings_196 rfl rfl rfl ?_
      refine xw_bipush 199 (nI 6) dL_strings_197 rfl (by decide) ?_
      refine xw_ialv (j := 6) 200 dL_strings_199 rfl (lT_n) (rfl) (by decide) (by decide) (T.1) ?_
      refine xw_iload 202 dL_strings_200 rfl rfl ?_
      refine xw_pSv 205 dL_strings_202 rfl ok_L_put s_L_36 (S_L_put (h1 := (bHp w sv (nI q) (nI m) (nI 0) co sx (lT n1 ch (lput be1 (zI w 6 + i) c) st J1))) lT_b (by omega) (by omega) lT_sb) (rfl) rfl rfl rfl rfl rfl rfl ?_
      refine xw_aload_n 206 dL_strings_205 rfl rfl rfl ?_
      refine xw_bipush 208 (nI 10) dL_strings_206 rfl (by decide) ?_
      refine xw_iload 210 dL_strings_208 rfl rfl ?_
      refine xw_iadd 211 dL_strings_210 rfl ?_
      rw [nI_add]
      refine xw_dup2 212 dL_strings_211 rfl rfl rfl ?_
      refine xw_ialv (j := 10 + c) 213 dL_strings_212 rfl (lT_n) (rfl) (by omega) (by omega) (T.2.2.1 c hv9) ?_
      refine xw_iconst 214 (nI 1) dL_strings_213 rfl (xofI 1) ?_
      refine xw_isub 215 dL_strings_214 rfl ?_
      refine xw_iastore (j := 10 + c) 216 dL_strings_215 rfl (lT_n) (rfl) (by omega) (by omega) (lT_sn) ?_
      refine xw_aload_n 217 dL_strings_216 rfl rfl rfl ?_
      refine xw_bipush 219 (nI 6) dL_strings_217 rfl (by decide) ?_
      refine xw_dup2 220 dL_strings_219 rfl rfl rfl ?_
      refine xw_ialv (j := 6) 221 dL_strings_220 rfl (lT_n) (rfl) (by decide) (by decide) ((upd_ne (by omega)).trans T.1) ?_
      refine xw_iconst 222 (nI 1) dL_strings_221 rfl (xofI 1) ?_
      refine xw_iadd 223 dL_strings_222 rfl ?_
      rw [nI_add]
      refine xw_iastore (j := 6) 224 dL_strings_223 rfl (lT_n) (rfl) (by decide) (by decide) (lT_sn) ?_
      refine xw_iinc (ls' := [(12, _), (13, _), (10, _), (9, _), (8, _), (7, _), (0, _), (1, _), (2, _), (3, _), (4, _), (5, _), (6, _)]) 227 _ dL_strings_224 rfl rfl (xnI_inc _) rfl rfl ?_
      refine xw_goto 164 dL_strings_227 rfl ?_
      exact xW.pick [0, 2, 3, 4, 5, 6, 7, 8, 9, 10, 11, 12] rfl (ih)
    · have e9 : znx w i = fc i := (congrFun h3 i).symm
      rw [← e9] at hv9
      have ih := ih _ _ (T.step e9 hv9)
      refine xw_iload 166 dL_strings_164 rfl rfl ?_
      refine xw_iload 168 dL_strings_166 rfl rfl ?_
      refine xw_icmp_ge 230 171 dL_strings_168 rfl rfl (fun h168 => absurd h168 (nI_ge (by omega) (by omega))) (fun h168 => ?_)
      refine xw_iload 173 dL_strings_171 rfl rfl ?_
      refine xw_iconst 174 (nI 2) dL_strings_173 rfl (xofI 2) ?_
      refine xw_icmp_ge 182 177 dL_strings_174 rfl rfl (fun h174 => ?_) (fun h174 => absurd (nI_le (by omega) (by omega)) h174)
      refine xw_aload_n 183 dL_strings_182 rfl rfl rfl ?_
      refine xw_aload 185 dL_strings_183 rfl rfl rfl ?_
      refine xw_aload_n 186 dL_strings_185 rfl rfl rfl ?_
      refine xw_bipush 188 (nI 6) dL_strings_186 rfl (by decide) ?_
      refine xw_ialv (j := 6) 189 dL_strings_188 rfl (lT_n) (rfl) (by decide) (by decide) (T.1) ?_
      refine xw_pS 192 dL_strings_189 rfl ok_L_told s_L_14 (S_L_told lT_n lT_c ((T.2.1 0 (by decide) (by decide)).trans (N.v0 I)) ((T.2.1 1 (by decide) (by decide)).trans (N.v1 I)) ((T.2.1 2 (by decide) (by decide)).trans (N.v2 I)) ((T.2.1 3 (by decide) (by decide)).trans (N.v3 I)) hR1 hR2 hC1 hC2 (by omega) hA2 hS2 (by omega)) (rfl) rfl rfl rfl rfl rfl rfl ?_
      rw [lwC.p I C, (znx_is I i).1]
      refine xw_istore (ls' := [(13, _), (12, _), (10, _), (9, _), (8, _), (7, _), (0, _), (1, _), (2, _), (3, _), (4, _), (5, _), (6, _)]) 194 dL_strings_192 rfl rfl rfl ?_
      refine xw_aload 196 dL_strings_194 rfl rfl rfl ?_
      refine xw_aload_n 197 dL_strings_196 rfl rfl rfl ?_
      refine xw_bipush 199 (nI 6) dL_strings_197 rfl (by decide) ?_
      refine xw_ialv (j := 6) 200 dL_strings_199 rfl (lT_n) (rfl) (by decide) (by decide) (T.1) ?_
      refine xw_iload 202 dL_strings_200 rfl rfl ?_
      refine xw_pSv 205 dL_strings_202 rfl ok_L_put s_L_36 (S_L_put (h1 := (bHp w sv (nI q) (nI m) (nI 0) co sx (lT n1 ch (lput be1 (zI w 6 + i) (znx w i)) st J1))) lT_b (by omega) (by omega) lT_sb) (rfl) rfl rfl rfl rfl rfl rfl ?_
      refine xw_aload_n 206 dL_strings_205 rfl rfl rfl ?_
      refine xw_bipush 208 (nI 10) dL_strings_206 rfl (by decide) ?_
      refine xw_iload 210 dL_strings_208 rfl rfl ?_
      refine xw_iadd 211 dL_strings_210 rfl ?_
      rw [nI_add]
      refine xw_dup2 212 dL_strings_211 rfl rfl rfl ?_
      refine xw_ialv (j := 10 + (znx w i)) 213 dL_strings_212 rfl (lT_n) (rfl) (by omega) (by omega) (T.2.2.1 (znx w i) hv9) ?_
      refine xw_iconst 214 (nI 1) dL_strings_213 rfl (xofI 1) ?_
      refine xw_isub 215 dL_strings_214 rfl ?_
      refine xw_iastore (j := 10 + (znx w i)) 216 dL_strings_215 rfl (lT_n) (rfl) (by omega) (by omega) (lT_sn) ?_
      refine xw_aload_n 217 dL_strings_216 rfl rfl rfl ?_
      refine xw_bipush 219 (nI 6) dL_strings_217 rfl (by decide) ?_
      refine xw_dup2 220 dL_strings_219 rfl rfl rfl ?_
      refine xw_ialv (j := 6) 221 dL_strings_220 rfl (lT_n) (rfl) (by decide) (by decide) ((upd_ne (by omega)).trans T.1) ?_
      refine xw_iconst 222 (nI 1) dL_strings_221 rfl (xofI 1) ?_
      refine xw_iadd 223 dL_strings_222 rfl ?_
      rw [nI_add]
      refine xw_iastore (j := 6) 224 dL_strings_223 rfl (lT_n) (rfl) (by decide) (by decide) (lT_sn) ?_
      refine xw_iinc (ls' := [(12, _), (13, _), (10, _), (9, _), (8, _), (7, _), (0, _), (1, _), (2, _), (3, _), (4, _), (5, _), (6, _)]) 227 _ dL_strings_224 rfl rfl (xnI_inc _) rfl rfl ?_
      refine xw_goto 164 dL_strings_227 rfl ?_
      exact xW.pick [0, 2, 3, 4, 5, 6, 7, 8, 9, 10, 11, 12] rfl (ih)
theorem stT {u mm c : Nat} (hq : q < 6) (hm : m ≤ 6) (N : lwN w m n) (L : lwA w ch be st) (hu : u < 6) (hc : c < 6) (h1 : 1 ≤ mm) (h2 : mm ≤ 12) (hM : zI w 6 + mm ≤ 240) (hr : zlen w (zI w 7 - 1) + mm ≤ zI w 2) : xW G L_strings lwQ 75 [(10, .int (nI c)), (9, .int (nI mm)), (8, .int a8), (7, .int (nI u)), (0, .ref 0), (1, .int a0), (2, .int b0), (3, .ref 71), (4, .ref 72), (5, .ref 73), (6, .ref 74)] [] (bHp w sv (nI q) (nI m) (nI 0) co sx (lT n ch be st J)) x 10 60 := by
  have I := L.1
  have C := L.2.1
  have hA1 := I.iA.2.1
  have hA2 := I.iA.2.2
  have hS2 := I.iS.2.2
  have hH2 := I.iH.2.2
  have hR1 := I.iR.2.1
  have hR2 := I.iR.2.2
  have hC1 := I.iC.2.1
  have hC2 := I.iC.2.2
  have hM2 := I.iM.2.2
  have hK1 := I.iK.2.1
  have hK2 := I.iK.2.2
  have hl : zlen w (zI w 7 - 1) ≤ 240 := by
    have := (I.el (s := zI w 7 - 1) (by omega)).2
    unfold zlen
    omega
  obtain ⟨fc, hv, hf⟩ : ∃ fc : Nat → Nat, ((u < 2 ∧ fc = fun _ => c) ∨ (2 ≤ u ∧ fc = znx w)) ∧ (∀ j, j < mm → fc j < 6) := by
    by_cases g : u < 2
    · exact ⟨fun _ => c, Or.inl ⟨g, rfl⟩, fun _ _ => hc⟩
    · exact ⟨znx w, Or.inr ⟨by omega, rfl⟩, fun j _ => (znx_is I j).2⟩
  have s230 : ∀ (J1 : List xE) (n1 be1 : Nat → Int32), (∀ d, d < 6 → nI (zocc fc mm d) ≤ w (9 + d)) → lwT w n be fc mm n1 be1 → xW G L_strings lwQ 230 [(10, .int (nI c)), (9, .int (nI mm)), (8, .int a8), (7, .int (nI u)), (0, .ref 0), (1, .int a0), (2, .int b0), (3, .ref 71), (4, .ref 72), (5, .ref 73), (6, .ref 74)] [] (bHp w sv (nI q) (nI m) (nI 0) co sx (lT n1 ch be1 st J1)) x 9 54 := by
    intro J1 n1 be1 hW T
    have hcan : zcan w (zocc fc mm) mm = true := by
      unfold zcan
      rw [decide_eq_true hM, Bool.true_and, Bool.and_eq_true]
      refine ⟨decide_eq_true ?_, ?_⟩
      · rw [I.iH.1]
        exact (le_sub_iff (by omega) hl hH2).mpr hr
      · exact xall_iff.mpr (fun d hd => decide_eq_true (hW d hd))
    have L9 := L.take hM hf T.2.2.2.1 T.2.2.2.2
    have N9 : lwN (ztake w fc mm) (zrM m) (lsave n1 m) := N.take hf ((lsave_ne (by decide)).trans T.1) lsave_9 (fun k g1 g2 g3 => (lsave_ne g2).trans (T.2.1 k g1 g3)) (fun d hd => (lsave_ne (by omega)).trans (T.2.2.1 d hd))
    rcases hv with ⟨g2, h3⟩ | ⟨g2, h3⟩
    · refine xw_aload_n 231 dL_strings_230 rfl rfl rfl ?_
      refine xw_pSv 234 dL_strings_231 rfl ok_L_save s_L_43 (S_L_save (h1 := (bHp w sv (nI q) (nI m) (nI 0) co sx (lT (lsave n1 m) ch be1 st J1))) lT_n ((T.2.1 9 (by decide) (by decide)).trans N.v9) hm lT_sn) (rfl) rfl rfl rfl rfl rfl rfl ?_
      refine xw_iload 236 dL_strings_234 rfl rfl ?_
      refine xw_iconst 237 (nI 2) dL_strings_236 rfl (xofI 2) ?_
      refine xw_icmp_ge 251 240 dL_strings_237 rfl rfl (fun h237 => absurd h237 (nI_ge (by omega) (by omega))) (fun h237 => ?_)
      refine xw_aload_n 241 dL_strings_240 rfl rfl rfl ?_
      refine xw_iload 243 dL_strings_241 rfl rfl ?_
      refine xw_iload 245 dL_strings_243 rfl rfl ?_
      refine xw_lVQ 248 dL_strings_245 rfl ok_B_string s_L_63 (S_L_str h3 L.1 hq hm hc h1 (by omega) hcan) (lq_nt) (lT_o) rfl rfl rfl rfl rfl rfl rfl rfl rfl (fun ov9 hp9 q9 => ?_)
      obtain ⟨q1, w2, sx2, A2, rfl⟩ := q9
      cases q1
      refine xw_goto 257 dL_strings_248 rfl ?_
      refine xw_aload_n 258 dL_strings_257 rfl rfl rfl ?_
      refine xw_bipush 260 (nI 6) dL_strings_258 rfl (by decide) ?_
      refine xw_ialv (j := 6) 261 dL_strings_260 rfl (lT_n) (rfl) (by decide) (by decide) ((lsave_ne (by decide)).trans T.1) ?_
      refine xw_icmp_ne 268 264 dL_strings_261 rfl rfl (fun h261 => absurd (rfl) h261) (fun h261 => ?_)
      refine xw_iconst 265 (nI 1) dL_strings_264 rfl (xofI 1) ?_
      refine xw_goto 269 dL_strings_265 rfl ?_
      exact xw_zreturn dL_strings_269 rfl (by decide) (lwQ_sav hq N9 L9 A2)
    · refine xw_aload_n 231 dL_strings_230 rfl rfl rfl ?_
      refine xw_pSv 234 dL_strings_231 rfl ok_L_save s_L_43 (S_L_save (h1 := (bHp w sv (nI q) (nI m) (nI 0) co sx (lT (lsave n1 m) ch be1 st J1))) lT_n ((T.2.1 9 (by decide) (by decide)).trans N.v9) hm lT_sn) (rfl) rfl rfl rfl rfl rfl rfl ?_
      refine xw_iload 236 dL_strings_234 rfl rfl ?_
      refine xw_iconst 237 (nI 2) dL_strings_236 rfl (xofI 2) ?_
      refine xw_icmp_ge 251 240 dL_strings_237 rfl rfl (fun h237 => ?_) (fun h237 => absurd (nI_le (by omega) (by omega)) h237)
      refine xw_aload_n 252 dL_strings_251 rfl rfl rfl ?_
      refine xw_iload 254 dL_strings_252 rfl rfl ?_
      refine xw_lVQ 257 dL_strings_254 rfl ok_B_stringNext s_L_66 (S_L_nex h3 L.1 hq hm h1 (by omega) hcan) (lq_nt) (lT_o) rfl rfl rfl rfl rfl rfl rfl rfl rfl (fun ov9 hp9 q9 => ?_)
      obtain ⟨q1, w2, sx2, A2, rfl⟩ := q9
      cases q1
      refine xw_aload_n 258 dL_strings_257 rfl rfl rfl ?_
      refine xw_bipush 260 (nI 6) dL_strings_258 rfl (by decide) ?_
      refine xw_ialv (j := 6) 261 dL_strings_260 rfl (lT_n) (rfl) (by decide) (by decide) ((lsave_ne (by decide)).trans T.1) ?_
      refine xw_icmp_ne 268 264 dL_strings_261 rfl rfl (fun h261 => absurd (rfl) h261) (fun h261 => ?_)
      refine xw_iconst 265 (nI 1) dL_strings_264 rfl (xofI 1) ?_
      refine xw_goto 269 dL_strings_265 rfl ?_
      exact xw_zreturn dL_strings_269 rfl (by decide) (lwQ_sav hq N9 L9 A2)
  refine xw_bipush 77 (nI 6) dL_strings_75 rfl (by decide) ?_
  refine xW.anyx 0 ?_
  refine xw_newarray_int 79 dL_strings_77 rfl (rfl) (by decide) rfl rfl ?_
  refine xW.anyx x ?_
  rw [lT_len, lT_new]
  refine xw_astore (ls' := [(11, _), (10, _), (9, _), (8, _), (7, _), (0, _), (1, _), (2, _), (3, _), (4, _), (5, _), (6, _)]) 81 dL_strings_79 rfl rfl rfl rfl ?_
  refine xw_iconst 82 (nI 0) dL_strings_81 rfl (xofI 0) ?_
  refine xw_istore (ls' := [(12, _), (11, _), (10, _), (9, _), (8, _), (7, _), (0, _), (1, _), (2, _), (3, _), (4, _), (5, _), (6, _)]) 84 dL_strings_82 rfl rfl rfl ?_
  refine xW.pick [0, 1, 2, 3, 4, 5, 6, 7, 8, 9, 10, 11, 12] rfl (stW1 (fc := fc) I N C hv hf (by omega) h2 (fun f hW => ?_) mm 0 (fun _ => 0) (Nat.zero_add _) (fun d hd => rfl))
  refine xw_iconst 129 (nI 0) dL_strings_128 rfl (xofI 0) ?_
  refine xw_istore (ls' := [(12, _), (11, _), (10, _), (9, _), (8, _), (7, _), (0, _), (1, _), (2, _), (3, _), (4, _), (5, _), (6, _)]) 131 dL_strings_129 rfl rfl rfl ?_
  refine xW.pick [0, 1, 2, 3, 4, 5, 6, 7, 8, 9, 10, 11, 12] rfl (stW2 hq hm N L hW (fun hW2 => ?_) 6 0 rfl (fun d hd => absurd hd (Nat.not_lt_zero _)))
  refine xw_iconst 162 (nI 0) dL_strings_161 rfl (xofI 0) ?_
  refine xw_istore (ls' := [(12, _), (11, _), (10, _), (9, _), (8, _), (7, _), (0, _), (1, _), (2, _), (3, _), (4, _), (5, _), (6, _)]) 164 dL_strings_162 rfl rfl rfl ?_
  exact xW.pick [0, 2, 3, 4, 5, 6, 7, 8, 9, 10, 11, 12] rfl (stW3 (fc := fc) I N C hv hf (by omega) h2 hM (fun n1 be1 T => s230 _ n1 be1 hW2 T) mm 0 n be (Nat.zero_add _) ⟨N.v6 I, fun k _ _ => rfl, fun d hd => (N.a hd).trans (Int32.sub_zero _).symm, fun j _ => rfl, fun j hj => absurd hj (Nat.not_lt_zero _)⟩)
end P49

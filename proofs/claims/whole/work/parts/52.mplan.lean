/-! ===== the model: the plan ===== -/
theorem far_nI : (100000 : Int32) = nI 100000 := by decide
theorem xdecI (n : Nat) : nI n + Int32.ofInt (-1) = nI n - nI 1 := (Int32.sub_eq_add_neg (nI n) (nI 1)).symm
/-- the least of n ways on from a -/
def zmi (N : Nat) (hd : Nat → Bool) (f : Nat → Nat) (a : Nat) : Nat → Nat
  | 0 => 100000
  | n + 1 => if (a + (n + 1) = N ∨ hd (a + (n + 1)) = true) ∧ 1 + f (a + (n + 1)) < zmi N hd f a n then 1 + f (a + (n + 1)) else zmi N hd f a n
theorem zmi_le {N : Nat} {hd : Nat → Bool} {f : Nat → Nat} {a : Nat} : ∀ n, zmi N hd f a n ≤ 100000
  | 0 => Nat.le_refl _
  | n + 1 => by
    have := zmi_le (N := N) (hd := hd) (f := f) (a := a) n
    unfold zmi
    split <;> omega
theorem zmi_to {N : Nat} {hd : Nat → Bool} {f : Nat → Nat} {a j : Nat} : ∀ {n : Nat}, 1 ≤ j → j ≤ n → (a + j = N ∨ hd (a + j) = true) → zmi N hd f a n ≤ 1 + f (a + j)
  | 0, h1, h2, _ => by omega
  | n + 1, h1, h2, hv => by
    by_cases e : j = n + 1
    · subst e
      unfold zmi
      by_cases q : 1 + f (a + (n + 1)) < zmi N hd f a n
      · rw [if_pos ⟨hv, q⟩]
        exact Nat.le_refl _
      · rw [if_neg (fun z => q z.2)]
        omega
    · have := zmi_to (f := f) (n := n) h1 (by omega) hv
      unfold zmi
      split <;> omega
theorem zmi_is {N : Nat} {hd : Nat → Bool} {f : Nat → Nat} {a : Nat} : ∀ n, zmi N hd f a n = 100000 ∨ ∃ j, 1 ≤ j ∧ j ≤ n ∧ (a + j = N ∨ hd (a + j) = true) ∧ zmi N hd f a n = 1 + f (a + j) ∧ 1 + f (a + j) < 100000
  | 0 => Or.inl rfl
  | n + 1 => by
    have hle := zmi_le (N := N) (hd := hd) (f := f) (a := a) n
    unfold zmi
    by_cases q : (a + (n + 1) = N ∨ hd (a + (n + 1)) = true) ∧ 1 + f (a + (n + 1)) < zmi N hd f a n
    · rw [if_pos q]
      exact Or.inr ⟨n + 1, by omega, Nat.le_refl _, q.1, rfl, by omega⟩
    · rw [if_neg q]
      rcases zmi_is (N := N) (hd := hd) (f := f) (a := a) n with h | ⟨j, h1, h2, h3, h4, h5⟩
      · exact Or.inl h
      · exact Or.inr ⟨j, h1, by omega, h3, h4, h5⟩
theorem zmi_congr {N : Nat} {hd : Nat → Bool} {f g : Nat → Nat} {a : Nat} : ∀ {n : Nat}, (∀ j, 1 ≤ j → j ≤ n → f (a + j) = g (a + j)) → zmi N hd f a n = zmi N hd g a n
  | 0, _ => rfl
  | n + 1, h => by
    unfold zmi
    rw [zmi_congr (n := n) (fun j h1 h2 => h j h1 (by omega)), h (n + 1) (by omega) (Nat.le_refl _)]
/-- the table behind d steps -/
def zft (H N : Nat) (hd : Nat → Bool) : Nat → Nat → Nat
  | 0, _ => 0
  | d + 1, k => if k = N - (d + 1) then zmi N hd (zft H N hd d) k (min H (N - k)) else zft H N hd d k
theorem zft_keep {H N : Nat} {hd : Nat → Bool} {d k : Nat} (hk : N - d ≤ k) : ∀ e, d + e ≤ N → zft H N hd (d + e) k = zft H N hd d k
  | 0, _ => rfl
  | e + 1, h => by
    have := zft_keep (H := H) (hd := hd) hk e (by omega)
    rw [← Nat.add_assoc]
    conv => lhs; unfold zft
    rw [if_neg (by omega)]
    exact this
def zF (H N : Nat) (hd : Nat → Bool) : Nat → Nat := zft H N hd N
theorem zF_N {H N : Nat} {hd : Nat → Bool} : zF H N hd N = 0 := by
  have := zft_keep (H := H) (hd := hd) (d := 0) (k := N) (N := N) (by omega) N (by omega)
  rw [Nat.zero_add] at this
  exact this
theorem zF_s {H N : Nat} {hd : Nat → Bool} {a : Nat} (ha : a < N) : zF H N hd a = zmi N hd (zF H N hd) a (min H (N - a)) := by
  have h1 := zft_keep (H := H) (hd := hd) (d := N - a - 1 + 1) (k := a) (N := N) (by omega) a (by omega)
  rw [show N - a - 1 + 1 + a = N by omega] at h1
  show zft H N hd N a = _
  rw [h1]
  conv => lhs; unfold zft
  rw [if_pos (by omega)]
  refine zmi_congr fun j j1 j2 => ?_
  have h2 := zft_keep (H := H) (hd := hd) (d := N - a - 1) (k := a + j) (N := N) (by omega) (a + 1) (by omega)
  rw [show N - a - 1 + (a + 1) = N by omega] at h2
  exact h2.symm
theorem zF_le {H N : Nat} {hd : Nat → Bool} {a : Nat} (ha : a ≤ N) : zF H N hd a ≤ 100000 := by
  by_cases e : a = N
  · rw [e, zF_N]; omega
  · rw [zF_s (by omega)]; exact zmi_le _
theorem zF_mono {H N : Nat} {hd : Nat → Bool} {b : Nat} (hb : b ≤ N) : ∀ (t a : Nat), N - a ≤ t → a ≤ b → zF H N hd b ≤ zF H N hd a := by
  intro t
  induction t with
  | zero =>
    intro a ht hab
    have e : a = b := by omega
    rw [e]; exact Nat.le_refl _
  | succ t ih =>
    intro a ht hab
    by_cases e : a = b
    · rw [e]; exact Nat.le_refl _
    · have ha : a < N := by omega
      have hs := zF_s (H := H) (hd := hd) ha
      rcases zmi_is (N := N) (hd := hd) (f := zF H N hd) (a := a) (min H (N - a)) with h | ⟨j, h1, h2, h3, h4, h5⟩
      · rw [hs, h]; exact zF_le hb
      · rw [hs, h4]
        have hjH : j ≤ H := Nat.le_trans h2 (Nat.min_le_left _ _)
        have hjN : j ≤ N - a := Nat.le_trans h2 (Nat.min_le_right _ _)
        by_cases q : b < a + j
        · rw [zF_s (show b < N by omega)]
          have e2 : b + (a + j - b) = a + j := by omega
          have := zmi_to (N := N) (hd := hd) (f := zF H N hd) (a := b) (j := a + j - b) (n := min H (N - b)) (by omega) (Nat.le_min.mpr ⟨by omega, by omega⟩) (by rw [e2]; exact h3)
          rw [e2] at this
          exact this
        · have := ih (a + j) (by omega) (by omega)
          omega
theorem xlst_none {p : Nat → Bool} {f : Nat} : ∀ {t k : Nat}, xlst p f t = none → f ≤ k → k < f + t → ¬ p k = true
  | 0, k, _, h1, h2 => by omega
  | t + 1, k, h, h1, h2 => by
    unfold xlst at h
    by_cases e : p (f + t) = true
    · rw [if_pos e] at h; cases h
    · rw [if_neg e] at h
      by_cases q : k = f + t
      · rw [q]; exact e
      · exact xlst_none h h1 (by omega)
theorem xlst_last {p : Nat → Bool} {f n : Nat} : ∀ {t k : Nat}, xlst p f t = some n → n < k → k < f + t → ¬ p k = true
  | 0, k, h, _, _ => by cases h
  | t + 1, k, h, h1, h2 => by
    unfold xlst at h
    by_cases e : p (f + t) = true
    · rw [if_pos e] at h
      cases h
      omega
    · rw [if_neg e] at h
      by_cases q : k = f + t
      · rw [q]; exact e
      · exact xlst_last h h1 (by omega)
theorem zgr_s {z : Nat → Int32} {N n b : Nat} (h : b + zI z 2 < N) : zgr z N (n + 1) b = match xlst (zhd z) (b + 1) (zI z 2) with | none => none | some b' => (zgr z N n b').map (fun l => b' :: l) := if_pos h
theorem zgr_len {z : Nat → Int32} {N : Nat} : ∀ {n b : Nat} {l : List Nat}, zgr z N n b = some l → l.length ≤ n
  | 0, b, l, h => by cases h; exact Nat.le_refl _
  | n + 1, b, l, h => by
    by_cases hb : b + zI z 2 < N
    · rw [zgr_s hb] at h
      cases hx : xlst (zhd z) (b + 1) (zI z 2) with
      | none => rw [hx] at h; cases h
      | some b' =>
        rw [hx] at h
        dsimp only at h
        cases hg : zgr z N n b' with
        | none => rw [hg] at h; cases h
        | some l' =>
          rw [hg] at h
          cases h
          have := zgr_len hg
          show l'.length + 1 ≤ n + 1
          omega
    · rw [zgr_end hb] at h
      cases h
      exact Nat.zero_le _
theorem zpR_s {k s : Nat} {a : Int32} {l : List Nat} : zpR k a (some s) (some l) = if k ≤ s then (match l[s - k]? with | some b => nI b | none => a) else a := rfl
/-- each string as far as it goes: no way is better -/
theorem zgr_F {z : Nat → Int32} {N : Nat} (hN : N ≤ 240) (hH : 1 ≤ zI z 2) : ∀ (n b : Nat), n ≤ 240 → b < N → N - b ≤ n → (zgr z N n b = none → zF (zI z 2) N (zhd z) b = 100000) ∧ ∀ l, zgr z N n b = some l → zF (zI z 2) N (zhd z) b = 1 + l.length
  | 0, b, _, hb, hn => by omega
  | n + 1, b, h240, hb, hn => by
    have hs := zF_s (H := zI z 2) (hd := zhd z) hb
    by_cases hbH : b + zI z 2 < N
    · have hmin : min (zI z 2) (N - b) = zI z 2 := Nat.min_eq_left (by omega)
      rw [hmin] at hs
      rw [zgr_s hbH]
      cases hx : xlst (zhd z) (b + 1) (zI z 2) with
      | none =>
        refine ⟨fun _ => ?_, fun l h => by cases h⟩
        rcases zmi_is (N := N) (hd := zhd z) (f := zF (zI z 2) N (zhd z)) (a := b) (zI z 2) with h | ⟨j, h1, h2, h3, h4, h5⟩
        · rw [hs, h]
        · exfalso
          rcases h3 with h3 | h3
          · omega
          · exact xlst_none hx (show b + 1 ≤ b + j by omega) (by omega) h3
      | some b' =>
        obtain ⟨x1, x2, x3⟩ := xlst_some hx
        have ih := zgr_F hN hH n b' (by omega) (by omega) (by omega)
        have hto : zF (zI z 2) N (zhd z) b ≤ 1 + zF (zI z 2) N (zhd z) b' := by
          rw [hs]
          have e2 : b + (b' - b) = b' := by omega
          have := zmi_to (N := N) (hd := zhd z) (f := zF (zI z 2) N (zhd z)) (a := b) (j := b' - b) (n := zI z 2) (by omega) (by omega) (by rw [e2]; exact Or.inr x3)
          rw [e2] at this
          exact this
        have hfrom : zF (zI z 2) N (zhd z) b = 100000 ∨ (zF (zI z 2) N (zhd z) b < 100000 ∧ 1 + zF (zI z 2) N (zhd z) b' ≤ zF (zI z 2) N (zhd z) b) := by
          rcases zmi_is (N := N) (hd := zhd z) (f := zF (zI z 2) N (zhd z)) (a := b) (zI z 2) with h | ⟨j, h1, h2, h3, h4, h5⟩
          · exact Or.inl (by rw [hs, h])
          · refine Or.inr ?_
            have hle : b + j ≤ b' := by
              by_cases q : b' < b + j
              · exfalso
                rcases h3 with h3 | h3
                · omega
                · exact xlst_last hx q (by omega) h3
              · omega
            have hm := zF_mono (H := zI z 2) (N := N) (hd := zhd z) (b := b') (by omega) N (b + j) (by omega) hle
            rw [hs, h4]
            exact ⟨h5, by omega⟩
        dsimp only
        cases hg : zgr z N n b' with
        | none =>
          refine ⟨fun _ => ?_, fun l h => by cases h⟩
          have e := ih.1 hg
          rcases hfrom with h | ⟨h1, h2⟩
          · exact h
          · omega
        | some l' =>
          refine ⟨fun h => (by cases h), fun l h => ?_⟩
          cases h
          have e := ih.2 l' hg
          have hl := zgr_len hg
          have hn2 : l'.length ≤ 240 := by omega
          show _ = 1 + (l'.length + 1)
          rcases hfrom with h | ⟨h1, h2⟩
          · omega
          · omega
    · rw [zgr_end hbH]
      refine ⟨fun h => (by cases h), fun l h => ?_⟩
      cases h
      have hmin : min (zI z 2) (N - b) = N - b := Nat.min_eq_right (by omega)
      rw [hmin] at hs
      have e2 : b + (N - b) = N := by omega
      have h1 := zmi_to (N := N) (hd := zhd z) (f := zF (zI z 2) N (zhd z)) (a := b) (j := N - b) (n := N - b) (by omega) (Nat.le_refl _) (by rw [e2]; exact Or.inl rfl)
      rw [e2, zF_N, ← hs] at h1
      rcases zmi_is (N := N) (hd := zhd z) (f := zF (zI z 2) N (zhd z)) (a := b) (N - b) with h | ⟨j, j1, j2, j3, j4, j5⟩
      · rw [← hs] at h; omega
      · rw [← hs] at j4
        show _ = 1 + 0
        omega
section P52
variable {G : xG} {x : Nat} {A T : List xE} {z hi tx ot wa pR pC pM fe kc : Nat → Int32} {s ln : Nat} {th oR oC ps rr ha nu : Int32} {hs : Int64}
theorem S_M_layFewest {N : Nat} (hA : A.length = 71) (I : xInv z) (hN1 : 1 ≤ N) (hN : N ≤ 240) : xMet G M_layFewest [.ref 71, .int (nI N)] (mH A z (nI s) hi (nI ln) tx th ot oR oC wa pR pC pM ps rr ha nu fe kc hs T) x 0 0 (xRet none (mH A z (nI s) hi (nI ln) tx th ot oR oC wa pR pC pM ps rr ha nu (fun k => if 0 ≤ k ∧ k ≤ N then nI ((zF (zI z 2) N (zhd z)) k) else fe k) kc hs T)) := by
  have hA1 := I.iA.2.1
  have hA2 := I.iA.2.2
  have hS2 := I.iS.2.2
  have hR1 := I.iR.2.1
  have hR2 := I.iR.2.2
  have hC1 := I.iC.2.1
  have hC2 := I.iC.2.2
  have hM2 := I.iM.2.2
  have hK1 := I.iK.2.1
  have hK2 := I.iK.2.2
  have hH1 := I.iH.2.1
  have hH2 := I.iH.2.2
  have outer : ∀ (a : Nat), a ≤ N → xW G M_layFewest (xRet none (mH A z (nI s) hi (nI ln) tx th ot oR oC wa pR pC pM ps rr ha nu (fun k => if 0 ≤ k ∧ k ≤ N then nI ((zF (zI z 2) N (zhd z)) k) else fe k) kc hs T)) 11 [(2, .int (nI a - nI 1)), (0, .ref 71), (1, .int (nI N))] [] (mH A z (nI s) hi (nI ln) tx th ot oR oC wa pR pC pM ps rr ha nu (fun k => if a ≤ k ∧ k ≤ N then nI ((zF (zI z 2) N (zhd z)) k) else fe k) kc hs T) x 0 0 := by
    intro a
    induction a with
    | zero =>
      intro _
      refine xw_iload_n 12 dX5_layFewest_11 rfl rfl ?_
      refine xw_if_lt 121 15 dX5_layFewest_12 rfl rfl (fun h12 => ?_) (fun h12 => absurd (by decide) h12)
      exact xw_return dX5_layFewest_121 rfl (⟨rfl, rfl⟩)
    | succ a ih =>
      intro ha9
      have ih := ih (by omega)
      have hFs := zF_s (H := zI z 2) (hd := zhd z) (show a < N by omega)
      have eEnd : (upd (fun k => if (a + 1) ≤ k ∧ k ≤ N then nI ((zF (zI z 2) N (zhd z)) k) else fe k) a (nI (zmi N (zhd z) (zF (zI z 2) N (zhd z)) a (min (zI z 2) (N - a))))) = (fun k => if a ≤ k ∧ k ≤ N then nI ((zF (zI z 2) N (zhd z)) k) else fe k) := by
        rw [← hFs]
        funext k
        by_cases h : k = a
        · subst h
          rw [upd_at, if_pos ⟨Nat.le_refl _, by omega⟩]
        · rw [upd_ne h]
          by_cases h2 : a + 1 ≤ k ∧ k ≤ N
          · rw [if_pos h2, if_pos (show a ≤ k ∧ k ≤ N by omega)]
          · rw [if_neg h2, if_neg (show ¬ (a ≤ k ∧ k ≤ N) by omega)]
      have inner : ∀ (t n : Nat), n + t = (min (zI z 2) (N - a)) → xW G M_layFewest (xRet none (mH A z (nI s) hi (nI ln) tx th ot oR oC wa pR pC pM ps rr ha nu (fun k => if 0 ≤ k ∧ k ≤ N then nI ((zF (zI z 2) N (zhd z)) k) else fe k) kc hs T)) 27 [(3, .int (nI (a + 1 + n))), (0, .ref 71), (1, .int (nI N)), (2, .int (nI a))] [] (mH A z (nI s) hi (nI ln) tx th ot oR oC wa pR pC pM ps rr ha nu (upd (fun k => if (a + 1) ≤ k ∧ k ≤ N then nI ((zF (zI z 2) N (zhd z)) k) else fe k) a (nI (zmi N (zhd z) (zF (zI z 2) N (zhd z)) a n))) kc hs T) x 0 0 := by
        intro t
        induction t with
        | zero =>
          intro n hn
          have en : n = (min (zI z 2) (N - a)) := by omega
          rw [← en] at eEnd
          rw [eEnd]
          have hor : N < a + 1 + n ∨ a + zI z 2 < a + 1 + n := by
            rw [en]
            by_cases q : zI z 2 ≤ N - a
            · rw [Nat.min_eq_left q]; omega
            · rw [Nat.min_eq_right (by omega)]; omega
          by_cases q29 : N < a + 1 + n
          · skip
            refine xw_iload_n 28 dX5_layFewest_27 rfl rfl ?_
            refine xw_iload_n 29 dX5_layFewest_28 rfl rfl ?_
            refine xw_icmp_gt 115 32 dX5_layFewest_29 rfl rfl (fun h29 => ?_) (fun h29 => absurd (nI_lt q29 (by omega)) h29)
            refine xw_iinc (ls' := [(2, _), (3, _), (0, _), (1, _)]) 118 (nI a - nI 1) dX5_layFewest_115 rfl rfl (xdecI a) rfl rfl ?_
            refine xw_goto 11 dX5_layFewest_118 rfl ?_
            exact xW.pick [0, 2, 3] rfl (ih)
          · skip
            refine xw_iload_n 28 dX5_layFewest_27 rfl rfl ?_
            refine xw_iload_n 29 dX5_layFewest_28 rfl rfl ?_
            refine xw_icmp_gt 115 32 dX5_layFewest_29 rfl rfl (fun h29 => absurd h29 (nI_nlt (by omega) (by omega))) (fun h29 => ?_)
            refine xw_iload_n 33 dX5_layFewest_32 rfl rfl ?_
            refine xw_iload_n 34 dX5_layFewest_33 rfl rfl ?_
            refine xw_aload_n 35 dX5_layFewest_34 rfl rfl rfl ?_
            refine xw_get 38 dX5_layFewest_35 rfl f_X5_7 (xA hA rfl) rfl ?_
            refine xw_iconst 39 (nI 2) dX5_layFewest_38 rfl (xofI 2) ?_
            refine xw_ialv (j := 2) 40 dX5_layFewest_39 rfl (xA hA rfl) (rfl) (by decide) (by decide) (I.iH.1) ?_
            refine xw_iadd 41 dX5_layFewest_40 rfl ?_
            rw [nI_add]
            refine xw_icmp_gt 115 44 dX5_layFewest_41 rfl rfl (fun h41 => ?_) (fun h41 => absurd (nI_lt (by omega) (by omega)) h41)
            refine xw_iinc (ls' := [(2, _), (3, _), (0, _), (1, _)]) 118 (nI a - nI 1) dX5_layFewest_115 rfl rfl (xdecI a) rfl rfl ?_
            refine xw_goto 11 dX5_layFewest_118 rfl ?_
            exact xW.pick [0, 2, 3] rfl (ih)
        | succ t iht =>
          intro n hn
          have iht := iht (n + 1) (by omega)
          have hle : n + 1 ≤ (min (zI z 2) (N - a)) := by omega
          have hj1 : n + 1 ≤ zI z 2 := Nat.le_trans hle (Nat.min_le_left _ _)
          have hj2 : n + 1 ≤ N - a := Nat.le_trans hle (Nat.min_le_right _ _)
          have efr : (upd (fun k => if (a + 1) ≤ k ∧ k ≤ N then nI ((zF (zI z 2) N (zhd z)) k) else fe k) a (nI (zmi N (zhd z) (zF (zI z 2) N (zhd z)) a n))) a = nI (zmi N (zhd z) (zF (zI z 2) N (zhd z)) a n) := upd_at
          have eto : (upd (fun k => if (a + 1) ≤ k ∧ k ≤ N then nI ((zF (zI z 2) N (zhd z)) k) else fe k) a (nI (zmi N (zhd z) (zF (zI z 2) N (zhd z)) a n))) (a + 1 + n) = nI ((zF (zI z 2) N (zhd z)) (a + (n + 1))) := by
            rw [upd_ne (by omega), if_pos (show a + 1 ≤ a + 1 + n ∧ a + 1 + n ≤ N by omega), show a + 1 + n = a + (n + 1) by omega]
          have hFle := zF_le (H := zI z 2) (N := N) (hd := zhd z) (a := a + (n + 1)) (by omega)
          have hmle := zmi_le (N := N) (hd := zhd z) (f := (zF (zI z 2) N (zhd z))) (a := a) n
          have done : ∀ v : Int32, v = nI (zmi N (zhd z) (zF (zI z 2) N (zhd z)) a (n + 1)) → upd (upd (fun k => if (a + 1) ≤ k ∧ k ≤ N then nI ((zF (zI z 2) N (zhd z)) k) else fe k) a (nI (zmi N (zhd z) (zF (zI z 2) N (zhd z)) a n))) a v = (upd (fun k => if (a + 1) ≤ k ∧ k ≤ N then nI ((zF (zI z 2) N (zhd z)) k) else fe k) a (nI (zmi N (zhd z) (zF (zI z 2) N (zhd z)) a (n + 1)))) := fun v hv => by rw [hv, upd_upd]
          have keep : ¬ (a + (n + 1) = N ∨ zhd z (a + (n + 1)) = true) ∨ ¬ 1 + (zF (zI z 2) N (zhd z)) (a + (n + 1)) < zmi N (zhd z) (zF (zI z 2) N (zhd z)) a n → nI (zmi N (zhd z) (zF (zI z 2) N (zhd z)) a n) = nI (zmi N (zhd z) (zF (zI z 2) N (zhd z)) a (n + 1)) := fun q => by
            conv => rhs; unfold zmi
            rw [if_neg (fun w => q.elim (fun q => q w.1) (fun q => q w.2))]
          have take : (a + (n + 1) = N ∨ zhd z (a + (n + 1)) = true) → 1 + (zF (zI z 2) N (zhd z)) (a + (n + 1)) < zmi N (zhd z) (zF (zI z 2) N (zhd z)) a n → nI (1 + (zF (zI z 2) N (zhd z)) (a + (n + 1))) = nI (zmi N (zhd z) (zF (zI z 2) N (zhd z)) a (n + 1)) := fun q1 q2 => by
            conv => rhs; unfold zmi
            rw [if_pos ⟨q1, q2⟩]
          have hhd := S_M_hides (G := G) (x := x) (hp := (mH A z (nI s) hi (nI ln) tx th ot oR oC wa pR pC pM ps rr ha nu (upd (fun k => if (a + 1) ≤ k ∧ k ≤ N then nI ((zF (zI z 2) N (zhd z)) k) else fe k) a (nI (zmi N (zhd z) (zF (zI z 2) N (zhd z)) a n))) kc hs T)) (n := a + (n + 1)) (xA hA rfl) (xA hA rfl) I (by omega)
          rw [show a + 1 + n = a + (n + 1) by omega] at eto ⊢
          rw [show a + 1 + (n + 1) = a + (n + 1) + 1 by omega] at iht
          have rest : ∀ may : Bool, (may = true ↔ (a + (n + 1) = N ∨ zhd z (a + (n + 1)) = true)) → xW G M_layFewest (xRet none (mH A z (nI s) hi (nI ln) tx th ot oR oC wa pR pC pM ps rr ha nu (fun k => if 0 ≤ k ∧ k ≤ N then nI ((zF (zI z 2) N (zhd z)) k) else fe k) kc hs T)) 64 [(4, .int (nI (xb01 may))), (3, .int (nI (a + (n + 1)))), (0, .ref 71), (1, .int (nI N)), (2, .int (nI a))] [] (mH A z (nI s) hi (nI ln) tx th ot oR oC wa pR pC pM ps rr ha nu (upd (fun k => if (a + 1) ≤ k ∧ k ≤ N then nI ((zF (zI z 2) N (zhd z)) k) else fe k) a (nI (zmi N (zhd z) (zF (zI z 2) N (zhd z)) a n))) kc hs T) x 0 0 := by
            intro may hmay
            cases may
            · have hk := keep (Or.inl (fun q => by have := hmay.mpr q; cases this))
              refine xw_aload_n 65 dX5_layFewest_64 rfl rfl rfl ?_
              refine xw_get 68 dX5_layFewest_65 rfl f_X5_34 (xA hA rfl) rfl ?_
              refine xw_iload_n 69 dX5_layFewest_68 rfl rfl ?_
              refine xw_iload 71 dX5_layFewest_69 rfl rfl ?_
              refine xw_if_eq 102 74 dX5_layFewest_71 rfl rfl (fun h71 => ?_) (fun h71 => absurd (rfl) h71)
              refine xw_aload_n 103 dX5_layFewest_102 rfl rfl rfl ?_
              refine xw_get 106 dX5_layFewest_103 rfl f_X5_34 (xA hA rfl) rfl ?_
              refine xw_iload_n 107 dX5_layFewest_106 rfl rfl ?_
              refine xw_ialv (j := _) 108 dX5_layFewest_107 rfl (xA hA rfl) (rfl) (by omega) (by omega) (efr) ?_
              refine xw_iastore (j := a) (hp' := (mH A z (nI s) hi (nI ln) tx th ot oR oC wa pR pC pM ps rr ha nu (upd (fun k => if (a + 1) ≤ k ∧ k ≤ N then nI ((zF (zI z 2) N (zhd z)) k) else fe k) a (nI (zmi N (zhd z) (zF (zI z 2) N (zhd z)) a (n + 1)))) kc hs T)) 109 dX5_layFewest_108 rfl (xA hA rfl) (rfl) (by omega) (by omega) (by rw [← done _ hk]; exact xAs hA rfl) ?_
              refine xw_iinc (ls' := [(3, _), (4, _), (0, _), (1, _), (2, _)]) 112 _ dX5_layFewest_109 rfl rfl (xnI_inc _) rfl rfl ?_
              refine xw_goto 27 dX5_layFewest_112 rfl ?_
              exact xW.pick [0, 2, 3, 4] rfl (iht)
            · have hm := hmay.mp rfl
              by_cases q : 1 + (zF (zI z 2) N (zhd z)) (a + (n + 1)) < zmi N (zhd z) (zF (zI z 2) N (zhd z)) a n
              · have hk := take hm q
                refine xw_aload_n 65 dX5_layFewest_64 rfl rfl rfl ?_
                refine xw_get 68 dX5_layFewest_65 rfl f_X5_34 (xA hA rfl) rfl ?_
                refine xw_iload_n 69 dX5_layFewest_68 rfl rfl ?_
                refine xw_iload 71 dX5_layFewest_69 rfl rfl ?_
                refine xw_if_eq 102 74 dX5_layFewest_71 rfl rfl (fun h71 => absurd h71 (by decide)) (fun h71 => ?_)
                refine xw_iconst 75 (nI 1) dX5_layFewest_74 rfl (xofI 1) ?_
                refine xw_aload_n 76 dX5_layFewest_75 rfl rfl rfl ?_
                refine xw_get 79 dX5_layFewest_76 rfl f_X5_34 (xA hA rfl) rfl ?_
                refine xw_iload_n 80 dX5_layFewest_79 rfl rfl ?_
                refine xw_ialv (j := _) 81 dX5_layFewest_80 rfl (xA hA rfl) (rfl) (by omega) (by omega) (eto) ?_
                refine xw_iadd 82 dX5_layFewest_81 rfl ?_
                rw [nI_add]
                refine xw_aload_n 83 dX5_layFewest_82 rfl rfl rfl ?_
                refine xw_get 86 dX5_layFewest_83 rfl f_X5_34 (xA hA rfl) rfl ?_
                refine xw_iload_n 87 dX5_layFewest_86 rfl rfl ?_
                refine xw_ialv (j := _) 88 dX5_layFewest_87 rfl (xA hA rfl) (rfl) (by omega) (by omega) (efr) ?_
                refine xw_icmp_ge 102 91 dX5_layFewest_88 rfl rfl (fun h88 => absurd h88 (nI_ge q (by omega))) (fun h88 => ?_)
                refine xw_iconst 92 (nI 1) dX5_layFewest_91 rfl (xofI 1) ?_
                refine xw_aload_n 93 dX5_layFewest_92 rfl rfl rfl ?_
                refine xw_get 96 dX5_layFewest_93 rfl f_X5_34 (xA hA rfl) rfl ?_
                refine xw_iload_n 97 dX5_layFewest_96 rfl rfl ?_
                refine xw_ialv (j := _) 98 dX5_layFewest_97 rfl (xA hA rfl) (rfl) (by omega) (by omega) (eto) ?_
                refine xw_iadd 99 dX5_layFewest_98 rfl ?_
                rw [nI_add]
                refine xw_goto 108 dX5_layFewest_99 rfl ?_
                refine xw_iastore (j := a) (hp' := (mH A z (nI s) hi (nI ln) tx th ot oR oC wa pR pC pM ps rr ha nu (upd (fun k => if (a + 1) ≤ k ∧ k ≤ N then nI ((zF (zI z 2) N (zhd z)) k) else fe k) a (nI (zmi N (zhd z) (zF (zI z 2) N (zhd z)) a (n + 1)))) kc hs T)) 109 dX5_layFewest_108 rfl (xA hA rfl) (rfl) (by omega) (by omega) (by rw [← done _ hk]; exact xAs hA rfl) ?_
                refine xw_iinc (ls' := [(3, _), (4, _), (0, _), (1, _), (2, _)]) 112 _ dX5_layFewest_109 rfl rfl (xnI_inc _) rfl rfl ?_
                refine xw_goto 27 dX5_layFewest_112 rfl ?_
                exact xW.pick [0, 2, 3, 4] rfl (iht)
              · have hk := keep (Or.inr q)
                refine xw_aload_n 65 dX5_layFewest_64 rfl rfl rfl ?_
                refine xw_get 68 dX5_layFewest_65 rfl f_X5_34 (xA hA rfl) rfl ?_
                refine xw_iload_n 69 dX5_layFewest_68 rfl rfl ?_
                refine xw_iload 71 dX5_layFewest_69 rfl rfl ?_
                refine xw_if_eq 102 74 dX5_layFewest_71 rfl rfl (fun h71 => absurd h71 (by decide)) (fun h71 => ?_)
                refine xw_iconst 75 (nI 1) dX5_layFewest_74 rfl (xofI 1) ?_
                refine xw_aload_n 76 dX5_layFewest_75 rfl rfl rfl ?_
                refine xw_get 79 dX5_layFewest_76 rfl f_X5_34 (xA hA rfl) rfl ?_
                refine xw_iload_n 80 dX5_layFewest_79 rfl rfl ?_
                refine xw_ialv (j := _) 81 dX5_layFewest_80 rfl (xA hA rfl) (rfl) (by omega) (by omega) (eto) ?_
                refine xw_iadd 82 dX5_layFewest_81 rfl ?_
                rw [nI_add]
                refine xw_aload_n 83 dX5_layFewest_82 rfl rfl rfl ?_
                refine xw_get 86 dX5_layFewest_83 rfl f_X5_34 (xA hA rfl) rfl ?_
                refine xw_iload_n 87 dX5_layFewest_86 rfl rfl ?_
                refine xw_ialv (j := _) 88 dX5_layFewest_87 rfl (xA hA rfl) (rfl) (by omega) (by omega) (efr) ?_
                refine xw_icmp_ge 102 91 dX5_layFewest_88 rfl rfl (fun h88 => ?_) (fun h88 => absurd (nI_le (by omega) (by omega)) h88)
                refine xw_aload_n 103 dX5_layFewest_102 rfl rfl rfl ?_
                refine xw_get 106 dX5_layFewest_103 rfl f_X5_34 (xA hA rfl) rfl ?_
                refine xw_iload_n 107 dX5_layFewest_106 rfl rfl ?_
                refine xw_ialv (j := _) 108 dX5_layFewest_107 rfl (xA hA rfl) (rfl) (by omega) (by omega) (efr) ?_
                refine xw_iastore (j := a) (hp' := (mH A z (nI s) hi (nI ln) tx th ot oR oC wa pR pC pM ps rr ha nu (upd (fun k => if (a + 1) ≤ k ∧ k ≤ N then nI ((zF (zI z 2) N (zhd z)) k) else fe k) a (nI (zmi N (zhd z) (zF (zI z 2) N (zhd z)) a (n + 1)))) kc hs T)) 109 dX5_layFewest_108 rfl (xA hA rfl) (rfl) (by omega) (by omega) (by rw [← done _ hk]; exact xAs hA rfl) ?_
                refine xw_iinc (ls' := [(3, _), (4, _), (0, _), (1, _), (2, _)]) 112 _ dX5_layFewest_109 rfl rfl (xnI_inc _) rfl rfl ?_
                refine xw_goto 27 dX5_layFewest_112 rfl ?_
                exact xW.pick [0, 2, 3, 4] rfl (iht)
          by_cases hN2 : a + (n + 1) = N
          · have h9 := rest true ⟨fun _ => Or.inl hN2, fun _ => rfl⟩
            refine xw_iload_n 28 dX5_layFewest_27 rfl rfl ?_
            refine xw_iload_n 29 dX5_layFewest_28 rfl rfl ?_
            refine xw_icmp_gt 115 32 dX5_layFewest_29 rfl rfl (fun h29 => absurd h29 (nI_nlt (by omega) (by omega))) (fun h29 => ?_)
            refine xw_iload_n 33 dX5_layFewest_32 rfl rfl ?_
            refine xw_iload_n 34 dX5_layFewest_33 rfl rfl ?_
            refine xw_aload_n 35 dX5_layFewest_34 rfl rfl rfl ?_
            refine xw_get 38 dX5_layFewest_35 rfl f_X5_7 (xA hA rfl) rfl ?_
            refine xw_iconst 39 (nI 2) dX5_layFewest_38 rfl (xofI 2) ?_
            refine xw_ialv (j := 2) 40 dX5_layFewest_39 rfl (xA hA rfl) (rfl) (by decide) (by decide) (I.iH.1) ?_
            refine xw_iadd 41 dX5_layFewest_40 rfl ?_
            rw [nI_add]
            refine xw_icmp_gt 115 44 dX5_layFewest_41 rfl rfl (fun h41 => absurd h41 (nI_nlt (by omega) (by omega))) (fun h41 => ?_)
            refine xw_iload_n 45 dX5_layFewest_44 rfl rfl ?_
            refine xw_iload_n 46 dX5_layFewest_45 rfl rfl ?_
            refine xw_icmp_eq 57 49 dX5_layFewest_46 rfl rfl (fun h46 => ?_) (fun h46 => absurd (congrArg nI hN2) h46)
            refine xw_iconst 58 (nI 1) dX5_layFewest_57 rfl (xofI 1) ?_
            refine xw_goto 62 dX5_layFewest_58 rfl ?_
            refine xw_istore (ls' := [(4, _), (3, _), (0, _), (1, _), (2, _)]) 64 dX5_layFewest_62 rfl rfl rfl ?_
            exact xW.pick [0, 1, 2, 3, 4] rfl (h9)
          · by_cases hh : zhd z (a + (n + 1)) = true
            · have h9 := rest true ⟨fun _ => Or.inr hh, fun _ => rfl⟩
              refine xw_iload_n 28 dX5_layFewest_27 rfl rfl ?_
              refine xw_iload_n 29 dX5_layFewest_28 rfl rfl ?_
              refine xw_icmp_gt 115 32 dX5_layFewest_29 rfl rfl (fun h29 => absurd h29 (nI_nlt (by omega) (by omega))) (fun h29 => ?_)
              refine xw_iload_n 33 dX5_layFewest_32 rfl rfl ?_
              refine xw_iload_n 34 dX5_layFewest_33 rfl rfl ?_
              refine xw_aload_n 35 dX5_layFewest_34 rfl rfl rfl ?_
              refine xw_get 38 dX5_layFewest_35 rfl f_X5_7 (xA hA rfl) rfl ?_
              refine xw_iconst 39 (nI 2) dX5_layFewest_38 rfl (xofI 2) ?_
              refine xw_ialv (j := 2) 40 dX5_layFewest_39 rfl (xA hA rfl) (rfl) (by decide) (by decide) (I.iH.1) ?_
              refine xw_iadd 41 dX5_layFewest_40 rfl ?_
              rw [nI_add]
              refine xw_icmp_gt 115 44 dX5_layFewest_41 rfl rfl (fun h41 => absurd h41 (nI_nlt (by omega) (by omega))) (fun h41 => ?_)
              refine xw_iload_n 45 dX5_layFewest_44 rfl rfl ?_
              refine xw_iload_n 46 dX5_layFewest_45 rfl rfl ?_
              refine xw_icmp_eq 57 49 dX5_layFewest_46 rfl rfl (fun h46 => absurd h46 (fun q => by rw [nI_eq (by omega) (by omega)] at q; exact hN2 q)) (fun h46 => ?_)
              refine xw_aload_n 50 dX5_layFewest_49 rfl rfl rfl ?_
              refine xw_iload_n 51 dX5_layFewest_50 rfl rfl ?_
              refine xw_pV 54 dX5_layFewest_51 rfl ok_M_hides s_X5_137 (hhd) (mH_len) (xA hA rfl) rfl rfl rfl rfl rfl rfl rfl ?_
              refine xw_if_eq 61 57 dX5_layFewest_54 rfl rfl (fun h54 => absurd h54 (by rw [if_pos hh]; decide)) (fun h54 => ?_)
              refine xw_iconst 58 (nI 1) dX5_layFewest_57 rfl (xofI 1) ?_
              refine xw_goto 62 dX5_layFewest_58 rfl ?_
              refine xw_istore (ls' := [(4, _), (3, _), (0, _), (1, _), (2, _)]) 64 dX5_layFewest_62 rfl rfl rfl ?_
              exact xW.pick [0, 1, 2, 3, 4] rfl (h9)
            · have h9 := rest false ⟨fun q => (by cases q), fun q => q.elim (fun q => absurd q hN2) (fun q => absurd q hh)⟩
              refine xw_iload_n 28 dX5_layFewest_27 rfl rfl ?_
              refine xw_iload_n 29 dX5_layFewest_28 rfl rfl ?_
              refine xw_icmp_gt 115 32 dX5_layFewest_29 rfl rfl (fun h29 => absurd h29 (nI_nlt (by omega) (by omega))) (fun h29 => ?_)
              refine xw_iload_n 33 dX5_layFewest_32 rfl rfl ?_
              refine xw_iload_n 34 dX5_layFewest_33 rfl rfl ?_
              refine xw_aload_n 35 dX5_layFewest_34 rfl rfl rfl ?_
              refine xw_get 38 dX5_layFewest_35 rfl f_X5_7 (xA hA rfl) rfl ?_
              refine xw_iconst 39 (nI 2) dX5_layFewest_38 rfl (xofI 2) ?_
              refine xw_ialv (j := 2) 40 dX5_layFewest_39 rfl (xA hA rfl) (rfl) (by decide) (by decide) (I.iH.1) ?_
              refine xw_iadd 41 dX5_layFewest_40 rfl ?_
              rw [nI_add]
              refine xw_icmp_gt 115 44 dX5_layFewest_41 rfl rfl (fun h41 => absurd h41 (nI_nlt (by omega) (by omega))) (fun h41 => ?_)
              refine xw_iload_n 45 dX5_layFewest_44 rfl rfl ?_
              refine xw_iload_n 46 dX5_layFewest_45 rfl rfl ?_
              refine xw_icmp_eq 57 49 dX5_layFewest_46 rfl rfl (fun h46 => absurd h46 (fun q => by rw [nI_eq (by omega) (by omega)] at q; exact hN2 q)) (fun h46 => ?_)
              refine xw_aload_n 50 dX5_layFewest_49 rfl rfl rfl ?_
              refine xw_iload_n 51 dX5_layFewest_50 rfl rfl ?_
              refine xw_pV 54 dX5_layFewest_51 rfl ok_M_hides s_X5_137 (hhd) (mH_len) (xA hA rfl) rfl rfl rfl rfl rfl rfl rfl ?_
              refine xw_if_eq 61 57 dX5_layFewest_54 rfl rfl (fun h54 => ?_) (fun h54 => absurd (by rw [if_neg hh]; rfl) h54)
              refine xw_iconst 62 (nI 0) dX5_layFewest_61 rfl (xofI 0) ?_
              refine xw_istore (ls' := [(4, _), (3, _), (0, _), (1, _), (2, _)]) 64 dX5_layFewest_62 rfl rfl rfl ?_
              exact xW.pick [0, 1, 2, 3, 4] rfl (h9)
      have h9 := inner (min (zI z 2) (N - a)) 0 (by omega)
      rw [nI_1s (by omega), Nat.add_sub_cancel]
      refine xw_iload_n 12 dX5_layFewest_11 rfl rfl ?_
      refine xw_if_lt 121 15 dX5_layFewest_12 rfl rfl (fun h12 => absurd h12 (nI_pos (by omega))) (fun h12 => ?_)
      refine xw_aload_n 16 dX5_layFewest_15 rfl rfl rfl ?_
      refine xw_get 19 dX5_layFewest_16 rfl f_X5_34 (xA hA rfl) rfl ?_
      refine xw_iload_n 20 dX5_layFewest_19 rfl rfl ?_
      refine xw_ldc 22 dX5_layFewest_20 rfl k_X5_209 ?_
      rw [far_nI]
      refine xw_iastore (j := a) (hp' := (mH A z (nI s) hi (nI ln) tx th ot oR oC wa pR pC pM ps rr ha nu (upd (fun k => if (a + 1) ≤ k ∧ k ≤ N then nI ((zF (zI z 2) N (zhd z)) k) else fe k) a (nI (zmi N (zhd z) (zF (zI z 2) N (zhd z)) a 0))) kc hs T)) 23 dX5_layFewest_22 rfl (xA hA rfl) (rfl) (by omega) (by omega) (xAs hA rfl) ?_
      refine xw_iload_n 24 dX5_layFewest_23 rfl rfl ?_
      refine xw_iconst 25 (nI 1) dX5_layFewest_24 rfl (xofI 1) ?_
      refine xw_iadd 26 dX5_layFewest_25 rfl ?_
      rw [nI_add]
      refine xw_istore_n (ls' := [(3, _), (2, _), (0, _), (1, _)]) 27 dX5_layFewest_26 rfl rfl rfl ?_
      exact xW.pick [0, 2, 3, 1] rfl h9
  have e0 : upd fe N (nI 0) = (fun k => if N ≤ k ∧ k ≤ N then nI ((zF (zI z 2) N (zhd z)) k) else fe k) := by
    funext k
    by_cases h : k = N
    · subst h
      rw [upd_at, if_pos ⟨Nat.le_refl _, Nat.le_refl _⟩, zF_N]
    · rw [upd_ne h, if_neg (by omega)]
  refine xw_aload_n 1 dX5_layFewest_0 rfl rfl rfl ?_
  refine xw_get 4 dX5_layFewest_1 rfl f_X5_34 (xA hA rfl) rfl ?_
  refine xw_iload_n 5 dX5_layFewest_4 rfl rfl ?_
  refine xw_iconst 6 (nI 0) dX5_layFewest_5 rfl (xofI 0) ?_
  refine xw_iastore (j := N) (hp' := (mH A z (nI s) hi (nI ln) tx th ot oR oC wa pR pC pM ps rr ha nu (fun k => if N ≤ k ∧ k ≤ N then nI ((zF (zI z 2) N (zhd z)) k) else fe k) kc hs T)) 7 dX5_layFewest_6 rfl (xA hA rfl) (rfl) (by omega) (by omega) (by rw [← e0]; exact xAs hA rfl) ?_
  refine xw_iload_n 8 dX5_layFewest_7 rfl rfl ?_
  refine xw_iconst 9 (nI 1) dX5_layFewest_8 rfl (xofI 1) ?_
  refine xw_isub 10 dX5_layFewest_9 rfl ?_
  refine xw_istore_n (ls' := [(2, _), (0, _), (1, _)]) 11 dX5_layFewest_10 rfl rfl rfl ?_
  exact xW.pick [0, 1, 2] rfl (outer N (Nat.le_refl _))
theorem S_M_latest {N n b b' : Nat} {l : List Nat} (hA : A.length = 71) (I : xInv z) (hN : N ≤ 240) (hbH : b + zI z 2 < N) (hx : xlst (zhd z) (b + 1) (zI z 2) = some b') (hF : (zF (zI z 2) N (zhd z)) b = 1 + (zF (zI z 2) N (zhd z)) b') : xMet G M_latest [.ref 71, .int (nI b), .int (nI N)] (mH A z (nI s) hi (nI ln) tx th ot oR oC wa pR pC pM ps rr ha nu (fun k => if 0 ≤ k ∧ k ≤ N then nI ((zF (zI z 2) N (zhd z)) k) else fe k) kc hs T) x 0 0 (xRetV (.int (nI b')) (mH A z (nI s) hi (nI ln) tx th ot oR oC wa pR pC pM ps rr ha nu (fun k => if 0 ≤ k ∧ k ≤ N then nI ((zF (zI z 2) N (zhd z)) k) else fe k) kc hs T)) := by
  have hA1 := I.iA.2.1
  have hA2 := I.iA.2.2
  have hS2 := I.iS.2.2
  have hR1 := I.iR.2.1
  have hR2 := I.iR.2.2
  have hC1 := I.iC.2.1
  have hC2 := I.iC.2.2
  have hM2 := I.iM.2.2
  have hK1 := I.iK.2.1
  have hK2 := I.iK.2.2
  have hH1 := I.iH.2.1
  have hH2 := I.iH.2.2
  obtain ⟨x1, x2, x3⟩ := xlst_some hx
  have eb : (fun k => if 0 ≤ k ∧ k ≤ N then nI ((zF (zI z 2) N (zhd z)) k) else fe k) b = nI ((zF (zI z 2) N (zhd z)) b) := if_pos ⟨Nat.zero_le _, by omega⟩
  have eb' : (fun k => if 0 ≤ k ∧ k ≤ N then nI ((zF (zI z 2) N (zhd z)) k) else fe k) b' = nI ((zF (zI z 2) N (zhd z)) b') := if_pos ⟨Nat.zero_le _, by omega⟩
  have hle := zF_le (H := zI z 2) (N := N) (hd := zhd z) (a := b) (by omega)
  have loop : ∀ (t : Nat), t ≤ zI z 2 → xlst (zhd z) (b + 1) t = some b' → xW G M_latest (xRetV (.int (nI b')) (mH A z (nI s) hi (nI ln) tx th ot oR oC wa pR pC pM ps rr ha nu (fun k => if 0 ≤ k ∧ k ≤ N then nI ((zF (zI z 2) N (zhd z)) k) else fe k) kc hs T)) 25 [(3, .int (nI (b + t))), (0, .ref 71), (1, .int (nI b)), (2, .int (nI N))] [] (mH A z (nI s) hi (nI ln) tx th ot oR oC wa pR pC pM ps rr ha nu (fun k => if 0 ≤ k ∧ k ≤ N then nI ((zF (zI z 2) N (zhd z)) k) else fe k) kc hs T) x 0 0 := by
    intro t
    induction t with
    | zero =>
      intro _ h
      cases h
    | succ t ih =>
      intro ht h
      have hhd := S_M_hides (G := G) (x := x) (hp := (mH A z (nI s) hi (nI ln) tx th ot oR oC wa pR pC pM ps rr ha nu (fun k => if 0 ≤ k ∧ k ≤ N then nI ((zF (zI z 2) N (zhd z)) k) else fe k) kc hs T)) (n := b + (t + 1)) (xA hA rfl) (xA hA rfl) I (by omega)
      unfold xlst at h
      rw [show b + 1 + t = b + (t + 1) by omega] at h
      by_cases e : zhd z (b + (t + 1)) = true
      · rw [if_pos e] at h hhd
        have h' : b + (t + 1) = b' := Option.some.inj h
        rw [h'] at hhd ⊢
        refine xw_iload_n 26 dX5_latest_25 rfl rfl ?_
        refine xw_iload_n 27 dX5_latest_26 rfl rfl ?_
        refine xw_icmp_eq 38 30 dX5_latest_27 rfl rfl (fun h27 => absurd h27 (fun q => by rw [nI_eq (by omega) (by omega)] at q; omega)) (fun h27 => ?_)
        refine xw_aload_n 31 dX5_latest_30 rfl rfl rfl ?_
        refine xw_iload_n 32 dX5_latest_31 rfl rfl ?_
        refine xw_pV 35 dX5_latest_32 rfl ok_M_hides s_X5_137 (hhd) (mH_len) (xA hA rfl) rfl rfl rfl rfl rfl rfl rfl ?_
        refine xw_if_eq 55 38 dX5_latest_35 rfl rfl (fun h35 => absurd h35 (by decide)) (fun h35 => ?_)
        refine xw_aload_n 39 dX5_latest_38 rfl rfl rfl ?_
        refine xw_get 42 dX5_latest_39 rfl f_X5_34 (xA hA rfl) rfl ?_
        refine xw_iload_n 43 dX5_latest_42 rfl rfl ?_
        refine xw_ialv (j := _) 44 dX5_latest_43 rfl (xA hA rfl) (rfl) (by omega) (by omega) (eb') ?_
        refine xw_aload_n 45 dX5_latest_44 rfl rfl rfl ?_
        refine xw_get 48 dX5_latest_45 rfl f_X5_34 (xA hA rfl) rfl ?_
        refine xw_iload_n 49 dX5_latest_48 rfl rfl ?_
        refine xw_ialv (j := _) 50 dX5_latest_49 rfl (xA hA rfl) (rfl) (by omega) (by omega) (eb) ?_
        refine xw_iconst 51 (nI 1) dX5_latest_50 rfl (xofI 1) ?_
        refine xw_isub 52 dX5_latest_51 rfl ?_
        rw [nI_1s (by omega), hF]
        refine xw_icmp_eq 61 55 dX5_latest_52 rfl rfl (fun h52 => ?_) (fun h52 => absurd (congrArg nI (by omega)) h52)
        refine xw_iload_n 62 dX5_latest_61 rfl rfl ?_
        exact xw_ireturn dX5_latest_62 rfl (⟨rfl, rfl⟩)
      · rw [if_neg e] at h hhd
        have ih := ih (by omega) h
        refine xw_iload_n 26 dX5_latest_25 rfl rfl ?_
        refine xw_iload_n 27 dX5_latest_26 rfl rfl ?_
        refine xw_icmp_eq 38 30 dX5_latest_27 rfl rfl (fun h27 => absurd h27 (fun q => by rw [nI_eq (by omega) (by omega)] at q; omega)) (fun h27 => ?_)
        refine xw_aload_n 31 dX5_latest_30 rfl rfl rfl ?_
        refine xw_iload_n 32 dX5_latest_31 rfl rfl ?_
        refine xw_pV 35 dX5_latest_32 rfl ok_M_hides s_X5_137 (hhd) (mH_len) (xA hA rfl) rfl rfl rfl rfl rfl rfl rfl ?_
        refine xw_if_eq 55 38 dX5_latest_35 rfl rfl (fun h35 => ?_) (fun h35 => absurd (rfl) h35)
        refine xw_iinc (ls' := [(3, _), (0, _), (1, _), (2, _)]) 58 (nI (b + t)) dX5_latest_55 rfl rfl ((congrArg (fun w => nI w + Int32.ofInt (-1)) (show b + (t + 1) = b + t + 1 by omega)).trans (xnI_dec (b + t))) rfl rfl ?_
        refine xw_goto 25 dX5_latest_58 rfl ?_
        exact xW.pick [0, 1, 2, 3] rfl (ih)
  have e9 := loop (zI z 2) (Nat.le_refl _) hx
  refine xw_iload_n 1 dX5_latest_0 rfl rfl ?_
  refine xw_aload_n 2 dX5_latest_1 rfl rfl rfl ?_
  refine xw_get 5 dX5_latest_2 rfl f_X5_7 (xA hA rfl) rfl ?_
  refine xw_iconst 6 (nI 2) dX5_latest_5 rfl (xofI 2) ?_
  refine xw_ialv (j := 2) 7 dX5_latest_6 rfl (xA hA rfl) (rfl) (by decide) (by decide) (I.iH.1) ?_
  refine xw_iadd 8 dX5_latest_7 rfl ?_
  rw [nI_add]
  refine xw_iload_n 9 dX5_latest_8 rfl rfl ?_
  refine xw_icmp_ge 23 12 dX5_latest_9 rfl rfl (fun h9 => absurd h9 (nI_ge hbH (by omega))) (fun h9 => ?_)
  refine xw_iload_n 13 dX5_latest_12 rfl rfl ?_
  refine xw_aload_n 14 dX5_latest_13 rfl rfl rfl ?_
  refine xw_get 17 dX5_latest_14 rfl f_X5_7 (xA hA rfl) rfl ?_
  refine xw_iconst 18 (nI 2) dX5_latest_17 rfl (xofI 2) ?_
  refine xw_ialv (j := 2) 19 dX5_latest_18 rfl (xA hA rfl) (rfl) (by decide) (by decide) (I.iH.1) ?_
  refine xw_iadd 20 dX5_latest_19 rfl ?_
  rw [nI_add]
  refine xw_goto 24 dX5_latest_20 rfl ?_
  refine xw_istore_n (ls' := [(3, _), (0, _), (1, _), (2, _)]) 25 dX5_latest_24 rfl rfl rfl ?_
  exact xW.pick [0, 1, 2, 3] rfl e9
theorem S_M_planNow {N : Nat} {q : Option Nat} (hA : A.length = 71) (I : xInv z) (hN1 : 1 ≤ N) (hN : N ≤ 240) (hq : ∀ k, q = some k → k < 48) : xMet G M_planNow [.ref 71, .int (nI N), .int (xoI q)] (mH A z (nI s) hi (nI ln) tx th ot oR oC wa pR pC pM ps rr ha nu fe kc hs T) x 0 0 (xRetV (.int (zplan z N q)) (mH A z (nI s) hi (nI ln) tx th ot oR oC wa pR pC pM ps rr ha nu (fun k => if 0 ≤ k ∧ k ≤ N then nI ((zF (zI z 2) N (zhd z)) k) else fe k) kc hs T)) := by
  have hA1 := I.iA.2.1
  have hA2 := I.iA.2.2
  have hS2 := I.iS.2.2
  have hR1 := I.iR.2.1
  have hR2 := I.iR.2.2
  have hC1 := I.iC.2.1
  have hC2 := I.iC.2.2
  have hM2 := I.iM.2.2
  have hK1 := I.iK.2.1
  have hK2 := I.iK.2.2
  have hH1 := I.iH.2.1
  have hH2 := I.iH.2.2
  have hlay := S_M_layFewest (G := G) (x := x) (A := A) (T := T) (z := z) (hi := hi) (s := s) (ln := ln) (tx := tx) (th := th) (ot := ot) (oR := oR) (oC := oC) (wa := wa) (pR := pR) (pC := pC) (pM := pM) (ps := ps) (rr := rr) (ha := ha) (nu := nu) (fe := fe) (kc := kc) (hs := hs) (N := N) hA I hN1 hN
  have e0 : (fun k => if 0 ≤ k ∧ k ≤ N then nI ((zF (zI z 2) N (zhd z)) k) else fe k) 0 = nI ((zF (zI z 2) N (zhd z)) 0) := if_pos ⟨Nat.le_refl _, by omega⟩
  have hg := zgr_F hN (show 1 ≤ zI z 2 by omega) 240 0 (by omega) (by omega) (by omega)
  have hle := zF_le (H := zI z 2) (N := N) (hd := zhd z) (a := 0) (by omega)
  unfold zplan
  cases hz : zgr z N 240 0 with
  | none =>
    have eF := hg.1 hz
    show xMet _ _ _ _ _ _ _ (xRetV (.int (-1)) _)
    refine xw_aload_n 1 dX5_planNow_0 rfl rfl rfl ?_
    refine xw_iload_n 2 dX5_planNow_1 rfl rfl ?_
    refine xw_pVv 5 dX5_planNow_2 rfl ok_M_layFewest s_X5_210 (hlay) (mH_len) (xA hA rfl) rfl rfl rfl rfl rfl rfl rfl ?_
    refine xw_aload_n 6 dX5_planNow_5 rfl rfl rfl ?_
    refine xw_get 9 dX5_planNow_6 rfl f_X5_34 (xA hA rfl) rfl ?_
    refine xw_iconst 10 (nI 0) dX5_planNow_9 rfl (xofI 0) ?_
    refine xw_ialv (j := 0) 11 dX5_planNow_10 rfl (xA hA rfl) (rfl) (by decide) (by decide) (e0) ?_
    refine xw_ldc 13 dX5_planNow_11 rfl k_X5_209 ?_
    rw [far_nI]
    refine xw_icmp_ge 26 16 dX5_planNow_13 rfl rfl (fun h13 => ?_) (fun h13 => absurd (by rw [eF]; exact Int32.le_refl _) h13)
    refine xw_iconst 27 (-1) dX5_planNow_26 rfl rfl ?_
    exact xw_ireturn dX5_planNow_27 rfl (⟨rfl, rfl⟩)
  | some l =>
    have eF := hg.2 l hz
    have hll := zgr_len hz
    cases q with
    | none =>
      show xMet _ _ _ _ _ _ _ (xRetV (.int (nI (1 + l.length))) _)
      refine xw_aload_n 1 dX5_planNow_0 rfl rfl rfl ?_
      refine xw_iload_n 2 dX5_planNow_1 rfl rfl ?_
      refine xw_pVv 5 dX5_planNow_2 rfl ok_M_layFewest s_X5_210 (hlay) (mH_len) (xA hA rfl) rfl rfl rfl rfl rfl rfl rfl ?_
      refine xw_aload_n 6 dX5_planNow_5 rfl rfl rfl ?_
      refine xw_get 9 dX5_planNow_6 rfl f_X5_34 (xA hA rfl) rfl ?_
      refine xw_iconst 10 (nI 0) dX5_planNow_9 rfl (xofI 0) ?_
      refine xw_ialv (j := 0) 11 dX5_planNow_10 rfl (xA hA rfl) (rfl) (by decide) (by decide) (e0) ?_
      refine xw_ldc 13 dX5_planNow_11 rfl k_X5_209 ?_
      rw [far_nI]
      refine xw_icmp_ge 26 16 dX5_planNow_13 rfl rfl (fun h13 => absurd h13 (nI_ge (by omega) (by omega))) (fun h13 => ?_)
      refine xw_iload_n 17 dX5_planNow_16 rfl rfl ?_
      refine xw_aload_n 18 dX5_planNow_17 rfl rfl rfl ?_
      refine xw_get 21 dX5_planNow_18 rfl f_X5_34 (xA hA rfl) rfl ?_
      refine xw_iconst 22 (nI 0) dX5_planNow_21 rfl (xofI 0) ?_
      refine xw_ialv (j := 0) 23 dX5_planNow_22 rfl (xA hA rfl) (rfl) (by decide) (by decide) (e0) ?_
      refine xw_icmp_lt 28 26 dX5_planNow_23 rfl rfl (fun h23 => ?_) (fun h23 => absurd (Int32.lt_of_lt_of_le (show (-1 : Int32) < 0 by decide) (nI_pos' (by omega))) h23)
      refine xw_iload_n 29 dX5_planNow_28 rfl rfl ?_
      refine xw_iconst 30 (-1) dX5_planNow_29 rfl rfl ?_
      refine xw_icmp_ne 40 33 dX5_planNow_30 rfl rfl (fun h30 => absurd (rfl) h30) (fun h30 => ?_)
      refine xw_aload_n 34 dX5_planNow_33 rfl rfl rfl ?_
      refine xw_get 37 dX5_planNow_34 rfl f_X5_34 (xA hA rfl) rfl ?_
      refine xw_iconst 38 (nI 0) dX5_planNow_37 rfl (xofI 0) ?_
      refine xw_ialv (j := 0) 39 dX5_planNow_38 rfl (xA hA rfl) (rfl) (by decide) (by decide) (e0.trans (congrArg nI eF)) ?_
      exact xw_ireturn dX5_planNow_39 rfl (⟨rfl, rfl⟩)
    | some k =>
      have hk := hq k rfl
      have ek : xoI (some k) = nI k := rfl
      rw [ek]
      by_cases hkl : k ≤ l.length
      · have loop : ∀ (j i b n : Nat) (l2 : List Nat), i + j = k → n ≤ 240 → b < N → N - b ≤ n → zgr z N n b = some l2 → j ≤ l2.length → xW G M_planNow (xRetV (.int (nI (if j = 0 then b else (l2[j - 1]?).getD 0))) (mH A z (nI s) hi (nI ln) tx th ot oR oC wa pR pC pM ps rr ha nu (fun k => if 0 ≤ k ∧ k ≤ N then nI ((zF (zI z 2) N (zhd z)) k) else fe k) kc hs T)) 45 [(4, .int (nI i)), (3, .int (nI b)), (0, .ref 71), (1, .int (nI N)), (2, .int (nI k))] [] (mH A z (nI s) hi (nI ln) tx th ot oR oC wa pR pC pM ps rr ha nu (fun k => if 0 ≤ k ∧ k ≤ N then nI ((zF (zI z 2) N (zhd z)) k) else fe k) kc hs T) x 0 0 := by
          intro j
          induction j with
          | zero =>
            intro i b n l2 hi9 h240 hb hn hg2 hj
            rw [if_pos rfl]
            refine xw_iload 47 dX5_planNow_45 rfl rfl ?_
            refine xw_iload_n 48 dX5_planNow_47 rfl rfl ?_
            refine xw_icmp_ge 64 51 dX5_planNow_48 rfl rfl (fun h48 => ?_) (fun h48 => absurd (nI_le (by omega) (by omega)) h48)
            refine xw_iload_n 65 dX5_planNow_64 rfl rfl ?_
            exact xw_ireturn dX5_planNow_65 rfl (⟨rfl, rfl⟩)
          | succ j ih =>
            intro i b n l2 hi9 h240 hb hn hg2 hj
            have hbH : b + zI z 2 < N := by
              by_cases h : b + zI z 2 < N
              · exact h
              · rw [zgr_end h] at hg2
                cases hg2
                exact absurd hj (Nat.not_succ_le_zero _)
            cases n with
            | zero => omega
            | succ n =>
              rw [zgr_s hbH] at hg2
              cases hx : xlst (zhd z) (b + 1) (zI z 2) with
              | none => rw [hx] at hg2; cases hg2
              | some b' =>
                rw [hx] at hg2
                dsimp only at hg2
                obtain ⟨x1, x2, x3⟩ := xlst_some hx
                cases hg3 : zgr z N n b' with
                | none => rw [hg3] at hg2; cases hg2
                | some l3 =>
                  rw [hg3] at hg2
                  cases hg2
                  have hb' : b' < N := by omega
                  have f1 := (zgr_F hN (show 1 ≤ zI z 2 by omega) (n + 1) b h240 hb hn).2 (b' :: l3) (by rw [zgr_s hbH, hx]; dsimp only; rw [hg3]; rfl)
                  have f2 := (zgr_F hN (show 1 ≤ zI z 2 by omega) n b' (by omega) hb' (by omega)).2 l3 hg3
                  have f1' : (zF (zI z 2) N (zhd z)) b = 1 + (zF (zI z 2) N (zhd z)) b' := by rw [f1, f2]; show 1 + (l3.length + 1) = _; omega
                  have ih := ih (i + 1) b' n l3 (by omega) (by omega) hb' (by omega) hg3 (Nat.le_of_succ_le_succ hj)
                  have er : (if j + 1 = 0 then b else ((b' :: l3)[j + 1 - 1]?).getD 0) = if j = 0 then b' else (l3[j - 1]?).getD 0 := by
                    rw [if_neg (Nat.succ_ne_zero j), Nat.add_sub_cancel]
                    cases j with
                    | zero => rfl
                    | succ j => rw [if_neg (Nat.succ_ne_zero j)]; rfl
                  rw [er]
                  have hlat := S_M_latest (G := G) (x := x) (A := A) (T := T) (z := z) (hi := hi) (s := s) (ln := ln) (tx := tx) (th := th) (ot := ot) (oR := oR) (oC := oC) (wa := wa) (pR := pR) (pC := pC) (pM := pM) (ps := ps) (rr := rr) (ha := ha) (nu := nu) (fe := fe) (kc := kc) (hs := hs) (N := N) (b := b) (b' := b') (n := 0) (l := []) hA I hN hbH hx f1'
                  refine xw_iload 47 dX5_planNow_45 rfl rfl ?_
                  refine xw_iload_n 48 dX5_planNow_47 rfl rfl ?_
                  refine xw_icmp_ge 64 51 dX5_planNow_48 rfl rfl (fun h48 => absurd h48 (nI_ge (by omega) (by omega))) (fun h48 => ?_)
                  refine xw_aload_n 52 dX5_planNow_51 rfl rfl rfl ?_
                  refine xw_iload_n 53 dX5_planNow_52 rfl rfl ?_
                  refine xw_iload_n 54 dX5_planNow_53 rfl rfl ?_
                  refine xw_pV 57 dX5_planNow_54 rfl ok_M_latest s_X5_213 (hlat) (mH_len) (xA hA rfl) rfl rfl rfl rfl rfl rfl rfl ?_
                  refine xw_istore_n (ls' := [(3, _), (4, _), (0, _), (1, _), (2, _)]) 58 dX5_planNow_57 rfl rfl rfl ?_
                  refine xw_iinc (ls' := [(4, _), (3, _), (0, _), (1, _), (2, _)]) 61 _ dX5_planNow_58 rfl rfl (xnI_inc _) rfl rfl ?_
                  refine xw_goto 45 dX5_planNow_61 rfl ?_
                  exact xW.pick [0, 1, 2, 3, 4] rfl (ih)
        have h9 := loop k 0 0 240 l (by omega) (by omega) (by omega) (by omega) hz hkl
        have er : zpR 1 (if some k = some 0 then nI 0 else -1) (some k) (some l) = nI (if k = 0 then 0 else (l[k - 1]?).getD 0) := by
          cases k with
          | zero => rfl
          | succ k =>
            rw [zpR_s, if_pos (show 1 ≤ k + 1 by omega), if_neg (Nat.succ_ne_zero k), Nat.add_sub_cancel]
            cases hlk : l[k]? with
            | none =>
              have := List.getElem?_eq_none_iff.mp hlk
              omega
            | some v => rfl
        rw [er]
        refine xw_aload_n 1 dX5_planNow_0 rfl rfl rfl ?_
        refine xw_iload_n 2 dX5_planNow_1 rfl rfl ?_
        refine xw_pVv 5 dX5_planNow_2 rfl ok_M_layFewest s_X5_210 (hlay) (mH_len) (xA hA rfl) rfl rfl rfl rfl rfl rfl rfl ?_
        refine xw_aload_n 6 dX5_planNow_5 rfl rfl rfl ?_
        refine xw_get 9 dX5_planNow_6 rfl f_X5_34 (xA hA rfl) rfl ?_
        refine xw_iconst 10 (nI 0) dX5_planNow_9 rfl (xofI 0) ?_
        refine xw_ialv (j := 0) 11 dX5_planNow_10 rfl (xA hA rfl) (rfl) (by decide) (by decide) (e0) ?_
        refine xw_ldc 13 dX5_planNow_11 rfl k_X5_209 ?_
        rw [far_nI]
        refine xw_icmp_ge 26 16 dX5_planNow_13 rfl rfl (fun h13 => absurd h13 (nI_ge (by omega) (by omega))) (fun h13 => ?_)
        refine xw_iload_n 17 dX5_planNow_16 rfl rfl ?_
        refine xw_aload_n 18 dX5_planNow_17 rfl rfl rfl ?_
        refine xw_get 21 dX5_planNow_18 rfl f_X5_34 (xA hA rfl) rfl ?_
        refine xw_iconst 22 (nI 0) dX5_planNow_21 rfl (xofI 0) ?_
        refine xw_ialv (j := 0) 23 dX5_planNow_22 rfl (xA hA rfl) (rfl) (by decide) (by decide) (e0) ?_
        refine xw_icmp_lt 28 26 dX5_planNow_23 rfl rfl (fun h23 => ?_) (fun h23 => absurd (nI_lt (by omega) (by omega)) h23)
        refine xw_iload_n 29 dX5_planNow_28 rfl rfl ?_
        refine xw_iconst 30 (-1) dX5_planNow_29 rfl rfl ?_
        refine xw_icmp_ne 40 33 dX5_planNow_30 rfl rfl (fun h30 => ?_) (fun h30 => absurd h30 (xne_m1 (by omega)))
        refine xw_iconst 41 (nI 0) dX5_planNow_40 rfl (xofI 0) ?_
        refine xw_istore_n (ls' := [(3, _), (0, _), (1, _), (2, _)]) 42 dX5_planNow_41 rfl rfl rfl ?_
        refine xw_iconst 43 (nI 0) dX5_planNow_42 rfl (xofI 0) ?_
        refine xw_istore (ls' := [(4, _), (3, _), (0, _), (1, _), (2, _)]) 45 dX5_planNow_43 rfl rfl rfl ?_
        exact xW.pick [0, 1, 2, 3, 4] rfl h9
      · have er : zpR 1 (if some k = some 0 then nI 0 else -1) (some k) (some l) = -1 := by
          have hlk : l[k - 1]? = none := List.getElem?_eq_none_iff.mpr (by omega)
          rw [zpR_s, if_pos (show 1 ≤ k by omega), hlk]
          exact if_neg (fun q => by have := Option.some.inj q; omega)
        rw [er]
        refine xw_aload_n 1 dX5_planNow_0 rfl rfl rfl ?_
        refine xw_iload_n 2 dX5_planNow_1 rfl rfl ?_
        refine xw_pVv 5 dX5_planNow_2 rfl ok_M_layFewest s_X5_210 (hlay) (mH_len) (xA hA rfl) rfl rfl rfl rfl rfl rfl rfl ?_
        refine xw_aload_n 6 dX5_planNow_5 rfl rfl rfl ?_
        refine xw_get 9 dX5_planNow_6 rfl f_X5_34 (xA hA rfl) rfl ?_
        refine xw_iconst 10 (nI 0) dX5_planNow_9 rfl (xofI 0) ?_
        refine xw_ialv (j := 0) 11 dX5_planNow_10 rfl (xA hA rfl) (rfl) (by decide) (by decide) (e0) ?_
        refine xw_ldc 13 dX5_planNow_11 rfl k_X5_209 ?_
        rw [far_nI]
        refine xw_icmp_ge 26 16 dX5_planNow_13 rfl rfl (fun h13 => absurd h13 (nI_ge (by omega) (by omega))) (fun h13 => ?_)
        refine xw_iload_n 17 dX5_planNow_16 rfl rfl ?_
        refine xw_aload_n 18 dX5_planNow_17 rfl rfl rfl ?_
        refine xw_get 21 dX5_planNow_18 rfl f_X5_34 (xA hA rfl) rfl ?_
        refine xw_iconst 22 (nI 0) dX5_planNow_21 rfl (xofI 0) ?_
        refine xw_ialv (j := 0) 23 dX5_planNow_22 rfl (xA hA rfl) (rfl) (by decide) (by decide) (e0) ?_
        refine xw_icmp_lt 28 26 dX5_planNow_23 rfl rfl (fun h23 => absurd h23 (nI_nlt (by omega) (by omega))) (fun h23 => ?_)
        refine xw_iconst 27 (-1) dX5_planNow_26 rfl rfl ?_
        exact xw_ireturn dX5_planNow_27 rfl (⟨rfl, rfl⟩)
end P52

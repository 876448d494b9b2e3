/-! ===== the model: the best slant, the best turn ===== -/
/-- what lies outside stays as it is -/
theorem xInv_of {w z : Nat → Int32} (I : xInv z) (h0 : xnn w 0 3 15) (h1 : xnn w 1 0 11) (h2 : xnn w 2 5 240) (h3 : xnn w 3 0 5) (h4 : xnn w 4 1 10) (h5 : xnn w 5 1 12) (e6 : w 6 = z 6) (e7 : w 7 = z 7) (eb : ∀ k, 147 ≤ k → w k = z k) (hc : ∀ r c, r < zI w 4 → c < zI w 5 → xnn w (27 + (r * 12 + c)) 0 5) : xInv w := by
  have i6 : zI w 6 = zI z 6 := by unfold zI; rw [e6]
  have i7 : zI w 7 = zI z 7 := by unfold zI; rw [e7]
  have ib : ∀ k, 147 ≤ k → zI w k = zI z k := fun k hk => by unfold zI; rw [eb k hk]
  refine ⟨h0, h1, h2, h3, h4, h5, xnn_ag e6 I.iM, xnn_ag e7 I.iK, fun k hk => ?_, ?_, fun k hk => ?_, fun k hk => ?_, hc⟩
  · rw [i7] at hk
    rw [i6]
    exact xnn_ag (eb _ (by omega)) (I.iB k hk)
  · rw [ib 387 (by omega)]
    exact I.i0
  · rw [i7] at hk
    rw [ib _ (by omega), ib _ (by omega)]
    exact I.im k hk
  · rw [i6] at hk
    exact xnn_ag (eb _ (by omega)) (I.ib k hk)
theorem zset_inv {z : Nat → Int32} {a k : Nat} (I : xInv z) (ha : a < 4) (h1 : zlo a ≤ k) (h2 : k ≤ zhi a) : xInv (upd z a (nI k)) := by
  have hk : k < 2 ^ 31 := by
    have : zhi a ≤ 240 := by unfold zhi; split; omega; split; omega; split <;> omega
    omega
  have e : ∀ j lo hi, j < 4 → zlo j = lo → zhi j = hi → xnn z j lo hi → xnn (upd z a (nI k)) j lo hi := by
    intro j lo hi hj e1 e2 hx
    by_cases q : j = a
    · subst q
      exact xnn_k upd_at hk (by omega) (by omega)
    · exact xnn_ag (upd_ne q) hx
  have i4 : zI (upd z a (nI k)) 4 = zI z 4 := by unfold zI; rw [upd_ne (by omega)]
  have i5 : zI (upd z a (nI k)) 5 = zI z 5 := by unfold zI; rw [upd_ne (by omega)]
  refine xInv_of I (e 0 3 15 (by decide) rfl rfl I.iA) (e 1 0 11 (by decide) rfl rfl I.iS) (e 2 5 240 (by decide) rfl rfl I.iH) (e 3 0 5 (by decide) rfl rfl I.iD) (xnn_ag (upd_ne (by omega)) I.iR) (xnn_ag (upd_ne (by omega)) I.iC) (upd_ne (by omega)) (upd_ne (by omega)) (fun j hj => upd_ne (by omega)) (fun r c hr hc => ?_)
  rw [i4] at hr
  rw [i5] at hc
  exact xnn_ag (upd_ne (by omega)) (I.ic r c hr hc)
theorem zlaid_inv {z : Nat → Int32} {R C : Nat} {tc : Nat → Nat → Int32} (I : xInv z) (h1 : 1 ≤ R) (h2 : R ≤ 10) (h3 : 1 ≤ C) (h4 : C ≤ 12) (h : ∀ r c, r < R → c < C → ∃ j, j ≤ 5 ∧ tc r c = nI j) : xInv (zlaid z R C tc) := by
  have e : ∀ k, k ≠ 4 → k ≠ 5 → k < 27 ∨ 147 ≤ k → zlaid z R C tc k = z k := fun k => zlaid_o
  refine xInv_of I (xnn_ag (e 0 (by decide) (by decide) (by omega)) I.iA) (xnn_ag (e 1 (by decide) (by decide) (by omega)) I.iS) (xnn_ag (e 2 (by decide) (by decide) (by omega)) I.iH) (xnn_ag (e 3 (by decide) (by decide) (by omega)) I.iD) (xnn_k zlaid_4 (by omega) h1 h2) (xnn_k zlaid_5 (by omega) h3 h4) (e 6 (by decide) (by decide) (by omega)) (e 7 (by decide) (by decide) (by omega)) (fun k hk => e k (by omega) (by omega) (by omega)) (fun r c hr hc => ?_)
  rw [zI_k (zlaid_4 (w := z) (C := C) (tc := tc)) (by omega)] at hr
  rw [zI_k (zlaid_5 (w := z) (R := R) (tc := tc)) (by omega)] at hc
  obtain ⟨j, j1, j2⟩ := h r c hr hc
  exact xnn_k ((zlaid_c hr hc h2 h4).trans j2) (by omega) (Nat.zero_le _) j1
theorem zturn_inv {z : Nat → Int32} {how : Nat} (I : xInv z) (hh : how < 5) (h4 : how = 4 → zI z 5 ≤ 10) : xInv (zturn z how) := by
  have hA1 := I.iA.2.1
  have hA2 := I.iA.2.2
  have hS2 := I.iS.2.2
  have hR1 := I.iR.2.1
  have hR2 := I.iR.2.2
  have hC1 := I.iC.2.1
  have hC2 := I.iC.2.2
  have hM2 := I.iM.2.2
  have hK1 := I.iK.2.1
  have hK2 := I.iK.2.2
  have hcell : ∀ r c, r < zI z 4 → c < zI z 5 → ∃ j, j ≤ 5 ∧ z (27 + (r * 12 + c)) = nI j := fun r c hr hc => ⟨_, (I.ic r c hr hc).2.2, (I.ic r c hr hc).1⟩
  refine zlaid_inv I (by unfold zTR; split <;> omega) (by unfold zTR; split <;> omega) (by unfold zTC; split <;> omega) (by unfold zTC; split <;> omega) (fun r c hr hc => ?_)
  unfold zTR at hr
  unfold zTC at hc
  unfold xtc
  rcases (show how = 0 ∨ how = 1 ∨ how = 2 ∨ how = 3 ∨ how = 4 by omega) with rfl | rfl | rfl | rfl | rfl
  · rw [if_neg (by decide)] at hr hc
    exact hcell r (zI z 5 - 1 - c) (by omega) (by omega)
  · rw [if_neg (by decide)] at hr hc
    exact hcell (zI z 4 - 1 - r) c (by omega) (by omega)
  · rw [if_neg (by decide)] at hr hc
    exact hcell r ((c + 1) % zI z 5) hr (Nat.mod_lt _ (by omega))
  · rw [if_neg (by decide)] at hr hc
    exact hcell ((r + 1) % zI z 4) c (Nat.mod_lt _ (by omega)) hc
  · rw [if_pos rfl] at hr hc
    exact hcell c r hc hr
theorem zwb_slant {z : Nat → Int32} {S : Nat} (I : xInv z) (hS : S ≤ 11) : xctr (zwr (upd z 1 (nI S))) 0 (zI (upd z 1 (nI S)) 6) = zwb z (fun k => z (27 + k)) (zI z 4) (zI z 5) S := by
  have o : ∀ k, k ≠ 1 → zI (upd z 1 (nI S)) k = zI z k := fun k h => by unfold zI; rw [upd_ne h]
  have o1 : zI (upd z 1 (nI S)) 1 = S := zI_k upd_at (by omega)
  rw [o 6 (by decide)]
  unfold zwb xctr
  rw [Nat.sub_zero]
  refine xct_congr fun n hn => ?_
  unfold zwr pcol
  rw [o 0 (by decide), o1, o 4 (by decide), o 5 (by decide), upd_ne (by omega), upd_ne (by omega), Nat.zero_add]
theorem zwb_now {z : Nat → Int32} (I : xInv z) : xctr (zwr z) 0 (zI z 6) = zwb z (fun k => z (27 + k)) (zI z 4) (zI z 5) (zI z 1) := by
  have h := zwb_slant (S := zI z 1) I I.iS.2.2
  rw [upd_self I.iS.1] at h
  exact h
theorem zwb_turned {z : Nat → Int32} {how : Nat} (I : xInv z) (h4 : how = 4 → zI z 5 ≤ 10) : xctr (zwr (zturn z how)) 0 (zI (zturn z how) 6) = zwb z (zT z how) (zTR z how) (zTC z how) (zI z 1) := by
  have hA1 := I.iA.2.1
  have hA2 := I.iA.2.2
  have hS2 := I.iS.2.2
  have hR1 := I.iR.2.1
  have hR2 := I.iR.2.2
  have hC1 := I.iC.2.1
  have hC2 := I.iC.2.2
  have hM2 := I.iM.2.2
  have hK1 := I.iK.2.1
  have hK2 := I.iK.2.2
  have hR1' : 1 ≤ zTR z how := by unfold zTR; split <;> omega
  have hR2' : zTR z how ≤ 10 := by unfold zTR; split <;> omega
  have hC1' : 1 ≤ zTC z how := by unfold zTC; split <;> omega
  have hC2' : zTC z how ≤ 12 := by unfold zTC; split <;> omega
  have eo : ∀ k, k ≠ 4 → k ≠ 5 → k < 27 ∨ 147 ≤ k → zturn z how k = z k := fun k => zlaid_o
  have o : ∀ k, k ≠ 4 → k ≠ 5 → k < 27 ∨ 147 ≤ k → zI (zturn z how) k = zI z k := fun k h4 h5 h => by unfold zI; rw [eo k h4 h5 h]
  have o4 : zI (zturn z how) 4 = zTR z how := zI_k zlaid_4 (by omega)
  have o5 : zI (zturn z how) 5 = zTC z how := zI_k zlaid_5 (by omega)
  rw [o 6 (by decide) (by decide) (by omega)]
  unfold zwb xctr
  rw [Nat.sub_zero]
  refine xct_congr fun n hn => ?_
  unfold zwr pcol
  rw [o 0 (by decide) (by decide) (by omega), o 1 (by decide) (by decide) (by omega), o4, o5, Nat.zero_add, eo (147 + n) (by omega) (by omega) (by omega)]
  have a := Nat.mod_lt (n / zI z 0) hR1'
  have b := Nat.mod_lt (n % zI z 0 + zI z 1 * (n / zI z 0)) hC1'
  have e : zturn z how (27 + xpl (zI z 0) (zI z 1) (zTR z how) (zTC z how) n) = zT z how (xpl (zI z 0) (zI z 1) (zTR z how) (zTC z how) n) := by
    unfold xpl zT
    rw [show (n / zI z 0 % zTR z how * 12 + (n % zI z 0 + zI z 1 * (n / zI z 0)) % zTC z how) / 12 = n / zI z 0 % zTR z how by omega, show (n / zI z 0 % zTR z how * 12 + (n % zI z 0 + zI z 1 * (n / zI z 0)) % zTC z how) % 12 = (n % zI z 0 + zI z 1 * (n / zI z 0)) % zTC z how by omega]
    unfold zturn zlaid
    by_cases q : n / zI z 0 % zTR z how < 10
    · rw [if_neg (by omega), if_neg (by omega), if_pos (by omega), Nat.add_sub_cancel_left, show (n / zI z 0 % zTR z how * 12 + (n % zI z 0 + zI z 1 * (n / zI z 0)) % zTC z how) / 12 = n / zI z 0 % zTR z how by omega, show (n / zI z 0 % zTR z how * 12 + (n % zI z 0 + zI z 1 * (n / zI z 0)) % zTC z how) % 12 = (n % zI z 0 + zI z 1 * (n / zI z 0)) % zTC z how by omega, if_pos ⟨a, b⟩]
    · omega
  rw [e]
theorem zmin_l {f : Nat → Nat} {b : Int32} {l l' : Nat} (h : f 0 < l) (h' : f 0 < l') : ∀ n, zmin f b l (n + 1) = zmin f b l' (n + 1)
  | 0 => by
    show (if f 0 < l then _ else _) = (if f 0 < l' then _ else _)
    rw [if_pos h, if_pos h']
  | n + 1 => by
    have ih := zmin_l (b := b) h h' n
    show (if f (n + 1) < (zmin f b l (n + 1)).2 then (nI (n + 1), f (n + 1)) else zmin f b l (n + 1)) = (if f (n + 1) < (zmin f b l' (n + 1)).2 then (nI (n + 1), f (n + 1)) else zmin f b l' (n + 1))
    rw [ih]
/-- what is brought back behind i cells -/
def zrb (z y : Nat → Int32) (i : Nat) : Nat → Int32 := fun k => if (k < 27 ∨ 147 ≤ k) ∨ k < 27 + i then z k else y k
theorem zrb_s {z y : Nat → Int32} {i : Nat} (hi : i < 120) : upd (zrb z y i) (27 + i) (z (27 + i)) = zrb z y (i + 1) := by
  funext k
  by_cases h : k = 27 + i
  · subst h
    rw [upd_at]
    unfold zrb
    rw [if_pos (by omega)]
  · rw [upd_ne h]
    unfold zrb
    by_cases h2 : (k < 27 ∨ 147 ≤ k) ∨ k < 27 + i
    · rw [if_pos h2, if_pos (by omega)]
    · rw [if_neg h2, if_neg (by omega)]
theorem zrb_e {z y : Nat → Int32} : zrb z y 120 = z := by
  funext k
  unfold zrb
  by_cases h : (k < 27 ∨ 147 ≤ k) ∨ k < 27 + 120
  · rw [if_pos h]
  · omega
theorem zrb_0 {z : Nat → Int32} {R C : Nat} {tc : Nat → Nat → Int32} : upd (upd (zlaid z R C tc) 4 (z 4)) 5 (z 5) = zrb z (zlaid z R C tc) 0 := by
  funext k
  by_cases h5 : k = 5
  · subst h5; rw [upd_at]; exact (if_pos (by omega)).symm
  · rw [upd_ne h5]
    by_cases h4 : k = 4
    · subst h4; rw [upd_at]; exact (if_pos (by omega)).symm
    · rw [upd_ne h4]
      unfold zrb
      by_cases h : (k < 27 ∨ 147 ≤ k) ∨ k < 27 + 0
      · rw [if_pos h, zlaid_o h4 h5 (by omega)]
      · rw [if_neg h]
theorem xQm_i {A T : List xE} {k : Nat} {v : Int32} {m : xMS} {hp' : List xE} {c : mS} (h : hp' = mHq A m.1 (nI m.2.2.1) m.2.1 (nI m.2.2.2.1) m.2.2.2.2 (nI k) c T) : xQm A T (k, v) m (.inl (some (.int v))) hp' := ⟨rfl, c, h⟩
section P53
variable {G : xG} {x : Nat} {A T : List xE} {z hi tx ot wa pR pC pM fe kc : Nat → Int32} {s ln : Nat} {th oR oC ps rr ha nu : Int32} {hs : Int64}
theorem S_M_slantNow (hA : A.length = 71) (I : xInv z) : xMet G M_slantNow [.ref 71] (mH A z (nI s) hi (nI ln) tx th ot oR oC wa pR pC pM ps rr ha nu fe kc hs T) x 0 0 (xRetV (.int (zslant z)) (mH A z (nI s) hi (nI ln) tx th ot oR oC wa pR pC pM ps rr ha nu fe kc hs T)) := by
  have hA1 := I.iA.2.1
  have hA2 := I.iA.2.2
  have hS2 := I.iS.2.2
  have hR1 := I.iR.2.1
  have hR2 := I.iR.2.2
  have hC1 := I.iC.2.1
  have hC2 := I.iC.2.2
  have hM2 := I.iM.2.2
  have hK1 := I.iK.2.1
  have hK2 := I.iK.2.2
  have hz0 := zwb_le z (fun k => z (27 + k)) (zI z 4) (zI z 5) 0
  have ezs : zslant z = (zmin (fun s => zwb z (fun k => z (27 + k)) (zI z 4) (zI z 5) s) (nI 0) 100000 12).1 := congrArg Prod.fst (zmin_l (f := (fun s => zwb z (fun k => z (27 + k)) (zI z 4) (zI z 5) s)) (by omega) (by omega) 11)
  have loop : ∀ (t i : Nat) (v : Int32), i + t = 12 → xW G M_slantNow (xRetV (.int (zslant z)) (mH A z (nI s) hi (nI ln) tx th ot oR oC wa pR pC pM ps rr ha nu fe kc hs T)) 15 [(4, .int (nI i)), (3, .int (nI (zmin (fun s => zwb z (fun k => z (27 + k)) (zI z 4) (zI z 5) s) (nI 0) 100000 i).2)), (2, .int (zmin (fun s => zwb z (fun k => z (27 + k)) (zI z 4) (zI z 5) s) (nI 0) 100000 i).1), (1, .int (z 1)), (0, .ref 71)] [] (mH A (upd z 1 v) (nI s) hi (nI ln) tx th ot oR oC wa pR pC pM ps rr ha nu fe kc hs T) x 0 0 := by
    intro t
    induction t with
    | zero =>
      intro i v hi9
      have e : i = 12 := by omega
      subst e
      refine xw_iload 17 dX5_slantNow_15 rfl rfl ?_
      refine xw_bipush 19 (nI 12) dX5_slantNow_17 rfl (by decide) ?_
      refine xw_icmp_ge 68 22 dX5_slantNow_19 rfl rfl (fun h19 => ?_) (fun h19 => absurd (nI_le (Nat.le_refl _) (by decide)) h19)
      refine xw_aload_n 69 dX5_slantNow_68 rfl rfl rfl ?_
      refine xw_get 72 dX5_slantNow_69 rfl f_X5_7 (xA hA rfl) rfl ?_
      refine xw_iconst 73 (nI 1) dX5_slantNow_72 rfl (xofI 1) ?_
      refine xw_iload_n 74 dX5_slantNow_73 rfl rfl ?_
      refine xw_iastore (j := 1) (hp' := (mH A z (nI s) hi (nI ln) tx th ot oR oC wa pR pC pM ps rr ha nu fe kc hs T)) 75 dX5_slantNow_74 rfl (xA hA rfl) (rfl) (by decide) (by decide) (by rw [upd_upd, upd_self rfl]; exact xAs hA rfl) ?_
      refine xw_iload_n 76 dX5_slantNow_75 rfl rfl ?_
      exact xw_ireturn dX5_slantNow_76 rfl (by rw [ezs]; exact ⟨rfl, rfl⟩)
    | succ t ih =>
      intro i v hi9
      have ih := ih (i + 1) (nI i) (by omega)
      have Iy := zset_inv (a := 1) (k := i) I (by decide) (Nat.zero_le _) (show i ≤ 11 by omega)
      have hwr := S_M_wrongs (G := G) (x := x) (z := upd z 1 (nI i)) (hp := (mH A (upd z 1 (nI i)) (nI s) hi (nI ln) tx th ot oR oC wa pR pC pM ps rr ha nu fe kc hs T)) (xA hA rfl) (xA hA rfl) Iy
      rw [zwb_slant I (by omega)] at hwr
      have hfi := zwb_le z (fun k => z (27 + k)) (zI z 4) (zI z 5) i
      have hzm := zmin_le (f := (fun s => zwb z (fun k => z (27 + k)) (zI z 4) (zI z 5) s)) (b := nI 0) (l := 100000) i
      by_cases hc : (fun s => zwb z (fun k => z (27 + k)) (zI z 4) (zI z 5) s) i < (zmin (fun s => zwb z (fun k => z (27 + k)) (zI z 4) (zI z 5) s) (nI 0) 100000 i).2
      · have e : (zmin (fun s => zwb z (fun k => z (27 + k)) (zI z 4) (zI z 5) s) (nI 0) 100000 (i + 1)) = (nI i, (fun s => zwb z (fun k => z (27 + k)) (zI z 4) (zI z 5) s) i) := if_pos hc
        rw [e] at ih
        have hc' : zwb z (fun k => z (27 + k)) (zI z 4) (zI z 5) i < (zmin (fun s => zwb z (fun k => z (27 + k)) (zI z 4) (zI z 5) s) (nI 0) 100000 i).2 := hc
        refine xw_iload 17 dX5_slantNow_15 rfl rfl ?_
        refine xw_bipush 19 (nI 12) dX5_slantNow_17 rfl (by decide) ?_
        refine xw_icmp_ge 68 22 dX5_slantNow_19 rfl rfl (fun h19 => absurd h19 (nI_ge (by omega) (by omega))) (fun h19 => ?_)
        refine xw_aload_n 23 dX5_slantNow_22 rfl rfl rfl ?_
        refine xw_get 26 dX5_slantNow_23 rfl f_X5_7 (xA hA rfl) rfl ?_
        refine xw_iconst 27 (nI 1) dX5_slantNow_26 rfl (xofI 1) ?_
        refine xw_iload 29 dX5_slantNow_27 rfl rfl ?_
        refine xw_iastore (j := 1) (hp' := (mH A (upd z 1 (nI i)) (nI s) hi (nI ln) tx th ot oR oC wa pR pC pM ps rr ha nu fe kc hs T)) 30 dX5_slantNow_29 rfl (xA hA rfl) (rfl) (by decide) (by decide) (by rw [upd_upd]; exact xAs hA rfl) ?_
        refine xw_aload_n 31 dX5_slantNow_30 rfl rfl rfl ?_
        refine xw_pV 34 dX5_slantNow_31 rfl ok_M_wrongs s_X5_188 (hwr) (mH_len) (xA hA rfl) rfl rfl rfl rfl rfl rfl rfl ?_
        refine xw_istore (ls' := [(5, _), (4, _), (3, _), (2, _), (1, _), (0, _)]) 36 dX5_slantNow_34 rfl rfl rfl ?_
        refine xw_iload 38 dX5_slantNow_36 rfl rfl ?_
        refine xw_iload_n 39 dX5_slantNow_38 rfl rfl ?_
        refine xw_icmp_ge 47 42 dX5_slantNow_39 rfl rfl (fun h39 => absurd h39 (nI_ge hc' (by omega))) (fun h39 => ?_)
        refine xw_iload 44 dX5_slantNow_42 rfl rfl ?_
        refine xw_goto 48 dX5_slantNow_44 rfl ?_
        refine xw_istore_n (ls' := [(2, _), (5, _), (4, _), (3, _), (1, _), (0, _)]) 49 dX5_slantNow_48 rfl rfl rfl ?_
        refine xw_iload 51 dX5_slantNow_49 rfl rfl ?_
        refine xw_iload_n 52 dX5_slantNow_51 rfl rfl ?_
        refine xw_icmp_ge 60 55 dX5_slantNow_52 rfl rfl (fun h52 => absurd h52 (nI_ge hc' (by omega))) (fun h52 => ?_)
        refine xw_iload 57 dX5_slantNow_55 rfl rfl ?_
        refine xw_goto 61 dX5_slantNow_57 rfl ?_
        refine xw_istore_n (ls' := [(3, _), (2, _), (5, _), (4, _), (1, _), (0, _)]) 62 dX5_slantNow_61 rfl rfl rfl ?_
        refine xw_iinc (ls' := [(4, _), (3, _), (2, _), (5, _), (1, _), (0, _)]) 65 _ dX5_slantNow_62 rfl rfl (xnI_inc _) rfl rfl ?_
        refine xw_goto 15 dX5_slantNow_65 rfl ?_
        exact xW.pick [0, 1, 2, 4, 5] rfl (ih)
      · have e : (zmin (fun s => zwb z (fun k => z (27 + k)) (zI z 4) (zI z 5) s) (nI 0) 100000 (i + 1)) = (zmin (fun s => zwb z (fun k => z (27 + k)) (zI z 4) (zI z 5) s) (nI 0) 100000 i) := if_neg hc
        rw [e] at ih
        have hc' : (zmin (fun s => zwb z (fun k => z (27 + k)) (zI z 4) (zI z 5) s) (nI 0) 100000 i).2 ≤ zwb z (fun k => z (27 + k)) (zI z 4) (zI z 5) i := Nat.not_lt.mp hc
        refine xw_iload 17 dX5_slantNow_15 rfl rfl ?_
        refine xw_bipush 19 (nI 12) dX5_slantNow_17 rfl (by decide) ?_
        refine xw_icmp_ge 68 22 dX5_slantNow_19 rfl rfl (fun h19 => absurd h19 (nI_ge (by omega) (by omega))) (fun h19 => ?_)
        refine xw_aload_n 23 dX5_slantNow_22 rfl rfl rfl ?_
        refine xw_get 26 dX5_slantNow_23 rfl f_X5_7 (xA hA rfl) rfl ?_
        refine xw_iconst 27 (nI 1) dX5_slantNow_26 rfl (xofI 1) ?_
        refine xw_iload 29 dX5_slantNow_27 rfl rfl ?_
        refine xw_iastore (j := 1) (hp' := (mH A (upd z 1 (nI i)) (nI s) hi (nI ln) tx th ot oR oC wa pR pC pM ps rr ha nu fe kc hs T)) 30 dX5_slantNow_29 rfl (xA hA rfl) (rfl) (by decide) (by decide) (by rw [upd_upd]; exact xAs hA rfl) ?_
        refine xw_aload_n 31 dX5_slantNow_30 rfl rfl rfl ?_
        refine xw_pV 34 dX5_slantNow_31 rfl ok_M_wrongs s_X5_188 (hwr) (mH_len) (xA hA rfl) rfl rfl rfl rfl rfl rfl rfl ?_
        refine xw_istore (ls' := [(5, _), (4, _), (3, _), (2, _), (1, _), (0, _)]) 36 dX5_slantNow_34 rfl rfl rfl ?_
        refine xw_iload 38 dX5_slantNow_36 rfl rfl ?_
        refine xw_iload_n 39 dX5_slantNow_38 rfl rfl ?_
        refine xw_icmp_ge 47 42 dX5_slantNow_39 rfl rfl (fun h39 => ?_) (fun h39 => absurd (nI_le hc' (by omega)) h39)
        refine xw_iload_n 48 dX5_slantNow_47 rfl rfl ?_
        refine xw_istore_n (ls' := [(2, _), (5, _), (4, _), (3, _), (1, _), (0, _)]) 49 dX5_slantNow_48 rfl rfl rfl ?_
        refine xw_iload 51 dX5_slantNow_49 rfl rfl ?_
        refine xw_iload_n 52 dX5_slantNow_51 rfl rfl ?_
        refine xw_icmp_ge 60 55 dX5_slantNow_52 rfl rfl (fun h52 => ?_) (fun h52 => absurd (nI_le hc' (by omega)) h52)
        refine xw_iload_n 61 dX5_slantNow_60 rfl rfl ?_
        refine xw_istore_n (ls' := [(3, _), (2, _), (5, _), (4, _), (1, _), (0, _)]) 62 dX5_slantNow_61 rfl rfl rfl ?_
        refine xw_iinc (ls' := [(4, _), (3, _), (2, _), (5, _), (1, _), (0, _)]) 65 _ dX5_slantNow_62 rfl rfl (xnI_inc _) rfl rfl ?_
        refine xw_goto 15 dX5_slantNow_65 rfl ?_
        exact xW.pick [0, 1, 2, 4, 5] rfl (ih)
  have h9 := loop 12 0 (z 1) (by omega)
  rw [upd_self rfl] at h9
  refine xw_aload_n 1 dX5_slantNow_0 rfl rfl rfl ?_
  refine xw_get 4 dX5_slantNow_1 rfl f_X5_7 (xA hA rfl) rfl ?_
  refine xw_iconst 5 (nI 1) dX5_slantNow_4 rfl (xofI 1) ?_
  refine xw_ialv (j := 1) 6 dX5_slantNow_5 rfl (xA hA rfl) (rfl) (by decide) (by decide) (rfl) ?_
  refine xw_istore_n (ls' := [(1, _), (0, _)]) 7 dX5_slantNow_6 rfl rfl rfl ?_
  refine xw_iconst 8 (nI 0) dX5_slantNow_7 rfl (xofI 0) ?_
  refine xw_istore_n (ls' := [(2, _), (1, _), (0, _)]) 9 dX5_slantNow_8 rfl rfl rfl ?_
  refine xw_ldc 11 dX5_slantNow_9 rfl k_X5_209 ?_
  rw [far_nI]
  refine xw_istore_n (ls' := [(3, _), (2, _), (1, _), (0, _)]) 12 dX5_slantNow_11 rfl rfl rfl ?_
  refine xw_iconst 13 (nI 0) dX5_slantNow_12 rfl (xofI 0) ?_
  refine xw_istore (ls' := [(4, _), (3, _), (2, _), (1, _), (0, _)]) 15 dX5_slantNow_13 rfl rfl rfl ?_
  exact xW.pick [0, 1, 2, 3, 4] rfl h9
theorem S_M_bestSlant (hA : A.length = 71) (I : xInv z) : xMet G M_bestSlant [.ref 71] (mH A z (nI s) hi (nI ln) tx th ot oR oC wa pR pC pM ps rr ha nu fe kc hs T) x 0 0 (xQm A T (0, zslant z) (z, hi, s, ln, tx)) := by
  refine xw_aload_n 1 dX5_bestSlant_0 rfl rfl rfl ?_
  refine xw_iconst 2 (nI 0) dX5_bestSlant_1 rfl (xofI 0) ?_
  refine xw_put (hp' := (mH A z (nI s) hi (nI ln) tx (nI 0) ot oR oC wa pR pC pM ps rr ha nu fe kc hs T)) 5 dX5_bestSlant_2 rfl f_X5_40 (xA hA rfl) ⟨rfl, rfl⟩ rfl rfl (xAs hA rfl) ?_
  refine xw_aload_n 6 dX5_bestSlant_5 rfl rfl rfl ?_
  refine xw_pV 9 dX5_bestSlant_6 rfl ok_M_slantNow s_X5_225 (S_M_slantNow hA I) (mH_len) (xA hA rfl) rfl rfl rfl rfl rfl rfl rfl ?_
  exact xw_ireturn dX5_bestSlant_9 rfl (xQm_i (c := (ot, oR, oC, wa, pR, pC, pM, ps, rr, ha, nu, fe, kc, hs)) rfl)
theorem S_M_wrongsTurned {how : Nat} (hA : A.length = 71) (I : xInv z) (hh : how < 5) (h4 : how = 4 → zI z 5 ≤ 10) : xMet G M_wrongsTurned [.ref 71, .int (nI how)] (mH A z (nI s) hi (nI ln) tx th ot oR oC wa pR pC pM ps rr ha nu fe kc hs T) x 0 0 (xRetV (.int (nI (zwb z (zT z how) (zTR z how) (zTC z how) (zI z 1)))) (mH A z (nI s) hi (nI ln) tx th (xlay (xtc (fun k => z (27 + k)) (zI z 4) (zI z 5) how) ot (zTR z how) (zTC z how)) (nI (zTR z how)) (nI (zTC z how)) wa pR pC pM ps rr ha nu fe (xmix (fun k => z (27 + k)) kc 120) hs T)) := by
  have hA1 := I.iA.2.1
  have hA2 := I.iA.2.2
  have hS2 := I.iS.2.2
  have hR1 := I.iR.2.1
  have hR2 := I.iR.2.2
  have hC1 := I.iC.2.1
  have hC2 := I.iC.2.2
  have hM2 := I.iM.2.2
  have hK1 := I.iK.2.1
  have hK2 := I.iK.2.2
  have hR10 : zTR z how ≤ 10 := by unfold zTR; split <;> omega
  have hC12 : zTC z how ≤ 12 := by unfold zTC; split <;> omega
  have Iy := zturn_inv I hh h4
  have e9 : zlaid z (zTR z how) (zTC z how) (fun r c => (xlay (xtc (fun k => z (27 + k)) (zI z 4) (zI z 5) how) ot (zTR z how) (zTC z how)) (r * 12 + c)) = zturn z how := zlaid_congr fun r c hr hc => by
    unfold xlay
    rw [show (r * 12 + c) / 12 = r by omega, show (r * 12 + c) % 12 = c by omega, if_pos ⟨hr, hc⟩]
  have hlt := S_M_layTurned (z := z) (hi := hi) (tx := tx) (th := th) (ot := ot) (oR := oR) (oC := oC) (wa := wa) (pR := pR) (pC := pC) (pM := pM) (ps := ps) (rr := rr) (ha := ha) (nu := nu) (fe := fe) (kc := (xmix (fun k => z (27 + k)) kc 120)) (hs := hs) (s := s) (ln := ln) (A := A) (T := T) (G := G) (x := x) (how := how) hA I hh h4
  have hto := S_M_takeOther (z := z) (hi := hi) (tx := tx) (th := th) (ot := (xlay (xtc (fun k => z (27 + k)) (zI z 4) (zI z 5) how) ot (zTR z how) (zTC z how))) (wa := wa) (pR := pR) (pC := pC) (pM := pM) (ps := ps) (rr := rr) (ha := ha) (nu := nu) (fe := fe) (kc := (xmix (fun k => z (27 + k)) kc 120)) (hs := hs) (s := s) (ln := ln) (A := A) (T := T) (G := G) (x := x) (R := zTR z how) (C := zTC z how) hA (by omega) (by omega)
  rw [e9] at hto
  have hwr := S_M_wrongs (G := G) (x := x) (z := zturn z how) (hp := (mH A (zturn z how) (nI s) hi (nI ln) tx th (xlay (xtc (fun k => z (27 + k)) (zI z 4) (zI z 5) how) ot (zTR z how) (zTC z how)) (nI (zTR z how)) (nI (zTC z how)) wa pR pC pM ps rr ha nu fe (xmix (fun k => z (27 + k)) kc 120) hs T)) (xA hA rfl) (xA hA rfl) Iy
  rw [zwb_turned I h4] at hwr
  have hrb : upd (upd (zturn z how) 4 (z 4)) 5 (z 5) = zrb z (zturn z how) 0 := zrb_0
  have back : ∀ (t i : Nat), i + t = 120 → xW G M_wrongsTurned (xRetV (.int (nI (zwb z (zT z how) (zTR z how) (zTC z how) (zI z 1)))) (mH A z (nI s) hi (nI ln) tx th (xlay (xtc (fun k => z (27 + k)) (zI z 4) (zI z 5) how) ot (zTR z how) (zTC z how)) (nI (zTR z how)) (nI (zTC z how)) wa pR pC pM ps rr ha nu fe (xmix (fun k => z (27 + k)) kc 120) hs T)) 79 [(5, .int (nI i)), (4, .int (nI (zwb z (zT z how) (zTR z how) (zTC z how) (zI z 1)))), (0, .ref 71)] [] (mH A (zrb z (zturn z how) i) (nI s) hi (nI ln) tx th (xlay (xtc (fun k => z (27 + k)) (zI z 4) (zI z 5) how) ot (zTR z how) (zTC z how)) (nI (zTR z how)) (nI (zTC z how)) wa pR pC pM ps rr ha nu fe (xmix (fun k => z (27 + k)) kc 120) hs T) x 0 0 := by
    intro t
    induction t with
    | zero =>
      intro i hi9
      have e : i = 120 := by omega
      subst e
      rw [zrb_e]
      refine xw_iload 81 dX5_wrongsTurned_79 rfl rfl ?_
      refine xw_bipush 83 (nI 120) dX5_wrongsTurned_81 rfl (by decide) ?_
      refine xw_icmp_ge 109 86 dX5_wrongsTurned_83 rfl rfl (fun h83 => ?_) (fun h83 => absurd (nI_le (Nat.le_refl _) (by decide)) h83)
      refine xw_iload 111 dX5_wrongsTurned_109 rfl rfl ?_
      exact xw_ireturn dX5_wrongsTurned_111 rfl (⟨rfl, rfl⟩)
    | succ t ih =>
      intro i hi9
      have ih := ih (i + 1) (by omega)
      rw [← zrb_s (by omega)] at ih
      refine xw_iload 81 dX5_wrongsTurned_79 rfl rfl ?_
      refine xw_bipush 83 (nI 120) dX5_wrongsTurned_81 rfl (by decide) ?_
      refine xw_icmp_ge 109 86 dX5_wrongsTurned_83 rfl rfl (fun h83 => absurd h83 (nI_ge (by omega) (by omega))) (fun h83 => ?_)
      refine xw_aload_n 87 dX5_wrongsTurned_86 rfl rfl rfl ?_
      refine xw_get 90 dX5_wrongsTurned_87 rfl f_X5_7 (xA hA rfl) rfl ?_
      refine xw_bipush 92 (nI 27) dX5_wrongsTurned_90 rfl (by decide) ?_
      refine xw_iload 94 dX5_wrongsTurned_92 rfl rfl ?_
      refine xw_iadd 95 dX5_wrongsTurned_94 rfl ?_
      refine xw_aload_n 96 dX5_wrongsTurned_95 rfl rfl rfl ?_
      refine xw_get 99 dX5_wrongsTurned_96 rfl f_X5_37 (xA hA rfl) rfl ?_
      refine xw_iload 101 dX5_wrongsTurned_99 rfl rfl ?_
      refine xw_ialv (j := _) 102 dX5_wrongsTurned_101 rfl (xA hA rfl) (rfl) (by omega) (by omega) (xmix_at (by omega)) ?_
      refine xw_iastore (j := 27 + i) 103 dX5_wrongsTurned_102 rfl (xA hA rfl) (nI_add _ _) (by omega) (by omega) (xAs hA rfl) ?_
      refine xw_iinc (ls' := [(5, _), (4, _), (0, _)]) 106 _ dX5_wrongsTurned_103 rfl rfl (xnI_inc _) rfl rfl ?_
      refine xw_goto 79 dX5_wrongsTurned_106 rfl ?_
      exact xW.pick [0, 1, 2] rfl (ih)
  have keep : ∀ (t i : Nat), i + t = 120 → xW G M_wrongsTurned (xRetV (.int (nI (zwb z (zT z how) (zTR z how) (zTC z how) (zI z 1)))) (mH A z (nI s) hi (nI ln) tx th (xlay (xtc (fun k => z (27 + k)) (zI z 4) (zI z 5) how) ot (zTR z how) (zTC z how)) (nI (zTR z how)) (nI (zTC z how)) wa pR pC pM ps rr ha nu fe (xmix (fun k => z (27 + k)) kc 120) hs T)) 17 [(4, .int (nI i)), (3, .int (z 5)), (2, .int (z 4)), (0, .ref 71), (1, .int (nI how))] [] (mH A z (nI s) hi (nI ln) tx th ot oR oC wa pR pC pM ps rr ha nu fe (xmix (fun k => z (27 + k)) kc i) hs T) x 0 0 := by
    intro t
    induction t with
    | zero =>
      intro i hi9
      have e : i = 120 := by omega
      subst e
      have h9 := back 120 0 (by omega)
      refine xw_iload 19 dX5_wrongsTurned_17 rfl rfl ?_
      refine xw_bipush 21 (nI 120) dX5_wrongsTurned_19 rfl (by decide) ?_
      refine xw_icmp_ge 47 24 dX5_wrongsTurned_21 rfl rfl (fun h21 => ?_) (fun h21 => absurd (nI_le (Nat.le_refl _) (by decide)) h21)
      refine xw_aload_n 48 dX5_wrongsTurned_47 rfl rfl rfl ?_
      refine xw_iload_n 49 dX5_wrongsTurned_48 rfl rfl ?_
      refine xw_pVv 52 dX5_wrongsTurned_49 rfl ok_M_layTurned s_X5_104 (hlt) (mH_len) (xA hA rfl) rfl rfl rfl rfl rfl rfl rfl ?_
      refine xw_aload_n 53 dX5_wrongsTurned_52 rfl rfl rfl ?_
      refine xw_pVv 56 dX5_wrongsTurned_53 rfl ok_M_takeOther s_X5_98 (hto) (mH_len) (xA hA rfl) rfl rfl rfl rfl rfl rfl rfl ?_
      refine xw_aload_n 57 dX5_wrongsTurned_56 rfl rfl rfl ?_
      refine xw_pV 60 dX5_wrongsTurned_57 rfl ok_M_wrongs s_X5_188 (hwr) (mH_len) (xA hA rfl) rfl rfl rfl rfl rfl rfl rfl ?_
      refine xw_istore (ls' := [(4, _), (3, _), (2, _), (0, _), (1, _)]) 62 dX5_wrongsTurned_60 rfl rfl rfl ?_
      refine xw_aload_n 63 dX5_wrongsTurned_62 rfl rfl rfl ?_
      refine xw_get 66 dX5_wrongsTurned_63 rfl f_X5_7 (xA hA rfl) rfl ?_
      refine xw_iconst 67 (nI 4) dX5_wrongsTurned_66 rfl (xofI 4) ?_
      refine xw_iload_n 68 dX5_wrongsTurned_67 rfl rfl ?_
      refine xw_iastore (j := 4) (hp' := (mH A (upd (zturn z how) 4 (z 4)) (nI s) hi (nI ln) tx th (xlay (xtc (fun k => z (27 + k)) (zI z 4) (zI z 5) how) ot (zTR z how) (zTC z how)) (nI (zTR z how)) (nI (zTC z how)) wa pR pC pM ps rr ha nu fe (xmix (fun k => z (27 + k)) kc 120) hs T)) 69 dX5_wrongsTurned_68 rfl (xA hA rfl) (rfl) (by decide) (by decide) (xAs hA rfl) ?_
      refine xw_aload_n 70 dX5_wrongsTurned_69 rfl rfl rfl ?_
      refine xw_get 73 dX5_wrongsTurned_70 rfl f_X5_7 (xA hA rfl) rfl ?_
      refine xw_iconst 74 (nI 5) dX5_wrongsTurned_73 rfl (xofI 5) ?_
      refine xw_iload_n 75 dX5_wrongsTurned_74 rfl rfl ?_
      refine xw_iastore (j := 5) (hp' := (mH A (zrb z (zturn z how) 0) (nI s) hi (nI ln) tx th (xlay (xtc (fun k => z (27 + k)) (zI z 4) (zI z 5) how) ot (zTR z how) (zTC z how)) (nI (zTR z how)) (nI (zTC z how)) wa pR pC pM ps rr ha nu fe (xmix (fun k => z (27 + k)) kc 120) hs T)) 76 dX5_wrongsTurned_75 rfl (xA hA rfl) (rfl) (by decide) (by decide) (by rw [← hrb]; exact xAs hA rfl) ?_
      refine xw_iconst 77 (nI 0) dX5_wrongsTurned_76 rfl (xofI 0) ?_
      refine xw_istore (ls' := [(5, _), (4, _), (3, _), (2, _), (0, _), (1, _)]) 79 dX5_wrongsTurned_77 rfl rfl rfl ?_
      exact xW.pick [0, 1, 4] rfl h9
    | succ t ih =>
      intro i hi9
      have ih := ih (i + 1) (by omega)
      refine xw_iload 19 dX5_wrongsTurned_17 rfl rfl ?_
      refine xw_bipush 21 (nI 120) dX5_wrongsTurned_19 rfl (by decide) ?_
      refine xw_icmp_ge 47 24 dX5_wrongsTurned_21 rfl rfl (fun h21 => absurd h21 (nI_ge (by omega) (by omega))) (fun h21 => ?_)
      refine xw_aload_n 25 dX5_wrongsTurned_24 rfl rfl rfl ?_
      refine xw_get 28 dX5_wrongsTurned_25 rfl f_X5_37 (xA hA rfl) rfl ?_
      refine xw_iload 30 dX5_wrongsTurned_28 rfl rfl ?_
      refine xw_aload_n 31 dX5_wrongsTurned_30 rfl rfl rfl ?_
      refine xw_get 34 dX5_wrongsTurned_31 rfl f_X5_7 (xA hA rfl) rfl ?_
      refine xw_bipush 36 (nI 27) dX5_wrongsTurned_34 rfl (by decide) ?_
      refine xw_iload 38 dX5_wrongsTurned_36 rfl rfl ?_
      refine xw_iadd 39 dX5_wrongsTurned_38 rfl ?_
      refine xw_iaload (j := _) 40 dX5_wrongsTurned_39 rfl (xA hA rfl) (nI_add _ _) (by omega) (by omega) ?_
      refine xw_iastore (j := i) (hp' := (mH A z (nI s) hi (nI ln) tx th ot oR oC wa pR pC pM ps rr ha nu fe (xmix (fun k => z (27 + k)) kc (i + 1)) hs T)) 41 dX5_wrongsTurned_40 rfl (xA hA rfl) (rfl) (by omega) (by omega) (by rw [← xmix_s (fun k => z (27 + k))]; exact xAs hA rfl) ?_
      refine xw_iinc (ls' := [(4, _), (3, _), (2, _), (0, _), (1, _)]) 44 _ dX5_wrongsTurned_41 rfl rfl (xnI_inc _) rfl rfl ?_
      refine xw_goto 17 dX5_wrongsTurned_44 rfl ?_
      exact xW.pick [0, 1, 2, 3, 4] rfl (ih)
  have h9 := keep 120 0 (by omega)
  rw [xmix_0] at h9
  refine xw_aload_n 1 dX5_wrongsTurned_0 rfl rfl rfl ?_
  refine xw_get 4 dX5_wrongsTurned_1 rfl f_X5_7 (xA hA rfl) rfl ?_
  refine xw_iconst 5 (nI 4) dX5_wrongsTurned_4 rfl (xofI 4) ?_
  refine xw_ialv (j := 4) 6 dX5_wrongsTurned_5 rfl (xA hA rfl) (rfl) (by decide) (by decide) (rfl) ?_
  refine xw_istore_n (ls' := [(2, _), (0, _), (1, _)]) 7 dX5_wrongsTurned_6 rfl rfl rfl ?_
  refine xw_aload_n 8 dX5_wrongsTurned_7 rfl rfl rfl ?_
  refine xw_get 11 dX5_wrongsTurned_8 rfl f_X5_7 (xA hA rfl) rfl ?_
  refine xw_iconst 12 (nI 5) dX5_wrongsTurned_11 rfl (xofI 5) ?_
  refine xw_ialv (j := 5) 13 dX5_wrongsTurned_12 rfl (xA hA rfl) (rfl) (by decide) (by decide) (rfl) ?_
  refine xw_istore_n (ls' := [(3, _), (2, _), (0, _), (1, _)]) 14 dX5_wrongsTurned_13 rfl rfl rfl ?_
  refine xw_iconst 15 (nI 0) dX5_wrongsTurned_14 rfl (xofI 0) ?_
  refine xw_istore (ls' := [(4, _), (3, _), (2, _), (0, _), (1, _)]) 17 dX5_wrongsTurned_15 rfl rfl rfl ?_
  exact xW.pick [0, 1, 2, 3, 4] rfl h9
theorem S_M_turnNow (hA : A.length = 71) (I : xInv z) : xMet G M_turnNow [.ref 71] (mH A z (nI s) hi (nI ln) tx th ot oR oC wa pR pC pM ps rr ha nu fe kc hs T) x 0 0 (fun o hp' => o = .inl (some (.int (zturnb z))) ∧ ∃ (ot' : Nat → Int32) (oR' oC' : Int32) (kc' : Nat → Int32), hp' = (mH A z (nI s) hi (nI ln) tx th ot' oR' oC' wa pR pC pM ps rr ha nu fe kc' hs T)) := by
  have hA1 := I.iA.2.1
  have hA2 := I.iA.2.2
  have hS2 := I.iS.2.2
  have hR1 := I.iR.2.1
  have hR2 := I.iR.2.2
  have hC1 := I.iC.2.1
  have hC2 := I.iC.2.2
  have hM2 := I.iM.2.2
  have hK1 := I.iK.2.1
  have hK2 := I.iK.2.2
  have hl0 := zwb_le z (fun k => z (27 + k)) (zI z 4) (zI z 5) (zI z 1)
  have loop : ∀ (t i : Nat) (ot : Nat → Int32) (oR oC : Int32) (kc : Nat → Int32), i + t = 5 → xW G M_turnNow (fun o hp' => o = .inl (some (.int (zturnb z))) ∧ ∃ (ot' : Nat → Int32) (oR' oC' : Int32) (kc' : Nat → Int32), hp' = (mH A z (nI s) hi (nI ln) tx th ot' oR' oC' wa pR pC pM ps rr ha nu fe kc' hs T)) 9 [(3, .int (nI i)), (2, .int (nI (zmin (zturnf z) (-1) (zwb z (fun k => z (27 + k)) (zI z 4) (zI z 5) (zI z 1)) i).2)), (1, .int (zmin (zturnf z) (-1) (zwb z (fun k => z (27 + k)) (zI z 4) (zI z 5) (zI z 1)) i).1), (0, .ref 71)] [] (mH A z (nI s) hi (nI ln) tx th ot oR oC wa pR pC pM ps rr ha nu fe kc hs T) x 0 0 := by
    intro t
    induction t with
    | zero =>
      intro i ot oR oC kc hi9
      have e : i = 5 := by omega
      subst e
      refine xw_iload_n 10 dX5_turnNow_9 rfl rfl ?_
      refine xw_iconst 11 (nI 5) dX5_turnNow_10 rfl (xofI 5) ?_
      refine xw_icmp_ge 65 14 dX5_turnNow_11 rfl rfl (fun h11 => ?_) (fun h11 => absurd (nI_le (Nat.le_refl _) (by decide)) h11)
      refine xw_iload_n 66 dX5_turnNow_65 rfl rfl ?_
      exact xw_ireturn dX5_turnNow_66 rfl (⟨rfl, _, _, _, _, rfl⟩)
    | succ t ih =>
      intro i ot oR oC kc hi9
      have hct := S_M_canTurn (G := G) (x := x) (hp := (mH A z (nI s) hi (nI ln) tx th ot oR oC wa pR pC pM ps rr ha nu fe kc hs T)) (how := i) (xA hA rfl) (xA hA rfl) I (by omega)
      have hzm := zmin_le (f := zturnf z) (b := -1) (l := (zwb z (fun k => z (27 + k)) (zI z 4) (zI z 5) (zI z 1))) i
      by_cases hcan : i ≠ 4 ∨ zI z 5 ≤ 10
      · rw [if_pos hcan] at hct
        have ef : zturnf z i = zwb z (zT z i) (zTR z i) (zTC z i) (zI z 1) := if_pos hcan
        have hwt := S_M_wrongsTurned (z := z) (hi := hi) (tx := tx) (th := th) (ot := ot) (oR := oR) (oC := oC) (wa := wa) (pR := pR) (pC := pC) (pM := pM) (ps := ps) (rr := rr) (ha := ha) (nu := nu) (fe := fe) (kc := kc) (hs := hs) (s := s) (ln := ln) (A := A) (T := T) (G := G) (x := x) (how := i) hA I (by omega) (by omega)
        rw [← ef] at hwt
        have hfi : zturnf z i ≤ 240 := by
          rw [ef]
          have := zwb_le z (zT z i) (zTR z i) (zTC z i) (zI z 1)
          omega
        by_cases hc : zturnf z i < (zmin (zturnf z) (-1) (zwb z (fun k => z (27 + k)) (zI z 4) (zI z 5) (zI z 1)) i).2
        · have e : (zmin (zturnf z) (-1) (zwb z (fun k => z (27 + k)) (zI z 4) (zI z 5) (zI z 1)) (i + 1)) = (nI i, zturnf z i) := if_pos hc
          have ih := ih (i + 1) (xlay (xtc (fun k => z (27 + k)) (zI z 4) (zI z 5) i) ot (zTR z i) (zTC z i)) (nI (zTR z i)) (nI (zTC z i)) (xmix (fun k => z (27 + k)) kc 120) (by omega)
          rw [e] at ih
          refine xw_iload_n 10 dX5_turnNow_9 rfl rfl ?_
          refine xw_iconst 11 (nI 5) dX5_turnNow_10 rfl (xofI 5) ?_
          refine xw_icmp_ge 65 14 dX5_turnNow_11 rfl rfl (fun h11 => absurd h11 (nI_ge (by omega) (by omega))) (fun h11 => ?_)
          refine xw_aload_n 15 dX5_turnNow_14 rfl rfl rfl ?_
          refine xw_iload_n 16 dX5_turnNow_15 rfl rfl ?_
          refine xw_pV 19 dX5_turnNow_16 rfl ok_M_canTurn s_X5_101 (hct) (mH_len) (xA hA rfl) rfl rfl rfl rfl rfl rfl rfl ?_
          refine xw_if_eq 30 22 dX5_turnNow_19 rfl rfl (fun h19 => absurd h19 (by decide)) (fun h19 => ?_)
          refine xw_aload_n 23 dX5_turnNow_22 rfl rfl rfl ?_
          refine xw_iload_n 24 dX5_turnNow_23 rfl rfl ?_
          refine xw_pV 27 dX5_turnNow_24 rfl ok_M_wrongsTurned s_X5_228 (hwt) (mH_len) (xA hA rfl) rfl rfl rfl rfl rfl rfl rfl ?_
          refine xw_goto 32 dX5_turnNow_27 rfl ?_
          refine xw_istore (ls' := [(4, _), (3, _), (2, _), (1, _), (0, _)]) 34 dX5_turnNow_32 rfl rfl rfl ?_
          refine xw_iload 36 dX5_turnNow_34 rfl rfl ?_
          refine xw_iload_n 37 dX5_turnNow_36 rfl rfl ?_
          refine xw_icmp_ge 44 40 dX5_turnNow_37 rfl rfl (fun h37 => absurd h37 (nI_ge hc (by omega))) (fun h37 => ?_)
          refine xw_iload_n 41 dX5_turnNow_40 rfl rfl ?_
          refine xw_goto 45 dX5_turnNow_41 rfl ?_
          refine xw_istore_n (ls' := [(1, _), (4, _), (3, _), (2, _), (0, _)]) 46 dX5_turnNow_45 rfl rfl rfl ?_
          refine xw_iload 48 dX5_turnNow_46 rfl rfl ?_
          refine xw_iload_n 49 dX5_turnNow_48 rfl rfl ?_
          refine xw_icmp_ge 57 52 dX5_turnNow_49 rfl rfl (fun h49 => absurd h49 (nI_ge hc (by omega))) (fun h49 => ?_)
          refine xw_iload 54 dX5_turnNow_52 rfl rfl ?_
          refine xw_goto 58 dX5_turnNow_54 rfl ?_
          refine xw_istore_n (ls' := [(2, _), (1, _), (4, _), (3, _), (0, _)]) 59 dX5_turnNow_58 rfl rfl rfl ?_
          refine xw_iinc (ls' := [(3, _), (2, _), (1, _), (4, _), (0, _)]) 62 _ dX5_turnNow_59 rfl rfl (xnI_inc _) rfl rfl ?_
          refine xw_goto 9 dX5_turnNow_62 rfl ?_
          exact xW.pick [0, 1, 2, 4] rfl (ih)
        · have e : (zmin (zturnf z) (-1) (zwb z (fun k => z (27 + k)) (zI z 4) (zI z 5) (zI z 1)) (i + 1)) = (zmin (zturnf z) (-1) (zwb z (fun k => z (27 + k)) (zI z 4) (zI z 5) (zI z 1)) i) := if_neg hc
          have ih := ih (i + 1) (xlay (xtc (fun k => z (27 + k)) (zI z 4) (zI z 5) i) ot (zTR z i) (zTC z i)) (nI (zTR z i)) (nI (zTC z i)) (xmix (fun k => z (27 + k)) kc 120) (by omega)
          rw [e] at ih
          refine xw_iload_n 10 dX5_turnNow_9 rfl rfl ?_
          refine xw_iconst 11 (nI 5) dX5_turnNow_10 rfl (xofI 5) ?_
          refine xw_icmp_ge 65 14 dX5_turnNow_11 rfl rfl (fun h11 => absurd h11 (nI_ge (by omega) (by omega))) (fun h11 => ?_)
          refine xw_aload_n 15 dX5_turnNow_14 rfl rfl rfl ?_
          refine xw_iload_n 16 dX5_turnNow_15 rfl rfl ?_
          refine xw_pV 19 dX5_turnNow_16 rfl ok_M_canTurn s_X5_101 (hct) (mH_len) (xA hA rfl) rfl rfl rfl rfl rfl rfl rfl ?_
          refine xw_if_eq 30 22 dX5_turnNow_19 rfl rfl (fun h19 => absurd h19 (by decide)) (fun h19 => ?_)
          refine xw_aload_n 23 dX5_turnNow_22 rfl rfl rfl ?_
          refine xw_iload_n 24 dX5_turnNow_23 rfl rfl ?_
          refine xw_pV 27 dX5_turnNow_24 rfl ok_M_wrongsTurned s_X5_228 (hwt) (mH_len) (xA hA rfl) rfl rfl rfl rfl rfl rfl rfl ?_
          refine xw_goto 32 dX5_turnNow_27 rfl ?_
          refine xw_istore (ls' := [(4, _), (3, _), (2, _), (1, _), (0, _)]) 34 dX5_turnNow_32 rfl rfl rfl ?_
          refine xw_iload 36 dX5_turnNow_34 rfl rfl ?_
          refine xw_iload_n 37 dX5_turnNow_36 rfl rfl ?_
          refine xw_icmp_ge 44 40 dX5_turnNow_37 rfl rfl (fun h37 => ?_) (fun h37 => absurd (nI_le (by omega) (by omega)) h37)
          refine xw_iload_n 45 dX5_turnNow_44 rfl rfl ?_
          refine xw_istore_n (ls' := [(1, _), (4, _), (3, _), (2, _), (0, _)]) 46 dX5_turnNow_45 rfl rfl rfl ?_
          refine xw_iload 48 dX5_turnNow_46 rfl rfl ?_
          refine xw_iload_n 49 dX5_turnNow_48 rfl rfl ?_
          refine xw_icmp_ge 57 52 dX5_turnNow_49 rfl rfl (fun h49 => ?_) (fun h49 => absurd (nI_le (by omega) (by omega)) h49)
          refine xw_iload_n 58 dX5_turnNow_57 rfl rfl ?_
          refine xw_istore_n (ls' := [(2, _), (1, _), (4, _), (3, _), (0, _)]) 59 dX5_turnNow_58 rfl rfl rfl ?_
          refine xw_iinc (ls' := [(3, _), (2, _), (1, _), (4, _), (0, _)]) 62 _ dX5_turnNow_59 rfl rfl (xnI_inc _) rfl rfl ?_
          refine xw_goto 9 dX5_turnNow_62 rfl ?_
          exact xW.pick [0, 1, 2, 4] rfl (ih)
      · rw [if_neg hcan] at hct
        have ef : zturnf z i = 100000 := if_neg hcan
        have e : (zmin (zturnf z) (-1) (zwb z (fun k => z (27 + k)) (zI z 4) (zI z 5) (zI z 1)) (i + 1)) = (zmin (zturnf z) (-1) (zwb z (fun k => z (27 + k)) (zI z 4) (zI z 5) (zI z 1)) i) := if_neg (by rw [ef]; omega)
        have ih := ih (i + 1) ot oR oC kc (by omega)
        rw [e] at ih
        refine xw_iload_n 10 dX5_turnNow_9 rfl rfl ?_
        refine xw_iconst 11 (nI 5) dX5_turnNow_10 rfl (xofI 5) ?_
        refine xw_icmp_ge 65 14 dX5_turnNow_11 rfl rfl (fun h11 => absurd h11 (nI_ge (by omega) (by omega))) (fun h11 => ?_)
        refine xw_aload_n 15 dX5_turnNow_14 rfl rfl rfl ?_
        refine xw_iload_n 16 dX5_turnNow_15 rfl rfl ?_
        refine xw_pV 19 dX5_turnNow_16 rfl ok_M_canTurn s_X5_101 (hct) (mH_len) (xA hA rfl) rfl rfl rfl rfl rfl rfl rfl ?_
        refine xw_if_eq 30 22 dX5_turnNow_19 rfl rfl (fun h19 => ?_) (fun h19 => absurd (rfl) h19)
        refine xw_ldc 32 dX5_turnNow_30 rfl k_X5_209 ?_
        rw [far_nI]
        refine xw_istore (ls' := [(4, _), (3, _), (2, _), (1, _), (0, _)]) 34 dX5_turnNow_32 rfl rfl rfl ?_
        refine xw_iload 36 dX5_turnNow_34 rfl rfl ?_
        refine xw_iload_n 37 dX5_turnNow_36 rfl rfl ?_
        refine xw_icmp_ge 44 40 dX5_turnNow_37 rfl rfl (fun h37 => ?_) (fun h37 => absurd (nI_le (by omega) (by omega)) h37)
        refine xw_iload_n 45 dX5_turnNow_44 rfl rfl ?_
        refine xw_istore_n (ls' := [(1, _), (4, _), (3, _), (2, _), (0, _)]) 46 dX5_turnNow_45 rfl rfl rfl ?_
        refine xw_iload 48 dX5_turnNow_46 rfl rfl ?_
        refine xw_iload_n 49 dX5_turnNow_48 rfl rfl ?_
        refine xw_icmp_ge 57 52 dX5_turnNow_49 rfl rfl (fun h49 => ?_) (fun h49 => absurd (nI_le (by omega) (by omega)) h49)
        refine xw_iload_n 58 dX5_turnNow_57 rfl rfl ?_
        refine xw_istore_n (ls' := [(2, _), (1, _), (4, _), (3, _), (0, _)]) 59 dX5_turnNow_58 rfl rfl rfl ?_
        refine xw_iinc (ls' := [(3, _), (2, _), (1, _), (4, _), (0, _)]) 62 _ dX5_turnNow_59 rfl rfl (xnI_inc _) rfl rfl ?_
        refine xw_goto 9 dX5_turnNow_62 rfl ?_
        exact xW.pick [0, 1, 2, 4] rfl (ih)
  have hwr := S_M_wrongs (G := G) (x := x) (hp := (mH A z (nI s) hi (nI ln) tx th ot oR oC wa pR pC pM ps rr ha nu fe kc hs T)) (xA hA rfl) (xA hA rfl) I
  rw [zwb_now I] at hwr
  refine xw_iconst 1 (-1) dX5_turnNow_0 rfl rfl ?_
  refine xw_istore_n (ls' := [(1, _), (0, _)]) 2 dX5_turnNow_1 rfl rfl rfl ?_
  refine xw_aload_n 3 dX5_turnNow_2 rfl rfl rfl ?_
  refine xw_pV 6 dX5_turnNow_3 rfl ok_M_wrongs s_X5_188 (hwr) (mH_len) (xA hA rfl) rfl rfl rfl rfl rfl rfl rfl ?_
  refine xw_istore_n (ls' := [(2, _), (1, _), (0, _)]) 7 dX5_turnNow_6 rfl rfl rfl ?_
  refine xw_iconst 8 (nI 0) dX5_turnNow_7 rfl (xofI 0) ?_
  refine xw_istore_n (ls' := [(3, _), (2, _), (1, _), (0, _)]) 9 dX5_turnNow_8 rfl rfl rfl ?_
  exact xW.pick [0, 1, 2, 3] rfl (loop 5 0 ot oR oC kc (by omega))
theorem S_M_bestTurn (hA : A.length = 71) (I : xInv z) : xMet G M_bestTurn [.ref 71] (mH A z (nI s) hi (nI ln) tx th ot oR oC wa pR pC pM ps rr ha nu fe kc hs T) x 0 0 (xQm A T (0, zturnb z) (z, hi, s, ln, tx)) := by
  refine xw_aload_n 1 dX5_bestTurn_0 rfl rfl rfl ?_
  refine xw_iconst 2 (nI 0) dX5_bestTurn_1 rfl (xofI 0) ?_
  refine xw_put (hp' := (mH A z (nI s) hi (nI ln) tx (nI 0) ot oR oC wa pR pC pM ps rr ha nu fe kc hs T)) 5 dX5_bestTurn_2 rfl f_X5_40 (xA hA rfl) ⟨rfl, rfl⟩ rfl rfl (xAs hA rfl) ?_
  refine xw_aload_n 6 dX5_bestTurn_5 rfl rfl rfl ?_
  refine xw_qV 9 dX5_bestTurn_6 rfl ok_M_turnNow s_X5_231 (S_M_turnNow hA I) (fun E hp9 q9 => by cases q9.1) (fun o9 hp9 q9 => by obtain ⟨_, _, _, _, _, q9⟩ := q9; rw [q9]; exact mH_len) (xA hA rfl) rfl rfl rfl rfl rfl rfl rfl (fun ov9 hp9 q9 => ?_)
  obtain ⟨q1, ot', oR', oC', kc', rfl⟩ := q9
  cases q1
  exact xw_ireturn dX5_bestTurn_9 rfl (xQm_i (c := (ot', oR', oC', wa, pR, pC, pM, ps, rr, ha, nu, fe, kc', hs)) rfl)
theorem lt47 {q : Int32} : ¬ nI 47 < q ↔ ¬ nI 48 ≤ q := by
  rw [Int32.lt_iff_toInt_lt, Int32.le_iff_toInt_le, show (nI 47).toInt = 47 by decide, show (nI 48).toInt = 48 by decide]
  omega
theorem S_M_plan {p q : Int32} (hA : A.length = 71) (I : xInv z) : xMet G M_plan [.ref 71, .int p, .int q] (mH A z (nI s) hi (nI ln) tx th ot oR oC wa pR pC pM ps rr ha nu fe kc hs T) x 0 0 (xQm A T (rPlan z p q) (z, hi, s, ln, tx)) := by
  unfold rPlan
  by_cases g0 : xin p 1 240
  · have w0 : nI (if xbt p (nI 1) (nI 240) then 1 else 0) = nI 1 := bIf g0
    rw [if_pos g0]
    obtain ⟨a, a1, a2, rfl⟩ := xin_y (by decide) (by decide) g0
    rw [pN_k (by omega)]
    by_cases g1 : ¬ q < -1 ∧ ¬ nI 48 ≤ q
    · have w1 : nI (if xbt q (-1) (nI 47) then 1 else 0) = nI 1 := bIf ⟨g1.1, lt47.mpr g1.2⟩
      rw [if_pos g1]
      have hq := pO_is g1.1 g1.2
      have hsp := S_M_planNow (z := z) (hi := hi) (tx := tx) (th := (nI 0)) (ot := ot) (oR := oR) (oC := oC) (wa := wa) (pR := pR) (pC := pC) (pM := pM) (ps := ps) (rr := rr) (ha := ha) (nu := nu) (fe := fe) (kc := kc) (hs := hs) (s := s) (ln := ln) (A := A) (T := T) (G := G) (x := x) (N := a) (q := pO q) hA I a1 a2 hq.2
      rw [← hq.1] at hsp
      refine xw_aload_n 1 dX5_plan_0 rfl rfl rfl ?_
      refine xw_iload_n 2 dX5_plan_1 rfl rfl ?_
      refine xw_iconst 3 (nI 1) dX5_plan_2 rfl (xofI 1) ?_
      refine xw_sipush 6 (nI 240) dX5_plan_3 rfl (by decide) ?_
      refine xw_pS 9 dX5_plan_6 rfl ok_M_within s_X5_47 (S_M_within) (mH_len) rfl rfl rfl rfl rfl rfl ?_
      refine xw_if_eq 26 12 dX5_plan_9 rfl rfl (fun h9 => absurd h9 (by rw [w0]; decide)) (fun h9 => ?_)
      refine xw_iload_n 13 dX5_plan_12 rfl rfl ?_
      refine xw_iconst 14 (-1) dX5_plan_13 rfl rfl ?_
      refine xw_bipush 16 (nI 47) dX5_plan_14 rfl (by decide) ?_
      refine xw_pS 19 dX5_plan_16 rfl ok_M_within s_X5_47 (S_M_within) (mH_len) rfl rfl rfl rfl rfl rfl ?_
      refine xw_if_eq 26 22 dX5_plan_19 rfl rfl (fun h19 => absurd h19 (by rw [w1]; decide)) (fun h19 => ?_)
      refine xw_iconst 23 (nI 0) dX5_plan_22 rfl (xofI 0) ?_
      refine xw_goto 27 dX5_plan_23 rfl ?_
      refine xw_put (hp' := (mH A z (nI s) hi (nI ln) tx (nI 0) ot oR oC wa pR pC pM ps rr ha nu fe kc hs T)) 30 dX5_plan_27 rfl f_X5_40 (xA hA rfl) ⟨rfl, rfl⟩ rfl rfl (xAs hA rfl) ?_
      refine xw_aload_n 31 dX5_plan_30 rfl rfl rfl ?_
      refine xw_get 34 dX5_plan_31 rfl f_X5_40 (xA hA rfl) rfl ?_
      refine xw_if_le 41 37 dX5_plan_34 rfl rfl (fun h34 => ?_) (fun h34 => absurd (by decide) h34)
      refine xw_aload_n 42 dX5_plan_41 rfl rfl rfl ?_
      refine xw_iload_n 43 dX5_plan_42 rfl rfl ?_
      refine xw_iload_n 44 dX5_plan_43 rfl rfl ?_
      refine xw_pV 47 dX5_plan_44 rfl ok_M_planNow s_X5_216 (hsp) (mH_len) (xA hA rfl) rfl rfl rfl rfl rfl rfl rfl ?_
      exact xw_ireturn dX5_plan_47 rfl (xQm_i (c := (ot, oR, oC, wa, pR, pC, pM, ps, rr, ha, nu, (fun k => if 0 ≤ k ∧ k ≤ a then nI (zF (zI z 2) a (zhd z) k) else fe k), kc, hs)) rfl)
    · have w1 : nI (if xbt q (-1) (nI 47) then 1 else 0) = nI 0 := bIfn (fun w => g1 ⟨w.1, lt47.mp w.2⟩)
      rw [if_neg g1]
      refine xw_aload_n 1 dX5_plan_0 rfl rfl rfl ?_
      refine xw_iload_n 2 dX5_plan_1 rfl rfl ?_
      refine xw_iconst 3 (nI 1) dX5_plan_2 rfl (xofI 1) ?_
      refine xw_sipush 6 (nI 240) dX5_plan_3 rfl (by decide) ?_
      refine xw_pS 9 dX5_plan_6 rfl ok_M_within s_X5_47 (S_M_within) (mH_len) rfl rfl rfl rfl rfl rfl ?_
      refine xw_if_eq 26 12 dX5_plan_9 rfl rfl (fun h9 => absurd h9 (by rw [w0]; decide)) (fun h9 => ?_)
      refine xw_iload_n 13 dX5_plan_12 rfl rfl ?_
      refine xw_iconst 14 (-1) dX5_plan_13 rfl rfl ?_
      refine xw_bipush 16 (nI 47) dX5_plan_14 rfl (by decide) ?_
      refine xw_pS 19 dX5_plan_16 rfl ok_M_within s_X5_47 (S_M_within) (mH_len) rfl rfl rfl rfl rfl rfl ?_
      refine xw_if_eq 26 22 dX5_plan_19 rfl rfl (fun h19 => ?_) (fun h19 => absurd (w1) h19)
      refine xw_iconst 27 (nI 1) dX5_plan_26 rfl (xofI 1) ?_
      refine xw_put (hp' := (mH A z (nI s) hi (nI ln) tx (nI 1) ot oR oC wa pR pC pM ps rr ha nu fe kc hs T)) 30 dX5_plan_27 rfl f_X5_40 (xA hA rfl) ⟨rfl, rfl⟩ rfl rfl (xAs hA rfl) ?_
      refine xw_aload_n 31 dX5_plan_30 rfl rfl rfl ?_
      refine xw_get 34 dX5_plan_31 rfl f_X5_40 (xA hA rfl) rfl ?_
      refine xw_if_le 41 37 dX5_plan_34 rfl rfl (fun h34 => absurd h34 (by decide)) (fun h34 => ?_)
      refine xw_iconst 38 (nI 0) dX5_plan_37 rfl (xofI 0) ?_
      refine xw_goto 47 dX5_plan_38 rfl ?_
      exact xw_ireturn dX5_plan_47 rfl (⟨rfl, (ot, oR, oC, wa, pR, pC, pM, ps, rr, ha, nu, fe, kc, hs), rfl⟩)
  · have w0 : nI (if xbt p (nI 1) (nI 240) then 1 else 0) = nI 0 := bIfn g0
    rw [if_neg g0]
    refine xw_aload_n 1 dX5_plan_0 rfl rfl rfl ?_
    refine xw_iload_n 2 dX5_plan_1 rfl rfl ?_
    refine xw_iconst 3 (nI 1) dX5_plan_2 rfl (xofI 1) ?_
    refine xw_sipush 6 (nI 240) dX5_plan_3 rfl (by decide) ?_
    refine xw_pS 9 dX5_plan_6 rfl ok_M_within s_X5_47 (S_M_within) (mH_len) rfl rfl rfl rfl rfl rfl ?_
    refine xw_if_eq 26 12 dX5_plan_9 rfl rfl (fun h9 => ?_) (fun h9 => absurd (w0) h9)
    refine xw_iconst 27 (nI 1) dX5_plan_26 rfl (xofI 1) ?_
    refine xw_put (hp' := (mH A z (nI s) hi (nI ln) tx (nI 1) ot oR oC wa pR pC pM ps rr ha nu fe kc hs T)) 30 dX5_plan_27 rfl f_X5_40 (xA hA rfl) ⟨rfl, rfl⟩ rfl rfl (xAs hA rfl) ?_
    refine xw_aload_n 31 dX5_plan_30 rfl rfl rfl ?_
    refine xw_get 34 dX5_plan_31 rfl f_X5_40 (xA hA rfl) rfl ?_
    refine xw_if_le 41 37 dX5_plan_34 rfl rfl (fun h34 => absurd h34 (by decide)) (fun h34 => ?_)
    refine xw_iconst 38 (nI 0) dX5_plan_37 rfl (xofI 0) ?_
    refine xw_goto 47 dX5_plan_38 rfl ?_
    exact xw_ireturn dX5_plan_47 rfl (⟨rfl, (ot, oR, oC, wa, pR, pC, pM, ps, rr, ha, nu, fe, kc, hs), rfl⟩)
end P53

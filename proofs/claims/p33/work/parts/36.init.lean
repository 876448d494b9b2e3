/-! ===== what is made at the beginning ===== -/
section P55a
variable {G : xG} {Y : xM} {Qx : xO → List xE → Prop} {pc : Nat} {ls : List (Nat × Value)} {st : List Value} {hp : List xE} {x kc ks : Nat}
variable {L M : List xE} {p : Nat} {Y' : xM} {idx : Nat} {rest : List Value} {h1 : List xE} {k : Nat} {host : String}
theorem yA {j : Nat} {e : xE} (hL : L.length = p) (h : M[j]? = some e) : (L ++ M)[p + j]? = some e := by
  rw [List.getElem?_append_right (by omega), hL, Nat.add_sub_cancel_left]
  exact h
theorem yA0 {e : xE} (hL : L.length = p) : (L ++ e :: M)[p]? = some e := yA (j := 0) hL rfl
theorem yAs {M' : List xE} {j : Nat} {e : xE} (hL : L.length = p) (h : M.set j e = M') : (L ++ M).set (p + j) e = L ++ M' := by
  rw [List.set_append_right _ _ (by omega), hL, Nat.add_sub_cancel_left, h]
theorem yAs0 {e e' : xE} (hL : L.length = p) : (L ++ e :: M).set p e' = L ++ e' :: M := yAs (j := 0) hL rfl
theorem xw_newL (pc' j : Nat) (M' : List xE) {ci N idx kc0 ks0 : Nat} {fs : List Value} (hd : decode (xmB Y) pc = .ok (.new idx, 3)) (hn : pc + 3 = pc') (hF : xNewOk (xmN Y).cls idx ci N fs) (hfs : ∀ G' : xG, fs.map (xTr G') = fs) (hL : L.length = p) (hj : M.length = j) (hM : M ++ [.inr (ci, fs)] = M') (hkc : kc = kc0 + 1) (hks : ks = ks0 + N) (k9 : xW G Y Qx pc' ls (.ref (p + j) :: st) (L ++ M') 0 kc0 ks0) : xW G Y Qx pc ls st (L ++ M) 0 kc ks := by
  refine xw_new pc' hd hn hF hfs hkc hks ?_
  rw [List.length_append, hL, hj, List.append_assoc, hM]
  exact k9
theorem xw_newarrayL (pc' j : Nat) (M' : List xE) {kc0 ks0 N : Nat} {n : Int32} (hd : decode (xmB Y) pc = .ok (.newarray .int, 2)) (hn : pc + 2 = pc') (hnn : n = nI N) (hN : N ≤ 100000) (hL : L.length = p) (hj : M.length = j) (hM : M ++ [.inl (0, N, .inl (fun _ => 0))] = M') (hkc : kc = kc0 + 1) (hks : ks = ks0 + N) (k9 : xW G Y Qx pc' ls (.ref (p + j) :: st) (L ++ M') 0 kc0 ks0) : xW G Y Qx pc ls (.int n :: st) (L ++ M) 0 kc ks := by
  refine xw_newarray_int pc' hd hn hnn hN hkc hks ?_
  rw [List.length_append, hL, hj, List.append_assoc, hM]
  exact k9
theorem xw_anewarrayL (pc' j : Nat) (M' : List xE) {kc0 ks0 N idx : Nat} {n : Int32} (hd : decode (xmB Y) pc = .ok (.anewarray idx, 3)) (hn : pc + 3 = pc') (hw : Cond.classLink (xmN Y).cls idx RX3 ∈ lw_tbl) (hnn : n = nI N) (hN : N ≤ 100000) (hL : L.length = p) (hj : M.length = j) (hM : M ++ [.inl (1, N, .inr (.inr (.inr (.inr (fun _ => none)))))] = M') (hkc : kc = kc0 + 1) (hks : ks = ks0 + N) (k9 : xW G Y Qx pc' ls (.ref (p + j) :: st) (L ++ M') 0 kc0 ks0) : xW G Y Qx pc ls (.int n :: st) (L ++ M) 0 kc ks := by
  refine xw_anewarray pc' hd hn hw hnn hN hkc hks ?_
  rw [List.length_append, hL, hj, List.append_assoc, hM]
  exact k9
theorem xw_iIN (pc' : Nat) {kc' ks' kc0 ks0 : Nat} (hd : decode (xmB Y) pc = .ok (.invokespecial idx, 3)) (hpc : pc + 3 = pc') (hok : xMok Y' 0) (hr0 : xmR Y' = none) (hnm : (xmN Y').name = "<init>") (hw : Cond.methodLinkNest (xmN Y).cls idx (xmN Y') host ∈ lw_tbl ∧ Cond.instanceMethod (xmN Y') ∈ lw_tbl) (hM : xMet G Y' [.ref k] hp 0 kc' ks' (xRet none h1)) (hl : hp.length + kc' ≤ h1.length) (ha : Nat.ble 1 (xmL Y') = true) (hcat : Nat.ble (rest.map fun v => v.category).sum 8 = true) (hfr : Nat.ble (xmF Y' + 1) (xmF Y) = true) (hlo : Nat.ble (8 + (xmL Y' + 11) + xmW Y') (xmW Y) = true) (hkc : kc = kc' + kc0) (hks : ks = ks' + ks0) (k9 : xW G Y Qx pc' ls rest h1 0 kc0 ks0) : xW G Y Qx pc ls (.ref k :: rest) hp 0 kc ks := by
  subst hpc
  exact xw_callIN (ar := []) (x' := 0) hd hok hr0 hnm hw hM xRet_nt rfl ha rfl hcat hfr hlo hkc hks (fun o hp' h => by rw [h.2]; exact hl) (fun ov hp' h => by obtain ⟨q1, rfl⟩ := h; cases q1; exact k9)
theorem xw_iI (pc' : Nat) {kc' ks' kc0 ks0 : Nat} (hd : decode (xmB Y) pc = .ok (.invokespecial idx, 3)) (hpc : pc + 3 = pc') (hok : xMok Y' 0) (hr0 : xmR Y' = none) (hnm : (xmN Y').name = "<init>") (hw : Cond.methodLink (xmN Y).cls idx (xmN Y') ∈ lw_tbl ∧ Cond.instanceMethod (xmN Y') ∈ lw_tbl) (hM : xMet G Y' [.ref k] hp 0 kc' ks' (xRet none h1)) (hl : hp.length + kc' ≤ h1.length) (ha : Nat.ble 1 (xmL Y') = true) (hcat : Nat.ble (rest.map fun v => v.category).sum 8 = true) (hfr : Nat.ble (xmF Y' + 1) (xmF Y) = true) (hlo : Nat.ble (8 + (xmL Y' + 11) + xmW Y') (xmW Y) = true) (hkc : kc = kc' + kc0) (hks : ks = ks' + ks0) (k9 : xW G Y Qx pc' ls rest h1 0 kc0 ks0) : xW G Y Qx pc ls (.ref k :: rest) hp 0 kc ks := by
  subst hpc
  exact xw_callI (ar := []) (x' := 0) hd hok hr0 hnm hw hM xRet_nt rfl ha rfl hcat hfr hlo hkc hks (fun o hp' h => by rw [h.2]; exact hl) (fun ov hp' h => by obtain ⟨q1, rfl⟩ := h; cases q1; exact k9)
end P55a
/-- the state at the beginning -/
def zini : Nat → Int32 := upd (upd (upd (upd (upd (upd (fun _ => 0) 0 (nI 6)) 1 (nI 1)) 2 (nI 40)) 4 (nI 1)) 5 (nI 1)) 7 (nI 1)
theorem zini_0 {k : Nat} (h : 8 ≤ k) : zini k = 0 := by
  unfold zini
  rw [upd_ne (by omega), upd_ne (by omega), upd_ne (by omega), upd_ne (by omega), upd_ne (by omega), upd_ne (by omega)]
theorem xsl_ini {o n : Nat} (h : 8 ≤ o) : xsl zini o n = fun _ => 0 := by
  funext k
  unfold xsl
  by_cases q : k < n
  · rw [if_pos q, zini_0 (by omega)]
  · rw [if_neg q]
section P55
variable {G : xG} {L M : List xE} {p m : Nat}
theorem S_C_init (hL : L.length = p) : xMet G C_init [.ref p] (L ++ [.inr (0, [.null, .int 0, .int 0])]) 0 1 120 (xRet none (L ++ [.inr (0, [.ref (p + 1), .int (nI 1), .int (nI 1)]), .inl (0, 120, .inl (fun _ => 0))])) := by
  refine xw_aload_n 1 dX0_init_0 rfl rfl rfl ?_
  refine xw_objInit 4 dX0_init_1 rfl s_X0_3 rfl rfl rfl ?_
  refine xw_aload_n 5 dX0_init_4 rfl rfl rfl ?_
  refine xw_bipush 7 (nI 120) dX0_init_5 rfl (by decide) ?_
  refine xw_newarrayL 9 1 [.inr (0, [.null, .int 0, .int 0]), .inl (0, 120, .inl (fun _ => 0))] dX0_init_7 rfl (rfl) (by decide) (hL) rfl rfl rfl rfl ?_
  refine xw_putF (hp' := (L ++ [.inr (0, [.ref (p + 1), .int 0, .int 0]), .inl (0, 120, .inl (fun _ => 0))])) 12 dX0_init_9 rfl f_X0_9 rfl ff_X0_9 (yA0 hL) ⟨rfl, rfl⟩ rfl rfl (yAs0 hL) ?_
  refine xw_aload_n 13 dX0_init_12 rfl rfl rfl ?_
  refine xw_iconst 14 (nI 1) dX0_init_13 rfl (xofI 1) ?_
  refine xw_put (hp' := (L ++ [.inr (0, [.ref (p + 1), .int (nI 1), .int 0]), .inl (0, 120, .inl (fun _ => 0))])) 17 dX0_init_14 rfl f_X0_15 (yA0 hL) ⟨rfl, rfl⟩ rfl rfl (yAs0 hL) ?_
  refine xw_aload_n 18 dX0_init_17 rfl rfl rfl ?_
  refine xw_iconst 19 (nI 1) dX0_init_18 rfl (xofI 1) ?_
  refine xw_put (hp' := (L ++ [.inr (0, [.ref (p + 1), .int (nI 1), .int (nI 1)]), .inl (0, 120, .inl (fun _ => 0))])) 22 dX0_init_19 rfl f_X0_19 (yA0 hL) ⟨rfl, rfl⟩ rfl rfl (yAs0 hL) ?_
  exact xw_return dX0_init_22 rfl (⟨rfl, rfl⟩)
theorem S_C_init_M (hL : L.length = p) (hm : M.length = m) : xMet G C_init [.ref (p + m)] (L ++ (M ++ [.inr (0, [.null, .int 0, .int 0])])) 0 1 120 (xRet none (L ++ (M ++ [.inr (0, [.ref (p + m + 1), .int (nI 1), .int (nI 1)]), .inl (0, 120, .inl (fun _ => 0))]))) := by
  have h := S_C_init (G := G) (L := L ++ M) (p := p + m) (by rw [List.length_append, hL, hm])
  rw [List.append_assoc, List.append_assoc] at h
  exact h
theorem S_T_init (hL : L.length = p) : xMet G T_init [.ref p] (L ++ [.inr (2, [.null, .int 0])]) 0 1 60 (xRet none (L ++ [.inr (2, [.ref (p + 1), .int (nI 0)]), .inl (0, 60, .inl (fun _ => 0))])) := by
  refine xw_aload_n 1 dX2_init_0 rfl rfl rfl ?_
  refine xw_objInit 4 dX2_init_1 rfl s_X2_3 rfl rfl rfl ?_
  refine xw_aload_n 5 dX2_init_4 rfl rfl rfl ?_
  refine xw_bipush 7 (nI 60) dX2_init_5 rfl (by decide) ?_
  refine xw_newarrayL 9 1 [.inr (2, [.null, .int 0]), .inl (0, 60, .inl (fun _ => 0))] dX2_init_7 rfl (rfl) (by decide) (hL) rfl rfl rfl rfl ?_
  refine xw_putF (hp' := (L ++ [.inr (2, [.ref (p + 1), .int 0]), .inl (0, 60, .inl (fun _ => 0))])) 12 dX2_init_9 rfl f_X2_9 rfl ff_X2_9 (yA0 hL) ⟨rfl, rfl⟩ rfl rfl (yAs0 hL) ?_
  refine xw_aload_n 13 dX2_init_12 rfl rfl rfl ?_
  refine xw_iconst 14 (nI 0) dX2_init_13 rfl (xofI 0) ?_
  refine xw_put (hp' := (L ++ [.inr (2, [.ref (p + 1), .int (nI 0)]), .inl (0, 60, .inl (fun _ => 0))])) 17 dX2_init_14 rfl f_X2_15 (yA0 hL) ⟨rfl, rfl⟩ rfl rfl (yAs0 hL) ?_
  exact xw_return dX2_init_17 rfl (⟨rfl, rfl⟩)
theorem bWk_ini (S : xSta G) : bWk p zini [] = [.inr (3, [.ref (p + 1), .ref (p + 3), .ref (p + 4), .ref (p + 5), .ref (p + 6), .ref (p + 7), .ref (p + 8), .int (nI 0), .int (nI 1), .int (nI 0)]), .inr (0, [.ref (p + 1 + 1), .int (nI 1), .int (nI 1)]), .inl (0, 120, .inl (fun _ => 0)), .inl (0, 4, .inl (xmix (xgr G 1).2 (fun _ => 0) 4)), .inl (0, 6, .inl (fun _ => 0)), .inl (0, 6, .inl (fun _ => 0)), .inl (0, 6, .inl (fun _ => 0)), .inl (0, 240, .inl (fun _ => 0)), .inl (0, 48, .inl (fun _ => 0))] := by
  have e : xsl zini 0 4 = xmix (xgr G 1).2 (fun _ => 0) 4 := by
    obtain ⟨⟨-, e0, e1, e2, e3⟩, -⟩ := S
    funext k
    unfold xsl xmix
    by_cases q : k < 4
    · rw [if_pos q, if_pos q, Nat.zero_add]
      rcases (show k = 0 ∨ k = 1 ∨ k = 2 ∨ k = 3 by omega) with rfl | rfl | rfl | rfl
      · rw [e0]; rfl
      · rw [e1]; rfl
      · rw [e2]; rfl
      · rw [e3]; rfl
    · rw [if_neg q, if_neg q]
  unfold bWk
  rw [e, xsl_ini (o := 27) (by decide), xsl_ini (o := 9) (by decide), xsl_ini (o := 15) (by decide), xsl_ini (o := 21) (by decide), xsl_ini (o := 147) (by decide), xsl_ini (o := 387) (by decide)]
  rfl
theorem S_W_init (S : xSta G) (hL : L.length = p) : xMet G W_init [.ref p] (L ++ [.inr (3, [.null, .null, .null, .null, .null, .null, .null, .int 0, .int 0, .int 0])]) 0 8 433 (xRet none (L ++ bWk p zini [])) := by
  rw [bWk_ini S]
  refine xw_aload_n 1 dX3_init_0 rfl rfl rfl ?_
  refine xw_objInit 4 dX3_init_1 rfl s_X3_3 rfl rfl rfl ?_
  refine xw_aload_n 5 dX3_init_4 rfl rfl rfl ?_
  refine xw_newL 8 1 [.inr (3, [.null, .null, .null, .null, .null, .null, .null, .int 0, .int 0, .int 0]), .inr (0, [.null, .int 0, .int 0])] dX3_init_5 rfl n_X3_9 (fun _ => rfl) (hL) rfl rfl rfl rfl ?_
  refine xw_dup 9 dX3_init_8 rfl rfl ?_
  refine xw_iIN (kc0 := 6) (ks0 := 310) 12 dX3_init_9 rfl ok_C_init rfl rfl s_X3_11 (S_C_init_M (M := [.inr (3, [.null, .null, .null, .null, .null, .null, .null, .int 0, .int 0, .int 0])]) hL rfl) (by rw [List.length_append, List.length_append]; exact Nat.le_refl _) rfl rfl rfl rfl rfl rfl ?_
  refine xW.cast (hp' := (L ++ [.inr (3, [.null, .null, .null, .null, .null, .null, .null, .int 0, .int 0, .int 0]), .inr (0, [.ref (p + 1 + 1), .int (nI 1), .int (nI 1)]), .inl (0, 120, .inl (fun _ => 0))])) rfl rfl rfl ?_
  refine xw_putF (hp' := (L ++ [.inr (3, [.ref (p + 1), .null, .null, .null, .null, .null, .null, .int 0, .int 0, .int 0]), .inr (0, [.ref (p + 1 + 1), .int (nI 1), .int (nI 1)]), .inl (0, 120, .inl (fun _ => 0))])) 15 dX3_init_12 rfl f_X3_12 rfl ff_X3_12 (yA0 hL) ⟨rfl, rfl⟩ rfl rfl (yAs0 hL) ?_
  refine xw_aload_n 16 dX3_init_15 rfl rfl rfl ?_
  refine xw_iconst 17 (nI 4) dX3_init_16 rfl (xofI 4) ?_
  refine xw_newarrayL 19 3 [.inr (3, [.ref (p + 1), .null, .null, .null, .null, .null, .null, .int 0, .int 0, .int 0]), .inr (0, [.ref (p + 1 + 1), .int (nI 1), .int (nI 1)]), .inl (0, 120, .inl (fun _ => 0)), .inl (0, 4, .inl (fun _ => 0))] dX3_init_17 rfl (rfl) (by decide) (hL) rfl rfl rfl rfl ?_
  refine xw_putF (hp' := (L ++ [.inr (3, [.ref (p + 1), .ref (p + 3), .null, .null, .null, .null, .null, .int 0, .int 0, .int 0]), .inr (0, [.ref (p + 1 + 1), .int (nI 1), .int (nI 1)]), .inl (0, 120, .inl (fun _ => 0)), .inl (0, 4, .inl (fun _ => 0))])) 22 dX3_init_19 rfl f_X3_18 rfl ff_X3_18 (yA0 hL) ⟨rfl, rfl⟩ rfl rfl (yAs0 hL) ?_
  refine xw_getstatic 25 1 dX3_init_22 rfl (by decide) g_X3_22 ?_
  refine xw_aload_n 26 dX3_init_25 rfl rfl rfl ?_
  refine xw_get 29 dX3_init_26 rfl f_X3_18 (yA0 hL) rfl ?_
  refine xw_pSNv 32 dX3_init_29 rfl ok_B_copy s_X3_25 (S_B_copy_ro (n := 4) (g := (fun _ => 0)) (h1 := (L ++ [.inr (3, [.ref (p + 1), .ref (p + 3), .null, .null, .null, .null, .null, .int 0, .int 0, .int 0]), .inr (0, [.ref (p + 1 + 1), .int (nI 1), .int (nI 1)]), .inl (0, 120, .inl (fun _ => 0)), .inl (0, 4, .inl (xmix (xgr G 1).2 (fun _ => 0) 4))])) (by decide) S.1.1 (yA hL rfl) (by decide) (yAs hL rfl)) (by rw [List.length_append, List.length_append]; rfl) rfl rfl rfl rfl rfl rfl ?_
  refine xw_aload_n 33 dX3_init_32 rfl rfl rfl ?_
  refine xw_bipush 35 (nI 6) dX3_init_33 rfl (by decide) ?_
  refine xw_newarrayL 37 4 [.inr (3, [.ref (p + 1), .ref (p + 3), .null, .null, .null, .null, .null, .int 0, .int 0, .int 0]), .inr (0, [.ref (p + 1 + 1), .int (nI 1), .int (nI 1)]), .inl (0, 120, .inl (fun _ => 0)), .inl (0, 4, .inl (xmix (xgr G 1).2 (fun _ => 0) 4)), .inl (0, 6, .inl (fun _ => 0))] dX3_init_35 rfl (rfl) (by decide) (hL) rfl rfl rfl rfl ?_
  refine xw_putF (hp' := (L ++ [.inr (3, [.ref (p + 1), .ref (p + 3), .ref (p + 4), .null, .null, .null, .null, .int 0, .int 0, .int 0]), .inr (0, [.ref (p + 1 + 1), .int (nI 1), .int (nI 1)]), .inl (0, 120, .inl (fun _ => 0)), .inl (0, 4, .inl (xmix (xgr G 1).2 (fun _ => 0) 4)), .inl (0, 6, .inl (fun _ => 0))])) 40 dX3_init_37 rfl f_X3_29 rfl ff_X3_29 (yA0 hL) ⟨rfl, rfl⟩ rfl rfl (yAs0 hL) ?_
  refine xw_aload_n 41 dX3_init_40 rfl rfl rfl ?_
  refine xw_bipush 43 (nI 6) dX3_init_41 rfl (by decide) ?_
  refine xw_newarrayL 45 5 [.inr (3, [.ref (p + 1), .ref (p + 3), .ref (p + 4), .null, .null, .null, .null, .int 0, .int 0, .int 0]), .inr (0, [.ref (p + 1 + 1), .int (nI 1), .int (nI 1)]), .inl (0, 120, .inl (fun _ => 0)), .inl (0, 4, .inl (xmix (xgr G 1).2 (fun _ => 0) 4)), .inl (0, 6, .inl (fun _ => 0)), .inl (0, 6, .inl (fun _ => 0))] dX3_init_43 rfl (rfl) (by decide) (hL) rfl rfl rfl rfl ?_
  refine xw_putF (hp' := (L ++ [.inr (3, [.ref (p + 1), .ref (p + 3), .ref (p + 4), .ref (p + 5), .null, .null, .null, .int 0, .int 0, .int 0]), .inr (0, [.ref (p + 1 + 1), .int (nI 1), .int (nI 1)]), .inl (0, 120, .inl (fun _ => 0)), .inl (0, 4, .inl (xmix (xgr G 1).2 (fun _ => 0) 4)), .inl (0, 6, .inl (fun _ => 0)), .inl (0, 6, .inl (fun _ => 0))])) 48 dX3_init_45 rfl f_X3_32 rfl ff_X3_32 (yA0 hL) ⟨rfl, rfl⟩ rfl rfl (yAs0 hL) ?_
  refine xw_aload_n 49 dX3_init_48 rfl rfl rfl ?_
  refine xw_bipush 51 (nI 6) dX3_init_49 rfl (by decide) ?_
  refine xw_newarrayL 53 6 [.inr (3, [.ref (p + 1), .ref (p + 3), .ref (p + 4), .ref (p + 5), .null, .null, .null, .int 0, .int 0, .int 0]), .inr (0, [.ref (p + 1 + 1), .int (nI 1), .int (nI 1)]), .inl (0, 120, .inl (fun _ => 0)), .inl (0, 4, .inl (xmix (xgr G 1).2 (fun _ => 0) 4)), .inl (0, 6, .inl (fun _ => 0)), .inl (0, 6, .inl (fun _ => 0)), .inl (0, 6, .inl (fun _ => 0))] dX3_init_51 rfl (rfl) (by decide) (hL) rfl rfl rfl rfl ?_
  refine xw_putF (hp' := (L ++ [.inr (3, [.ref (p + 1), .ref (p + 3), .ref (p + 4), .ref (p + 5), .ref (p + 6), .null, .null, .int 0, .int 0, .int 0]), .inr (0, [.ref (p + 1 + 1), .int (nI 1), .int (nI 1)]), .inl (0, 120, .inl (fun _ => 0)), .inl (0, 4, .inl (xmix (xgr G 1).2 (fun _ => 0) 4)), .inl (0, 6, .inl (fun _ => 0)), .inl (0, 6, .inl (fun _ => 0)), .inl (0, 6, .inl (fun _ => 0))])) 56 dX3_init_53 rfl f_X3_35 rfl ff_X3_35 (yA0 hL) ⟨rfl, rfl⟩ rfl rfl (yAs0 hL) ?_
  refine xw_aload_n 57 dX3_init_56 rfl rfl rfl ?_
  refine xw_sipush 60 (nI 240) dX3_init_57 rfl (by decide) ?_
  refine xw_newarrayL 62 7 [.inr (3, [.ref (p + 1), .ref (p + 3), .ref (p + 4), .ref (p + 5), .ref (p + 6), .null, .null, .int 0, .int 0, .int 0]), .inr (0, [.ref (p + 1 + 1), .int (nI 1), .int (nI 1)]), .inl (0, 120, .inl (fun _ => 0)), .inl (0, 4, .inl (xmix (xgr G 1).2 (fun _ => 0) 4)), .inl (0, 6, .inl (fun _ => 0)), .inl (0, 6, .inl (fun _ => 0)), .inl (0, 6, .inl (fun _ => 0)), .inl (0, 240, .inl (fun _ => 0))] dX3_init_60 rfl (rfl) (by decide) (hL) rfl rfl rfl rfl ?_
  refine xw_putF (hp' := (L ++ [.inr (3, [.ref (p + 1), .ref (p + 3), .ref (p + 4), .ref (p + 5), .ref (p + 6), .ref (p + 7), .null, .int 0, .int 0, .int 0]), .inr (0, [.ref (p + 1 + 1), .int (nI 1), .int (nI 1)]), .inl (0, 120, .inl (fun _ => 0)), .inl (0, 4, .inl (xmix (xgr G 1).2 (fun _ => 0) 4)), .inl (0, 6, .inl (fun _ => 0)), .inl (0, 6, .inl (fun _ => 0)), .inl (0, 6, .inl (fun _ => 0)), .inl (0, 240, .inl (fun _ => 0))])) 65 dX3_init_62 rfl f_X3_38 rfl ff_X3_38 (yA0 hL) ⟨rfl, rfl⟩ rfl rfl (yAs0 hL) ?_
  refine xw_aload_n 66 dX3_init_65 rfl rfl rfl ?_
  refine xw_bipush 68 (nI 48) dX3_init_66 rfl (by decide) ?_
  refine xw_newarrayL 70 8 [.inr (3, [.ref (p + 1), .ref (p + 3), .ref (p + 4), .ref (p + 5), .ref (p + 6), .ref (p + 7), .null, .int 0, .int 0, .int 0]), .inr (0, [.ref (p + 1 + 1), .int (nI 1), .int (nI 1)]), .inl (0, 120, .inl (fun _ => 0)), .inl (0, 4, .inl (xmix (xgr G 1).2 (fun _ => 0) 4)), .inl (0, 6, .inl (fun _ => 0)), .inl (0, 6, .inl (fun _ => 0)), .inl (0, 6, .inl (fun _ => 0)), .inl (0, 240, .inl (fun _ => 0)), .inl (0, 48, .inl (fun _ => 0))] dX3_init_68 rfl (rfl) (by decide) (hL) rfl rfl rfl rfl ?_
  refine xw_putF (hp' := (L ++ [.inr (3, [.ref (p + 1), .ref (p + 3), .ref (p + 4), .ref (p + 5), .ref (p + 6), .ref (p + 7), .ref (p + 8), .int 0, .int 0, .int 0]), .inr (0, [.ref (p + 1 + 1), .int (nI 1), .int (nI 1)]), .inl (0, 120, .inl (fun _ => 0)), .inl (0, 4, .inl (xmix (xgr G 1).2 (fun _ => 0) 4)), .inl (0, 6, .inl (fun _ => 0)), .inl (0, 6, .inl (fun _ => 0)), .inl (0, 6, .inl (fun _ => 0)), .inl (0, 240, .inl (fun _ => 0)), .inl (0, 48, .inl (fun _ => 0))])) 73 dX3_init_70 rfl f_X3_41 rfl ff_X3_41 (yA0 hL) ⟨rfl, rfl⟩ rfl rfl (yAs0 hL) ?_
  refine xw_aload_n 74 dX3_init_73 rfl rfl rfl ?_
  refine xw_iconst 75 (nI 0) dX3_init_74 rfl (xofI 0) ?_
  refine xw_put (hp' := (L ++ [.inr (3, [.ref (p + 1), .ref (p + 3), .ref (p + 4), .ref (p + 5), .ref (p + 6), .ref (p + 7), .ref (p + 8), .int (nI 0), .int 0, .int 0]), .inr (0, [.ref (p + 1 + 1), .int (nI 1), .int (nI 1)]), .inl (0, 120, .inl (fun _ => 0)), .inl (0, 4, .inl (xmix (xgr G 1).2 (fun _ => 0) 4)), .inl (0, 6, .inl (fun _ => 0)), .inl (0, 6, .inl (fun _ => 0)), .inl (0, 6, .inl (fun _ => 0)), .inl (0, 240, .inl (fun _ => 0)), .inl (0, 48, .inl (fun _ => 0))])) 78 dX3_init_75 rfl f_X3_44 (yA0 hL) ⟨rfl, rfl⟩ rfl rfl (yAs0 hL) ?_
  refine xw_aload_n 79 dX3_init_78 rfl rfl rfl ?_
  refine xw_iconst 80 (nI 1) dX3_init_79 rfl (xofI 1) ?_
  refine xw_put (hp' := (L ++ [.inr (3, [.ref (p + 1), .ref (p + 3), .ref (p + 4), .ref (p + 5), .ref (p + 6), .ref (p + 7), .ref (p + 8), .int (nI 0), .int (nI 1), .int 0]), .inr (0, [.ref (p + 1 + 1), .int (nI 1), .int (nI 1)]), .inl (0, 120, .inl (fun _ => 0)), .inl (0, 4, .inl (xmix (xgr G 1).2 (fun _ => 0) 4)), .inl (0, 6, .inl (fun _ => 0)), .inl (0, 6, .inl (fun _ => 0)), .inl (0, 6, .inl (fun _ => 0)), .inl (0, 240, .inl (fun _ => 0)), .inl (0, 48, .inl (fun _ => 0))])) 83 dX3_init_80 rfl f_X3_48 (yA0 hL) ⟨rfl, rfl⟩ rfl rfl (yAs0 hL) ?_
  refine xw_aload_n 84 dX3_init_83 rfl rfl rfl ?_
  refine xw_iconst 85 (nI 0) dX3_init_84 rfl (xofI 0) ?_
  refine xw_put (hp' := (L ++ [.inr (3, [.ref (p + 1), .ref (p + 3), .ref (p + 4), .ref (p + 5), .ref (p + 6), .ref (p + 7), .ref (p + 8), .int (nI 0), .int (nI 1), .int (nI 0)]), .inr (0, [.ref (p + 1 + 1), .int (nI 1), .int (nI 1)]), .inl (0, 120, .inl (fun _ => 0)), .inl (0, 4, .inl (xmix (xgr G 1).2 (fun _ => 0) 4)), .inl (0, 6, .inl (fun _ => 0)), .inl (0, 6, .inl (fun _ => 0)), .inl (0, 6, .inl (fun _ => 0)), .inl (0, 240, .inl (fun _ => 0)), .inl (0, 48, .inl (fun _ => 0))])) 88 dX3_init_85 rfl f_X3_51 (yA0 hL) ⟨rfl, rfl⟩ rfl rfl (yAs0 hL) ?_
  exact xw_return dX3_init_88 rfl (⟨rfl, rfl⟩)
theorem S_W_init_M (S : xSta G) (hL : L.length = p) (hm : M.length = m) : xMet G W_init [.ref (p + m)] (L ++ (M ++ [.inr (3, [.null, .null, .null, .null, .null, .null, .null, .int 0, .int 0, .int 0])])) 0 8 433 (xRet none (L ++ (M ++ bWk (p + m) zini []))) := by
  have h := S_W_init (G := G) (L := L ++ M) (p := p + m) S (by rw [List.length_append, hL, hm])
  rw [List.append_assoc, List.append_assoc] at h
  exact h
theorem xSv_is : (va_up (va_up (va_up (va_up (va_up (va_up (fun _ => none) 0 (some 12)) 1 (some 21)) 2 (some 30)) 3 (some 39)) 4 (some 48)) 5 (some 57)) = xSv := by
  funext k
  unfold xSv va_up
  by_cases h : k < 6
  · rcases (show k = 0 ∨ k = 1 ∨ k = 2 ∨ k = 3 ∨ k = 4 ∨ k = 5 by omega) with rfl | rfl | rfl | rfl | rfl | rfl <;> rfl
  · rw [if_neg h, if_neg (by omega), if_neg (by omega), if_neg (by omega), if_neg (by omega), if_neg (by omega), if_neg (by omega)]
theorem S_H_init (S : xSta G) (hL : L.length = 10) : xMet G H_init [.ref 10] (L ++ [.inr (1, [.null, .int 0, .int 0])]) 0 55 2664 (xRet none (L ++ (.inr (1, [.ref 11, .int (nI 0), .int (nI 0)]) :: .inl (1, 6, .inr (.inr (.inr (.inr xSv)))) :: (bWk 12 zini (bWk 21 zini (bWk 30 zini (bWk 39 zini (bWk 48 zini (bWk 57 zini []))))))))) := by
  rw [← xSv_is]
  refine xw_aload_n 1 dX1_init_0 rfl rfl rfl ?_
  refine xw_objInit 4 dX1_init_1 rfl s_X1_3 rfl rfl rfl ?_
  refine xw_aload_n 5 dX1_init_4 rfl rfl rfl ?_
  refine xw_bipush 7 (nI 6) dX1_init_5 rfl (by decide) ?_
  refine xw_anewarrayL 10 1 [.inr (1, [.null, .int 0, .int 0]), .inl (1, 6, .inr (.inr (.inr (.inr (fun _ => none)))))] dX1_init_7 rfl c_X1_9 (rfl) (by decide) (hL) rfl rfl rfl rfl ?_
  refine xw_putF (hp' := (L ++ (.inr (1, [.ref 11, .int 0, .int 0]) :: .inl (1, 6, .inr (.inr (.inr (.inr (fun _ => none))))) :: []))) 13 dX1_init_10 rfl f_X1_11 rfl ff_X1_11 (yA0 hL) ⟨rfl, rfl⟩ rfl rfl (yAs0 hL) ?_
  refine xw_iconst 14 (nI 0) dX1_init_13 rfl (xofI 0) ?_
  refine xw_istore_n (ls' := [(1, _), (0, _)]) 15 dX1_init_14 rfl rfl rfl ?_
  refine xw_iload_n 16 dX1_init_15 rfl rfl ?_
  refine xw_aload_n 17 dX1_init_16 rfl rfl rfl ?_
  refine xw_get 20 dX1_init_17 rfl f_X1_11 (yA0 hL) rfl ?_
  refine xw_alen 21 dX1_init_20 rfl (by decide) (yA (p := 10) (j := 1) hL rfl) ?_
  refine xw_icmp_ge 43 24 dX1_init_21 rfl rfl (fun h21 => absurd h21 (by decide)) (fun h21 => ?_)
  refine xw_aload_n 25 dX1_init_24 rfl rfl rfl ?_
  refine xw_get 28 dX1_init_25 rfl f_X1_11 (yA0 hL) rfl ?_
  refine xw_iload_n 29 dX1_init_28 rfl rfl ?_
  refine xw_newL 32 2 (.inr (1, [.ref 11, .int 0, .int 0]) :: .inl (1, 6, .inr (.inr (.inr (.inr (fun _ => none))))) :: [.inr (3, [.null, .null, .null, .null, .null, .null, .null, .int 0, .int 0, .int 0])]) dX1_init_29 rfl n_X1_9 (fun _ => rfl) (hL) rfl rfl rfl rfl ?_
  refine xw_dup 33 dX1_init_32 rfl rfl ?_
  refine xw_iIN (kc0 := 45) (ks0 := 2215) 36 dX1_init_33 rfl ok_W_init rfl rfl s_X1_17 (S_W_init_M (M := (.inr (1, [.ref 11, .int 0, .int 0]) :: .inl (1, 6, .inr (.inr (.inr (.inr (fun _ => none))))) :: [])) (p := 10) (m := 2) S hL rfl) (by rw [List.length_append, List.length_append]; exact Nat.le_refl _) rfl rfl rfl rfl rfl rfl ?_
  refine xW.cast (hp' := (L ++ (.inr (1, [.ref 11, .int 0, .int 0]) :: .inl (1, 6, .inr (.inr (.inr (.inr (fun _ => none))))) :: (bWk 12 zini [])))) rfl rfl rfl ?_
  refine xw_aastore (j := 0) (hp' := (L ++ (.inr (1, [.ref 11, .int 0, .int 0]) :: .inl (1, 6, .inr (.inr (.inr (.inr (va_up (fun _ => none) 0 (some 12)))))) :: (bWk 12 zini [])))) 37 dX1_init_36 rfl (yA (p := 10) (j := 1) hL rfl) (yA (p := 10) (j := 2) hL rfl) (rfl) (by decide) (by omega) (yAs (p := 10) (j := 1) hL rfl) ?_
  refine xw_iinc (ls' := [(1, _), (0, _)]) 40 (nI 1) dX1_init_37 rfl rfl (by decide) rfl rfl ?_
  refine xw_goto 15 dX1_init_40 rfl ?_
  refine xw_iload_n 16 dX1_init_15 rfl rfl ?_
  refine xw_aload_n 17 dX1_init_16 rfl rfl rfl ?_
  refine xw_get 20 dX1_init_17 rfl f_X1_11 (yA0 hL) rfl ?_
  refine xw_alen 21 dX1_init_20 rfl (by decide) (yA (p := 10) (j := 1) hL rfl) ?_
  refine xw_icmp_ge 43 24 dX1_init_21 rfl rfl (fun h21 => absurd h21 (by decide)) (fun h21 => ?_)
  refine xw_aload_n 25 dX1_init_24 rfl rfl rfl ?_
  refine xw_get 28 dX1_init_25 rfl f_X1_11 (yA0 hL) rfl ?_
  refine xw_iload_n 29 dX1_init_28 rfl rfl ?_
  refine xw_newL 32 11 (.inr (1, [.ref 11, .int 0, .int 0]) :: .inl (1, 6, .inr (.inr (.inr (.inr (va_up (fun _ => none) 0 (some 12)))))) :: (bWk 12 zini [.inr (3, [.null, .null, .null, .null, .null, .null, .null, .int 0, .int 0, .int 0])])) dX1_init_29 rfl n_X1_9 (fun _ => rfl) (hL) rfl rfl rfl rfl ?_
  refine xw_dup 33 dX1_init_32 rfl rfl ?_
  refine xw_iIN (kc0 := 36) (ks0 := 1772) 36 dX1_init_33 rfl ok_W_init rfl rfl s_X1_17 (S_W_init_M (M := (.inr (1, [.ref 11, .int 0, .int 0]) :: .inl (1, 6, .inr (.inr (.inr (.inr (va_up (fun _ => none) 0 (some 12)))))) :: (bWk 12 zini []))) (p := 10) (m := 11) S hL rfl) (by rw [List.length_append, List.length_append]; exact Nat.le_refl _) rfl rfl rfl rfl rfl rfl ?_
  refine xW.cast (hp' := (L ++ (.inr (1, [.ref 11, .int 0, .int 0]) :: .inl (1, 6, .inr (.inr (.inr (.inr (va_up (fun _ => none) 0 (some 12)))))) :: (bWk 12 zini (bWk 21 zini []))))) rfl rfl rfl ?_
  refine xw_aastore (j := 1) (hp' := (L ++ (.inr (1, [.ref 11, .int 0, .int 0]) :: .inl (1, 6, .inr (.inr (.inr (.inr (va_up (va_up (fun _ => none) 0 (some 12)) 1 (some 21)))))) :: (bWk 12 zini (bWk 21 zini []))))) 37 dX1_init_36 rfl (yA (p := 10) (j := 1) hL rfl) (yA (p := 10) (j := 11) hL rfl) (rfl) (by decide) (by omega) (yAs (p := 10) (j := 1) hL rfl) ?_
  refine xw_iinc (ls' := [(1, _), (0, _)]) 40 (nI 2) dX1_init_37 rfl rfl (by decide) rfl rfl ?_
  refine xw_goto 15 dX1_init_40 rfl ?_
  refine xw_iload_n 16 dX1_init_15 rfl rfl ?_
  refine xw_aload_n 17 dX1_init_16 rfl rfl rfl ?_
  refine xw_get 20 dX1_init_17 rfl f_X1_11 (yA0 hL) rfl ?_
  refine xw_alen 21 dX1_init_20 rfl (by decide) (yA (p := 10) (j := 1) hL rfl) ?_
  refine xw_icmp_ge 43 24 dX1_init_21 rfl rfl (fun h21 => absurd h21 (by decide)) (fun h21 => ?_)
  refine xw_aload_n 25 dX1_init_24 rfl rfl rfl ?_
  refine xw_get 28 dX1_init_25 rfl f_X1_11 (yA0 hL) rfl ?_
  refine xw_iload_n 29 dX1_init_28 rfl rfl ?_
  refine xw_newL 32 20 (.inr (1, [.ref 11, .int 0, .int 0]) :: .inl (1, 6, .inr (.inr (.inr (.inr (va_up (va_up (fun _ => none) 0 (some 12)) 1 (some 21)))))) :: (bWk 12 zini (bWk 21 zini [.inr (3, [.null, .null, .null, .null, .null, .null, .null, .int 0, .int 0, .int 0])]))) dX1_init_29 rfl n_X1_9 (fun _ => rfl) (hL) rfl rfl rfl rfl ?_
  refine xw_dup 33 dX1_init_32 rfl rfl ?_
  refine xw_iIN (kc0 := 27) (ks0 := 1329) 36 dX1_init_33 rfl ok_W_init rfl rfl s_X1_17 (S_W_init_M (M := (.inr (1, [.ref 11, .int 0, .int 0]) :: .inl (1, 6, .inr (.inr (.inr (.inr (va_up (va_up (fun _ => none) 0 (some 12)) 1 (some 21)))))) :: (bWk 12 zini (bWk 21 zini [])))) (p := 10) (m := 20) S hL rfl) (by rw [List.length_append, List.length_append]; exact Nat.le_refl _) rfl rfl rfl rfl rfl rfl ?_
  refine xW.cast (hp' := (L ++ (.inr (1, [.ref 11, .int 0, .int 0]) :: .inl (1, 6, .inr (.inr (.inr (.inr (va_up (va_up (fun _ => none) 0 (some 12)) 1 (some 21)))))) :: (bWk 12 zini (bWk 21 zini (bWk 30 zini [])))))) rfl rfl rfl ?_
  refine xw_aastore (j := 2) (hp' := (L ++ (.inr (1, [.ref 11, .int 0, .int 0]) :: .inl (1, 6, .inr (.inr (.inr (.inr (va_up (va_up (va_up (fun _ => none) 0 (some 12)) 1 (some 21)) 2 (some 30)))))) :: (bWk 12 zini (bWk 21 zini (bWk 30 zini [])))))) 37 dX1_init_36 rfl (yA (p := 10) (j := 1) hL rfl) (yA (p := 10) (j := 20) hL rfl) (rfl) (by decide) (by omega) (yAs (p := 10) (j := 1) hL rfl) ?_
  refine xw_iinc (ls' := [(1, _), (0, _)]) 40 (nI 3) dX1_init_37 rfl rfl (by decide) rfl rfl ?_
  refine xw_goto 15 dX1_init_40 rfl ?_
  refine xw_iload_n 16 dX1_init_15 rfl rfl ?_
  refine xw_aload_n 17 dX1_init_16 rfl rfl rfl ?_
  refine xw_get 20 dX1_init_17 rfl f_X1_11 (yA0 hL) rfl ?_
  refine xw_alen 21 dX1_init_20 rfl (by decide) (yA (p := 10) (j := 1) hL rfl) ?_
  refine xw_icmp_ge 43 24 dX1_init_21 rfl rfl (fun h21 => absurd h21 (by decide)) (fun h21 => ?_)
  refine xw_aload_n 25 dX1_init_24 rfl rfl rfl ?_
  refine xw_get 28 dX1_init_25 rfl f_X1_11 (yA0 hL) rfl ?_
  refine xw_iload_n 29 dX1_init_28 rfl rfl ?_
  refine xw_newL 32 29 (.inr (1, [.ref 11, .int 0, .int 0]) :: .inl (1, 6, .inr (.inr (.inr (.inr (va_up (va_up (va_up (fun _ => none) 0 (some 12)) 1 (some 21)) 2 (some 30)))))) :: (bWk 12 zini (bWk 21 zini (bWk 30 zini [.inr (3, [.null, .null, .null, .null, .null, .null, .null, .int 0, .int 0, .int 0])])))) dX1_init_29 rfl n_X1_9 (fun _ => rfl) (hL) rfl rfl rfl rfl ?_
  refine xw_dup 33 dX1_init_32 rfl rfl ?_
  refine xw_iIN (kc0 := 18) (ks0 := 886) 36 dX1_init_33 rfl ok_W_init rfl rfl s_X1_17 (S_W_init_M (M := (.inr (1, [.ref 11, .int 0, .int 0]) :: .inl (1, 6, .inr (.inr (.inr (.inr (va_up (va_up (va_up (fun _ => none) 0 (some 12)) 1 (some 21)) 2 (some 30)))))) :: (bWk 12 zini (bWk 21 zini (bWk 30 zini []))))) (p := 10) (m := 29) S hL rfl) (by rw [List.length_append, List.length_append]; exact Nat.le_refl _) rfl rfl rfl rfl rfl rfl ?_
  refine xW.cast (hp' := (L ++ (.inr (1, [.ref 11, .int 0, .int 0]) :: .inl (1, 6, .inr (.inr (.inr (.inr (va_up (va_up (va_up (fun _ => none) 0 (some 12)) 1 (some 21)) 2 (some 30)))))) :: (bWk 12 zini (bWk 21 zini (bWk 30 zini (bWk 39 zini []))))))) rfl rfl rfl ?_
  refine xw_aastore (j := 3) (hp' := (L ++ (.inr (1, [.ref 11, .int 0, .int 0]) :: .inl (1, 6, .inr (.inr (.inr (.inr (va_up (va_up (va_up (va_up (fun _ => none) 0 (some 12)) 1 (some 21)) 2 (some 30)) 3 (some 39)))))) :: (bWk 12 zini (bWk 21 zini (bWk 30 zini (bWk 39 zini []))))))) 37 dX1_init_36 rfl (yA (p := 10) (j := 1) hL rfl) (yA (p := 10) (j := 29) hL rfl) (rfl) (by decide) (by omega) (yAs (p := 10) (j := 1) hL rfl) ?_
  refine xw_iinc (ls' := [(1, _), (0, _)]) 40 (nI 4) dX1_init_37 rfl rfl (by decide) rfl rfl ?_
  refine xw_goto 15 dX1_init_40 rfl ?_
  refine xw_iload_n 16 dX1_init_15 rfl rfl ?_
  refine xw_aload_n 17 dX1_init_16 rfl rfl rfl ?_
  refine xw_get 20 dX1_init_17 rfl f_X1_11 (yA0 hL) rfl ?_
  refine xw_alen 21 dX1_init_20 rfl (by decide) (yA (p := 10) (j := 1) hL rfl) ?_
  refine xw_icmp_ge 43 24 dX1_init_21 rfl rfl (fun h21 => absurd h21 (by decide)) (fun h21 => ?_)
  refine xw_aload_n 25 dX1_init_24 rfl rfl rfl ?_
  refine xw_get 28 dX1_init_25 rfl f_X1_11 (yA0 hL) rfl ?_
  refine xw_iload_n 29 dX1_init_28 rfl rfl ?_
  refine xw_newL 32 38 (.inr (1, [.ref 11, .int 0, .int 0]) :: .inl (1, 6, .inr (.inr (.inr (.inr (va_up (va_up (va_up (va_up (fun _ => none) 0 (some 12)) 1 (some 21)) 2 (some 30)) 3 (some 39)))))) :: (bWk 12 zini (bWk 21 zini (bWk 30 zini (bWk 39 zini [.inr (3, [.null, .null, .null, .null, .null, .null, .null, .int 0, .int 0, .int 0])]))))) dX1_init_29 rfl n_X1_9 (fun _ => rfl) (hL) rfl rfl rfl rfl ?_
  refine xw_dup 33 dX1_init_32 rfl rfl ?_
  refine xw_iIN (kc0 := 9) (ks0 := 443) 36 dX1_init_33 rfl ok_W_init rfl rfl s_X1_17 (S_W_init_M (M := (.inr (1, [.ref 11, .int 0, .int 0]) :: .inl (1, 6, .inr (.inr (.inr (.inr (va_up (va_up (va_up (va_up (fun _ => none) 0 (some 12)) 1 (some 21)) 2 (some 30)) 3 (some 39)))))) :: (bWk 12 zini (bWk 21 zini (bWk 30 zini (bWk 39 zini [])))))) (p := 10) (m := 38) S hL rfl) (by rw [List.length_append, List.length_append]; exact Nat.le_refl _) rfl rfl rfl rfl rfl rfl ?_
  refine xW.cast (hp' := (L ++ (.inr (1, [.ref 11, .int 0, .int 0]) :: .inl (1, 6, .inr (.inr (.inr (.inr (va_up (va_up (va_up (va_up (fun _ => none) 0 (some 12)) 1 (some 21)) 2 (some 30)) 3 (some 39)))))) :: (bWk 12 zini (bWk 21 zini (bWk 30 zini (bWk 39 zini (bWk 48 zini [])))))))) rfl rfl rfl ?_
  refine xw_aastore (j := 4) (hp' := (L ++ (.inr (1, [.ref 11, .int 0, .int 0]) :: .inl (1, 6, .inr (.inr (.inr (.inr (va_up (va_up (va_up (va_up (va_up (fun _ => none) 0 (some 12)) 1 (some 21)) 2 (some 30)) 3 (some 39)) 4 (some 48)))))) :: (bWk 12 zini (bWk 21 zini (bWk 30 zini (bWk 39 zini (bWk 48 zini [])))))))) 37 dX1_init_36 rfl (yA (p := 10) (j := 1) hL rfl) (yA (p := 10) (j := 38) hL rfl) (rfl) (by decide) (by omega) (yAs (p := 10) (j := 1) hL rfl) ?_
  refine xw_iinc (ls' := [(1, _), (0, _)]) 40 (nI 5) dX1_init_37 rfl rfl (by decide) rfl rfl ?_
  refine xw_goto 15 dX1_init_40 rfl ?_
  refine xw_iload_n 16 dX1_init_15 rfl rfl ?_
  refine xw_aload_n 17 dX1_init_16 rfl rfl rfl ?_
  refine xw_get 20 dX1_init_17 rfl f_X1_11 (yA0 hL) rfl ?_
  refine xw_alen 21 dX1_init_20 rfl (by decide) (yA (p := 10) (j := 1) hL rfl) ?_
  refine xw_icmp_ge 43 24 dX1_init_21 rfl rfl (fun h21 => absurd h21 (by decide)) (fun h21 => ?_)
  refine xw_aload_n 25 dX1_init_24 rfl rfl rfl ?_
  refine xw_get 28 dX1_init_25 rfl f_X1_11 (yA0 hL) rfl ?_
  refine xw_iload_n 29 dX1_init_28 rfl rfl ?_
  refine xw_newL 32 47 (.inr (1, [.ref 11, .int 0, .int 0]) :: .inl (1, 6, .inr (.inr (.inr (.inr (va_up (va_up (va_up (va_up (va_up (fun _ => none) 0 (some 12)) 1 (some 21)) 2 (some 30)) 3 (some 39)) 4 (some 48)))))) :: (bWk 12 zini (bWk 21 zini (bWk 30 zini (bWk 39 zini (bWk 48 zini [.inr (3, [.null, .null, .null, .null, .null, .null, .null, .int 0, .int 0, .int 0])])))))) dX1_init_29 rfl n_X1_9 (fun _ => rfl) (hL) rfl rfl rfl rfl ?_
  refine xw_dup 33 dX1_init_32 rfl rfl ?_
  refine xw_iIN (kc0 := 0) (ks0 := 0) 36 dX1_init_33 rfl ok_W_init rfl rfl s_X1_17 (S_W_init_M (M := (.inr (1, [.ref 11, .int 0, .int 0]) :: .inl (1, 6, .inr (.inr (.inr (.inr (va_up (va_up (va_up (va_up (va_up (fun _ => none) 0 (some 12)) 1 (some 21)) 2 (some 30)) 3 (some 39)) 4 (some 48)))))) :: (bWk 12 zini (bWk 21 zini (bWk 30 zini (bWk 39 zini (bWk 48 zini []))))))) (p := 10) (m := 47) S hL rfl) (by rw [List.length_append, List.length_append]; exact Nat.le_refl _) rfl rfl rfl rfl rfl rfl ?_
  refine xW.cast (hp' := (L ++ (.inr (1, [.ref 11, .int 0, .int 0]) :: .inl (1, 6, .inr (.inr (.inr (.inr (va_up (va_up (va_up (va_up (va_up (fun _ => none) 0 (some 12)) 1 (some 21)) 2 (some 30)) 3 (some 39)) 4 (some 48)))))) :: (bWk 12 zini (bWk 21 zini (bWk 30 zini (bWk 39 zini (bWk 48 zini (bWk 57 zini []))))))))) rfl rfl rfl ?_
  refine xw_aastore (j := 5) (hp' := (L ++ (.inr (1, [.ref 11, .int 0, .int 0]) :: .inl (1, 6, .inr (.inr (.inr (.inr (va_up (va_up (va_up (va_up (va_up (va_up (fun _ => none) 0 (some 12)) 1 (some 21)) 2 (some 30)) 3 (some 39)) 4 (some 48)) 5 (some 57)))))) :: (bWk 12 zini (bWk 21 zini (bWk 30 zini (bWk 39 zini (bWk 48 zini (bWk 57 zini []))))))))) 37 dX1_init_36 rfl (yA (p := 10) (j := 1) hL rfl) (yA (p := 10) (j := 47) hL rfl) (rfl) (by decide) (by omega) (yAs (p := 10) (j := 1) hL rfl) ?_
  refine xw_iinc (ls' := [(1, _), (0, _)]) 40 (nI 6) dX1_init_37 rfl rfl (by decide) rfl rfl ?_
  refine xw_goto 15 dX1_init_40 rfl ?_
  refine xw_iload_n 16 dX1_init_15 rfl rfl ?_
  refine xw_aload_n 17 dX1_init_16 rfl rfl rfl ?_
  refine xw_get 20 dX1_init_17 rfl f_X1_11 (yA0 hL) rfl ?_
  refine xw_alen 21 dX1_init_20 rfl (by decide) (yA (p := 10) (j := 1) hL rfl) ?_
  refine xw_icmp_ge 43 24 dX1_init_21 rfl rfl (fun h21 => ?_) (fun h21 => absurd (by decide) h21)
  refine xw_aload_n 44 dX1_init_43 rfl rfl rfl ?_
  refine xw_iconst 45 (nI 0) dX1_init_44 rfl (xofI 0) ?_
  refine xw_put (hp' := (L ++ (.inr (1, [.ref 11, .int (nI 0), .int 0]) :: .inl (1, 6, .inr (.inr (.inr (.inr (va_up (va_up (va_up (va_up (va_up (va_up (fun _ => none) 0 (some 12)) 1 (some 21)) 2 (some 30)) 3 (some 39)) 4 (some 48)) 5 (some 57)))))) :: (bWk 12 zini (bWk 21 zini (bWk 30 zini (bWk 39 zini (bWk 48 zini (bWk 57 zini []))))))))) 48 dX1_init_45 rfl f_X1_18 (yA0 hL) ⟨rfl, rfl⟩ rfl rfl (yAs0 hL) ?_
  refine xw_aload_n 49 dX1_init_48 rfl rfl rfl ?_
  refine xw_iconst 50 (nI 0) dX1_init_49 rfl (xofI 0) ?_
  refine xw_put (hp' := (L ++ (.inr (1, [.ref 11, .int (nI 0), .int (nI 0)]) :: .inl (1, 6, .inr (.inr (.inr (.inr (va_up (va_up (va_up (va_up (va_up (va_up (fun _ => none) 0 (some 12)) 1 (some 21)) 2 (some 30)) 3 (some 39)) 4 (some 48)) 5 (some 57)))))) :: (bWk 12 zini (bWk 21 zini (bWk 30 zini (bWk 39 zini (bWk 48 zini (bWk 57 zini []))))))))) 53 dX1_init_50 rfl f_X1_22 (yA0 hL) ⟨rfl, rfl⟩ rfl rfl (yAs0 hL) ?_
  exact xw_return dX1_init_53 rfl (⟨rfl, rfl⟩)
/-- the class's things at the beginning -/
abbrev bHp0 (T : List xE) : List xE := bHp zini (fun _ => zini) (nI 0) (nI 0) (nI 0) (fun _ => 0) (nI 1, nI 1, (fun _ => 0), (fun _ => 0)) T
theorem S_B_init (S : xSta G) : xMet G B_init [.ref 0] ([] ++ [.inr (4, [.null, .null, .null, .null, .null])]) 0 70 3535 (xRet none (bHp0 [])) := by
  refine xw_aload_n 1 dX4_init_0 rfl rfl rfl ?_
  refine xw_objInit 4 dX4_init_1 rfl s_X4_1 rfl rfl rfl ?_
  refine xw_aload_n 5 dX4_init_4 rfl rfl rfl ?_
  refine xw_newL 8 1 [.inr (4, [.null, .null, .null, .null, .null]), .inr (3, [.null, .null, .null, .null, .null, .null, .null, .int 0, .int 0, .int 0])] dX4_init_5 rfl n_X4_7 (fun _ => rfl) ((rfl : ([] : List xE).length = 0)) rfl rfl rfl rfl ?_
  refine xw_dup 9 dX4_init_8 rfl rfl ?_
  refine xw_iIN (kc0 := 61) (ks0 := 3092) 12 dX4_init_9 rfl ok_W_init rfl rfl s_X4_9 (S_W_init (L := [.inr (4, [.null, .null, .null, .null, .null])]) (p := 1) S rfl) (by decide) rfl rfl rfl rfl rfl rfl ?_
  refine xW.cast (hp' := ([] ++ (.inr (4, [.null, .null, .null, .null, .null]) :: bWk 1 zini []))) rfl rfl rfl ?_
  refine xw_putF (hp' := ([] ++ (.inr (4, [.ref 1, .null, .null, .null, .null]) :: bWk 1 zini []))) 15 dX4_init_12 rfl f_X4_10 rfl ff_X4_10 (rfl) ⟨rfl, rfl⟩ rfl rfl (rfl) ?_
  refine xw_aload_n 16 dX4_init_15 rfl rfl rfl ?_
  refine xw_newL 19 10 (.inr (4, [.ref 1, .null, .null, .null, .null]) :: bWk 1 zini [.inr (1, [.null, .int 0, .int 0])]) dX4_init_16 rfl n_X4_16 (fun _ => rfl) ((rfl : ([] : List xE).length = 0)) rfl rfl rfl rfl ?_
  refine xw_dup 20 dX4_init_19 rfl rfl ?_
  refine xw_iIN (kc0 := 5) (ks0 := 425) 23 dX4_init_20 rfl ok_H_init rfl rfl s_X4_18 (S_H_init (L := (.inr (4, [.ref 1, .null, .null, .null, .null]) :: bWk 1 zini [])) S rfl) (by decide) rfl rfl rfl rfl rfl rfl ?_
  refine xW.cast (hp' := ([] ++ (.inr (4, [.ref 1, .null, .null, .null, .null]) :: bWk 1 zini (.inr (1, [.ref 11, .int (nI 0), .int (nI 0)]) :: .inl (1, 6, .inr (.inr (.inr (.inr xSv)))) :: (bWk 12 zini (bWk 21 zini (bWk 30 zini (bWk 39 zini (bWk 48 zini (bWk 57 zini [])))))))))) rfl rfl rfl ?_
  refine xw_putF (hp' := ([] ++ (.inr (4, [.ref 1, .ref 10, .null, .null, .null]) :: bWk 1 zini (.inr (1, [.ref 11, .int (nI 0), .int (nI 0)]) :: .inl (1, 6, .inr (.inr (.inr (.inr xSv)))) :: (bWk 12 zini (bWk 21 zini (bWk 30 zini (bWk 39 zini (bWk 48 zini (bWk 57 zini [])))))))))) 26 dX4_init_23 rfl f_X4_19 rfl ff_X4_19 (rfl) ⟨rfl, rfl⟩ rfl rfl (rfl) ?_
  refine xw_aload_n 27 dX4_init_26 rfl rfl rfl ?_
  refine xw_newL 30 66 (.inr (4, [.ref 1, .ref 10, .null, .null, .null]) :: bWk 1 zini (.inr (1, [.ref 11, .int (nI 0), .int (nI 0)]) :: .inl (1, 6, .inr (.inr (.inr (.inr xSv)))) :: (bWk 12 zini (bWk 21 zini (bWk 30 zini (bWk 39 zini (bWk 48 zini (bWk 57 zini [.inr (2, [.null, .int 0])])))))))) dX4_init_27 rfl n_X4_23 (fun _ => rfl) ((rfl : ([] : List xE).length = 0)) rfl rfl rfl rfl ?_
  refine xw_dup 31 dX4_init_30 rfl rfl ?_
  refine xw_iIN (kc0 := 3) (ks0 := 363) 34 dX4_init_31 rfl ok_T_init rfl rfl s_X4_25 (S_T_init (L := (.inr (4, [.ref 1, .ref 10, .null, .null, .null]) :: bWk 1 zini (.inr (1, [.ref 11, .int (nI 0), .int (nI 0)]) :: .inl (1, 6, .inr (.inr (.inr (.inr xSv)))) :: (bWk 12 zini (bWk 21 zini (bWk 30 zini (bWk 39 zini (bWk 48 zini (bWk 57 zini []))))))))) (p := 66) rfl) (by decide) rfl rfl rfl rfl rfl rfl ?_
  refine xW.cast (hp' := ([] ++ (.inr (4, [.ref 1, .ref 10, .null, .null, .null]) :: bWk 1 zini (.inr (1, [.ref 11, .int (nI 0), .int (nI 0)]) :: .inl (1, 6, .inr (.inr (.inr (.inr xSv)))) :: (bWk 12 zini (bWk 21 zini (bWk 30 zini (bWk 39 zini (bWk 48 zini (bWk 57 zini [.inr (2, [.ref 67, .int (nI 0)]), .inl (0, 60, .inl (fun _ => 0))])))))))))) rfl rfl rfl ?_
  refine xw_putF (hp' := ([] ++ (.inr (4, [.ref 1, .ref 10, .ref 66, .null, .null]) :: bWk 1 zini (.inr (1, [.ref 11, .int (nI 0), .int (nI 0)]) :: .inl (1, 6, .inr (.inr (.inr (.inr xSv)))) :: (bWk 12 zini (bWk 21 zini (bWk 30 zini (bWk 39 zini (bWk 48 zini (bWk 57 zini [.inr (2, [.ref 67, .int (nI 0)]), .inl (0, 60, .inl (fun _ => 0))])))))))))) 37 dX4_init_34 rfl f_X4_26 rfl ff_X4_26 (rfl) ⟨rfl, rfl⟩ rfl rfl (rfl) ?_
  refine xw_aload_n 38 dX4_init_37 rfl rfl rfl ?_
  refine xw_newL 41 68 (.inr (4, [.ref 1, .ref 10, .ref 66, .null, .null]) :: bWk 1 zini (.inr (1, [.ref 11, .int (nI 0), .int (nI 0)]) :: .inl (1, 6, .inr (.inr (.inr (.inr xSv)))) :: (bWk 12 zini (bWk 21 zini (bWk 30 zini (bWk 39 zini (bWk 48 zini (bWk 57 zini [.inr (2, [.ref 67, .int (nI 0)]), .inl (0, 60, .inl (fun _ => 0)), .inr (0, [.null, .int 0, .int 0])])))))))) dX4_init_38 rfl n_X4_30 (fun _ => rfl) ((rfl : ([] : List xE).length = 0)) rfl rfl rfl rfl ?_
  refine xw_dup 42 dX4_init_41 rfl rfl ?_
  refine xw_iIN (kc0 := 1) (ks0 := 240) 45 dX4_init_42 rfl ok_C_init rfl rfl s_X4_32 (S_C_init (L := (.inr (4, [.ref 1, .ref 10, .ref 66, .null, .null]) :: bWk 1 zini (.inr (1, [.ref 11, .int (nI 0), .int (nI 0)]) :: .inl (1, 6, .inr (.inr (.inr (.inr xSv)))) :: (bWk 12 zini (bWk 21 zini (bWk 30 zini (bWk 39 zini (bWk 48 zini (bWk 57 zini [.inr (2, [.ref 67, .int (nI 0)]), .inl (0, 60, .inl (fun _ => 0))]))))))))) (p := 68) rfl) (by decide) rfl rfl rfl rfl rfl rfl ?_
  refine xW.cast (hp' := ([] ++ (.inr (4, [.ref 1, .ref 10, .ref 66, .null, .null]) :: bWk 1 zini (.inr (1, [.ref 11, .int (nI 0), .int (nI 0)]) :: .inl (1, 6, .inr (.inr (.inr (.inr xSv)))) :: (bWk 12 zini (bWk 21 zini (bWk 30 zini (bWk 39 zini (bWk 48 zini (bWk 57 zini [.inr (2, [.ref 67, .int (nI 0)]), .inl (0, 60, .inl (fun _ => 0)), .inr (0, [.ref 69, .int (nI 1), .int (nI 1)]), .inl (0, 120, .inl (fun _ => 0))])))))))))) rfl rfl rfl ?_
  refine xw_putF (hp' := ([] ++ (.inr (4, [.ref 1, .ref 10, .ref 66, .ref 68, .null]) :: bWk 1 zini (.inr (1, [.ref 11, .int (nI 0), .int (nI 0)]) :: .inl (1, 6, .inr (.inr (.inr (.inr xSv)))) :: (bWk 12 zini (bWk 21 zini (bWk 30 zini (bWk 39 zini (bWk 48 zini (bWk 57 zini [.inr (2, [.ref 67, .int (nI 0)]), .inl (0, 60, .inl (fun _ => 0)), .inr (0, [.ref 69, .int (nI 1), .int (nI 1)]), .inl (0, 120, .inl (fun _ => 0))])))))))))) 48 dX4_init_45 rfl f_X4_33 rfl ff_X4_33 (rfl) ⟨rfl, rfl⟩ rfl rfl (rfl) ?_
  refine xw_aload_n 49 dX4_init_48 rfl rfl rfl ?_
  refine xw_sipush 52 (nI 240) dX4_init_49 rfl (by decide) ?_
  refine xw_newarrayL 54 70 (.inr (4, [.ref 1, .ref 10, .ref 66, .ref 68, .null]) :: bWk 1 zini (.inr (1, [.ref 11, .int (nI 0), .int (nI 0)]) :: .inl (1, 6, .inr (.inr (.inr (.inr xSv)))) :: (bWk 12 zini (bWk 21 zini (bWk 30 zini (bWk 39 zini (bWk 48 zini (bWk 57 zini [.inr (2, [.ref 67, .int (nI 0)]), .inl (0, 60, .inl (fun _ => 0)), .inr (0, [.ref 69, .int (nI 1), .int (nI 1)]), .inl (0, 120, .inl (fun _ => 0)), .inl (0, 240, .inl (fun _ => 0))])))))))) dX4_init_52 rfl (rfl) (by decide) ((rfl : ([] : List xE).length = 0)) rfl rfl rfl rfl ?_
  refine xw_putF (hp' := ([] ++ (.inr (4, [.ref 1, .ref 10, .ref 66, .ref 68, .ref 70]) :: bWk 1 zini (.inr (1, [.ref 11, .int (nI 0), .int (nI 0)]) :: .inl (1, 6, .inr (.inr (.inr (.inr xSv)))) :: (bWk 12 zini (bWk 21 zini (bWk 30 zini (bWk 39 zini (bWk 48 zini (bWk 57 zini [.inr (2, [.ref 67, .int (nI 0)]), .inl (0, 60, .inl (fun _ => 0)), .inr (0, [.ref 69, .int (nI 1), .int (nI 1)]), .inl (0, 120, .inl (fun _ => 0)), .inl (0, 240, .inl (fun _ => 0))])))))))))) 57 dX4_init_54 rfl f_X4_37 rfl ff_X4_37 (rfl) ⟨rfl, rfl⟩ rfl rfl (rfl) ?_
  exact xw_return dX4_init_57 rfl (⟨rfl, rfl⟩)
end P55

/-! ===== the workshop: what only reads ===== -/
section P22a
variable {G : xG} {Y : xM} {Qx : xO → List xE → Prop} {pc : Nat} {ls : List (Nat × Value)} {st : List Value} {hp : List xE} {x kc ks : Nat}
theorem xw_throwW {E text : String} {ik is ic kc0 ks0 : Nat} (d0 : decode (xmB Y) pc = .ok (.new ik, 3)) (d3 : decode (xmB Y) (pc + 3) = .ok (.dup, 1)) (d4 : decode (xmB Y) (pc + 4) = .ok (.ldc_w is, 3)) (d6 : decode (xmB Y) (pc + 7) = .ok (.invokespecial ic, 3)) (d9 : decode (xmB Y) (pc + 10) = .ok (.athrow, 1))
    (hT : xThrOk (xmN Y).cls ik ic E) (htx : Cond.stringRef (xmN Y).cls is text ∈ lw_tbl) (hh : xmH Y = []) (hfr : Nat.ble 6 (xmF Y) = true) (hlo : Nat.ble 90 (xmW Y) = true) (hcat : Nat.ble (st.map fun v => v.category).sum 8 = true) (hkc : kc = kc0 + 1) (hks : ks = ks0 + 6) (hq : Qx (.inr E) hp) : xW G Y Qx pc ls st hp x kc ks := by
  intro p l e R s m args below meth c lsA H locs cells slots F hl hH hS hc hs
  have e9 : ((fun v => v.category) ∘ xTr G) = fun (v : Value) => v.category := by funext v; exact xTr_cat G v
  have hcat' : ((st.map (xTr G)).map fun v => v.category).sum ≤ 8 := by
    rw [List.map_map, e9]
    exact Nat.le_of_ble_eq_true hcat
  have h1 : 6 ≤ R.frames := Nat.le_trans (Nat.le_of_ble_eq_true hfr) F.2.2.2.2.2.2.2.2.2.2.1
  have h2 : 90 ≤ R.locals := Nat.le_trans (Nat.le_of_ble_eq_true hlo) F.2.2.2.2.2.2.2.2.2.2.2.1
  obtain ⟨hk, hini, hfit, hat⟩ := hT
  obtain ⟨sa, hsa⟩ := F.env.2.2.2.1 _ _ _ htx
  have hot : ∀ w : Cond, xGoodP w → vx_ot w = true := by
    intro w hg
    rcases hg with ⟨g1, -⟩ | ⟨ty, rfl⟩
    · unfold vx_ot; rw [g1]; rfl
    · rfl
  refine vx_throwSW (names := xNm) (A := xAA G) (sa := sa) (text := text) F.1 F.2.1 F.2.2.2.2.2.2.2.2.2.2.2.2.1 F.own hfit (by decide) (F.env.w hk (Or.inl ⟨rfl, rfl⟩)) (F.env.w hini (Or.inl ⟨rfl, rfl⟩)) hsa (fun w hw => F.env.w (hat w hw).1 (hat w hw).2) (fun w hw => ?_) F.ro.2.2.1 F.ro.2.2.2 hS (hl.1.trans F.2.2.1.symm) d0 d3 d4 d6 d9 ?_ ?_ ?_ (by omega) (by omega) F.2.2.2.2.2.1 ?_ hS.2.2 (by omega) (by omega)
  · rcases List.mem_cons.mp hw with rfl | hw
    · exact hot _ (Or.inl ⟨rfl, rfl⟩)
    · rcases List.mem_cons.mp hw with rfl | hw
      · exact hot _ (Or.inl ⟨rfl, rfl⟩)
      · exact hot _ (hat w hw).2
  · intro z hz
    rw [F.2.2.2.2.2.2.1, hh] at hz
    cases hz
  · show 2 + 3 < R.frames
    omega
  · show _ + (13 * (2 + 1) + 43) ≤ R.locals
    omega
  · intro t hal h3 h4
    exact ⟨hp, hq, hH.1.kept (fun k q hk => h4 _ ((hH.1 k q hk).lt)), Nat.le_trans hS.1 h3, fun q g1 g2 => (h4 q (Nat.lt_of_lt_of_le g1 hS.1)).trans (hS.2.1 q g1 g2)⟩
end P22a
/-- a pattern's numbers -/
def zpat (z : Nat → Int32) (n what : Nat) : Int32 :=
  if what = 0 then pcol z n else if what = 1 then nI (n / zI z 0) else if what = 2 then nI (n / zI z 0 % zI z 4) else nI ((n % zI z 0 + zI z 1 * (n / zI z 0)) % zI z 5)
def zroom (z : Nat → Int32) : Int32 := if nI 0 < z 2 - nI (zlen z (zI z 7 - 1)) then z 2 - nI (zlen z (zI z 7 - 1)) else nI 0
/-- the workshop's numbers; many: how many states are saved -/
def znum (z : Nat → Int32) (many : Int32) (what : Nat) : Int32 :=
  if what = 0 then z 4 else if what = 1 then z 5 else if what = 2 then z 6 else if what = 3 then z 7 else if what = 4 then nI (xctr (zwr z) 0 (zI z 6)) else if what = 5 then nI (zopen z) else
  if what = 6 then xsum (fun k => z (9 + k)) 6 else if what = 7 then xsum (fun k => z (15 + k)) 6 else if what = 8 then xsum (fun k => z (21 + k)) 6 else if what = 9 then z 8 else
  if what = 10 then nI (xdiff (fun k => z (27 + k)) (zI z 4) (zI z 5) 6) else if what = 11 then zroom z else many
theorem xsum_congr {f g : Nat → Int32} : ∀ {n : Nat}, (∀ k, k < n → f k = g k) → xsum f n = xsum g n
  | 0, _ => rfl
  | n + 1, h => by
    unfold xsum
    rw [xsum_congr (n := n) (fun k hk => h k (by omega)), h n (by omega)]
theorem xdiff_congr {f g : Nat → Int32} {R C n : Nat} (h : ∀ r c, r < R → c < C → f (r * 12 + c) = g (r * 12 + c)) : xdiff f R C n = xdiff g R C n := by
  unfold xdiff
  exact xct_congr fun v _ => by rw [xct2_congr fun r c hr hc => by rw [h r c hr hc]]
/-- numbers mixed in -/
def hmx (h : Int64) (v : Int32) : Int64 := 31 * h + v.toInt64
def hfo (f : Nat → Int32) : Nat → Int64 → Int64
  | 0, h => h
  | n + 1, h => hmx (hfo f n h) (f n)
def hfo2 (f : Nat → Nat → Int32) (C : Nat) : Nat → Int64 → Int64
  | 0, h => h
  | r + 1, h => hfo (f r) C (hfo2 f C r h)
def hcol (z : Nat → Int32) : Nat → Int64 → Int64
  | 0, h => h
  | c + 1, h => hmx (hfo (zcolour z c) 6 (hcol z c h)) (nI (xct (fun n => decide (pcol z n = nI c)) 60))
section P22
variable {G : xG} {hp : List xE} {x : Nat} {w : Nat → Int32} {sv : Nat → Nat → Int32} {qo qm : Int32} {ql : Int32} {co : Nat → Int32} {sx : xSx} {T : List xE}
theorem S_W_patternNumber {p n what : Nat} (W : xWk hp p w) (I : xInv w) (hn : n ≤ 1000) (hw : what < 4) : xMet G W_patternNumber [.ref p, .int (nI n), .int (nI what)] hp x 0 0 (xRetV (.int (zpat w n what)) hp) := by
  have hpl := I.pl n
  have hA := I.iA.2
  have hC := I.iC.2
  have hc12 := Nat.mod_lt (n % zI w 0 + zI w 1 * (n / zI w 0)) (show zI w 5 > 0 from by omega)
  have h12 : xpl (zI w 0) (zI w 1) (zI w 4) (zI w 5) n / 12 = n / zI w 0 % zI w 4 := by unfold xpl; omega
  have h13 : xpl (zI w 0) (zI w 1) (zI w 4) (zI w 5) n % 12 = (n % zI w 0 + zI w 1 * (n / zI w 0)) % zI w 5 := by unfold xpl; omega
  rcases (show what = 0 ∨ what = 1 ∨ what = 2 ∨ what = 3 by omega) with rfl | rfl | rfl | rfl
  · show xMet _ _ _ _ _ _ _ (xRetV (.int (pcol w n)) _)
    refine xw_aload_n 1 dX3_patternNumber_0 rfl rfl rfl ?_
    refine xw_get 4 dX3_patternNumber_1 rfl f_X3_18 (W.o) rfl ?_
    refine xw_iconst 5 (nI 0) dX3_patternNumber_4 rfl (xofI 0) ?_
    refine xw_pSN 8 dX3_patternNumber_5 rfl ok_B_at s_X3_58 (S_B_ats W.se (by decide) rfl (by decide) I.iA.1) (rfl) rfl rfl rfl rfl rfl rfl ?_
    refine xw_istore_n (ls' := [(3, _), (0, _), (1, _), (2, _)]) 9 dX3_patternNumber_8 rfl rfl rfl ?_
    refine xw_aload_n 10 dX3_patternNumber_9 rfl rfl rfl ?_
    refine xw_get 13 dX3_patternNumber_10 rfl f_X3_12 (W.o) rfl ?_
    refine xw_iload_n 14 dX3_patternNumber_13 rfl rfl ?_
    refine xw_iload_n 15 dX3_patternNumber_14 rfl rfl ?_
    refine xw_aload_n 16 dX3_patternNumber_15 rfl rfl rfl ?_
    refine xw_get 19 dX3_patternNumber_16 rfl f_X3_18 (W.o) rfl ?_
    refine xw_iconst 20 (nI 1) dX3_patternNumber_19 rfl (xofI 1) ?_
    refine xw_pSN 23 dX3_patternNumber_20 rfl ok_B_at s_X3_58 (S_B_ats W.se (j := 1) (by decide) rfl (by decide) I.iS.1) (rfl) rfl rfl rfl rfl rfl rfl ?_
    refine xw_pVN 26 dX3_patternNumber_23 rfl ok_C_placeFor s_X3_62 (S_C_placeFor (W.cc I) I.iR.2.1 I.iR.2.2 I.iC.2.1 I.iC.2.2 (Nat.le_trans (by decide) I.iA.2.1) I.iA.2.2 I.iS.2.2 (by omega)) (rfl) (W.ch) rfl rfl rfl rfl rfl rfl rfl ?_
    refine xw_istore (ls' := [(4, _), (3, _), (0, _), (1, _), (2, _)]) 28 dX3_patternNumber_26 rfl rfl rfl ?_
    refine xw_iload_n 29 dX3_patternNumber_28 rfl rfl ?_
    refine xw_table [56, 69, 75] 81 dX3_patternNumber_29 rfl rfl rfl ⟨fun _ => ?_, fun h => absurd h (by decide), fun h => absurd h (by decide), trivial⟩ (fun h => absurd h (by decide))
    refine xw_aload_n 57 dX3_patternNumber_56 rfl rfl rfl ?_
    refine xw_get 60 dX3_patternNumber_57 rfl f_X3_12 (W.o) rfl ?_
    refine xw_get 63 dX3_patternNumber_60 rfl f_X3_66 (W.ch) rfl ?_
    refine xw_iload 65 dX3_patternNumber_63 rfl rfl ?_
    refine xw_pSN 68 dX3_patternNumber_65 rfl ok_B_at s_X3_58 (S_B_ats W.ce (by decide) rfl hpl rfl) (rfl) rfl rfl rfl rfl rfl rfl ?_
    exact xw_ireturn dX3_patternNumber_68 rfl (⟨rfl, rfl⟩)
  · show xMet _ _ _ _ _ _ _ (xRetV (.int (nI (n / zI w 0))) _)
    refine xw_aload_n 1 dX3_patternNumber_0 rfl rfl rfl ?_
    refine xw_get 4 dX3_patternNumber_1 rfl f_X3_18 (W.o) rfl ?_
    refine xw_iconst 5 (nI 0) dX3_patternNumber_4 rfl (xofI 0) ?_
    refine xw_pSN 8 dX3_patternNumber_5 rfl ok_B_at s_X3_58 (S_B_ats W.se (by decide) rfl (by decide) I.iA.1) (rfl) rfl rfl rfl rfl rfl rfl ?_
    refine xw_istore_n (ls' := [(3, _), (0, _), (1, _), (2, _)]) 9 dX3_patternNumber_8 rfl rfl rfl ?_
    refine xw_aload_n 10 dX3_patternNumber_9 rfl rfl rfl ?_
    refine xw_get 13 dX3_patternNumber_10 rfl f_X3_12 (W.o) rfl ?_
    refine xw_iload_n 14 dX3_patternNumber_13 rfl rfl ?_
    refine xw_iload_n 15 dX3_patternNumber_14 rfl rfl ?_
    refine xw_aload_n 16 dX3_patternNumber_15 rfl rfl rfl ?_
    refine xw_get 19 dX3_patternNumber_16 rfl f_X3_18 (W.o) rfl ?_
    refine xw_iconst 20 (nI 1) dX3_patternNumber_19 rfl (xofI 1) ?_
    refine xw_pSN 23 dX3_patternNumber_20 rfl ok_B_at s_X3_58 (S_B_ats W.se (j := 1) (by decide) rfl (by decide) I.iS.1) (rfl) rfl rfl rfl rfl rfl rfl ?_
    refine xw_pVN 26 dX3_patternNumber_23 rfl ok_C_placeFor s_X3_62 (S_C_placeFor (W.cc I) I.iR.2.1 I.iR.2.2 I.iC.2.1 I.iC.2.2 (Nat.le_trans (by decide) I.iA.2.1) I.iA.2.2 I.iS.2.2 (by omega)) (rfl) (W.ch) rfl rfl rfl rfl rfl rfl rfl ?_
    refine xw_istore (ls' := [(4, _), (3, _), (0, _), (1, _), (2, _)]) 28 dX3_patternNumber_26 rfl rfl rfl ?_
    refine xw_iload_n 29 dX3_patternNumber_28 rfl rfl ?_
    refine xw_table [56, 69, 75] 81 dX3_patternNumber_29 rfl rfl rfl ⟨fun h => absurd h (by decide), fun _ => ?_, fun h => absurd h (by decide), trivial⟩ (fun h => absurd h (by decide))
    refine xw_iload_n 70 dX3_patternNumber_69 rfl rfl ?_
    refine xw_iload_n 71 dX3_patternNumber_70 rfl rfl ?_
    refine xw_pSN 74 dX3_patternNumber_71 rfl ok_B_quotient s_X3_69 (S_B_quotient (by omega) (by omega) (by omega)) (rfl) rfl rfl rfl rfl rfl rfl ?_
    exact xw_ireturn dX3_patternNumber_74 rfl (⟨rfl, rfl⟩)
  · show xMet _ _ _ _ _ _ _ (xRetV (.int (nI (n / zI w 0 % zI w 4))) _)
    refine xw_aload_n 1 dX3_patternNumber_0 rfl rfl rfl ?_
    refine xw_get 4 dX3_patternNumber_1 rfl f_X3_18 (W.o) rfl ?_
    refine xw_iconst 5 (nI 0) dX3_patternNumber_4 rfl (xofI 0) ?_
    refine xw_pSN 8 dX3_patternNumber_5 rfl ok_B_at s_X3_58 (S_B_ats W.se (by decide) rfl (by decide) I.iA.1) (rfl) rfl rfl rfl rfl rfl rfl ?_
    refine xw_istore_n (ls' := [(3, _), (0, _), (1, _), (2, _)]) 9 dX3_patternNumber_8 rfl rfl rfl ?_
    refine xw_aload_n 10 dX3_patternNumber_9 rfl rfl rfl ?_
    refine xw_get 13 dX3_patternNumber_10 rfl f_X3_12 (W.o) rfl ?_
    refine xw_iload_n 14 dX3_patternNumber_13 rfl rfl ?_
    refine xw_iload_n 15 dX3_patternNumber_14 rfl rfl ?_
    refine xw_aload_n 16 dX3_patternNumber_15 rfl rfl rfl ?_
    refine xw_get 19 dX3_patternNumber_16 rfl f_X3_18 (W.o) rfl ?_
    refine xw_iconst 20 (nI 1) dX3_patternNumber_19 rfl (xofI 1) ?_
    refine xw_pSN 23 dX3_patternNumber_20 rfl ok_B_at s_X3_58 (S_B_ats W.se (j := 1) (by decide) rfl (by decide) I.iS.1) (rfl) rfl rfl rfl rfl rfl rfl ?_
    refine xw_pVN 26 dX3_patternNumber_23 rfl ok_C_placeFor s_X3_62 (S_C_placeFor (W.cc I) I.iR.2.1 I.iR.2.2 I.iC.2.1 I.iC.2.2 (Nat.le_trans (by decide) I.iA.2.1) I.iA.2.2 I.iS.2.2 (by omega)) (rfl) (W.ch) rfl rfl rfl rfl rfl rfl rfl ?_
    refine xw_istore (ls' := [(4, _), (3, _), (0, _), (1, _), (2, _)]) 28 dX3_patternNumber_26 rfl rfl rfl ?_
    refine xw_iload_n 29 dX3_patternNumber_28 rfl rfl ?_
    refine xw_table [56, 69, 75] 81 dX3_patternNumber_29 rfl rfl rfl ⟨fun h => absurd h (by decide), fun h => absurd h (by decide), fun _ => ?_, trivial⟩ (fun h => absurd h (by decide))
    refine xw_iload 77 dX3_patternNumber_75 rfl rfl ?_
    refine xw_bipush 79 (nI 12) dX3_patternNumber_77 rfl (by decide) ?_
    refine xw_idiv 80 dX3_patternNumber_79 rfl (by decide) ?_
    rw [pk_div (d := 12) (by omega) (by decide) (by decide), h12]
    exact xw_ireturn dX3_patternNumber_80 rfl (⟨rfl, rfl⟩)
  · show xMet _ _ _ _ _ _ _ (xRetV (.int (nI ((n % zI w 0 + zI w 1 * (n / zI w 0)) % zI w 5))) _)
    refine xw_aload_n 1 dX3_patternNumber_0 rfl rfl rfl ?_
    refine xw_get 4 dX3_patternNumber_1 rfl f_X3_18 (W.o) rfl ?_
    refine xw_iconst 5 (nI 0) dX3_patternNumber_4 rfl (xofI 0) ?_
    refine xw_pSN 8 dX3_patternNumber_5 rfl ok_B_at s_X3_58 (S_B_ats W.se (by decide) rfl (by decide) I.iA.1) (rfl) rfl rfl rfl rfl rfl rfl ?_
    refine xw_istore_n (ls' := [(3, _), (0, _), (1, _), (2, _)]) 9 dX3_patternNumber_8 rfl rfl rfl ?_
    refine xw_aload_n 10 dX3_patternNumber_9 rfl rfl rfl ?_
    refine xw_get 13 dX3_patternNumber_10 rfl f_X3_12 (W.o) rfl ?_
    refine xw_iload_n 14 dX3_patternNumber_13 rfl rfl ?_
    refine xw_iload_n 15 dX3_patternNumber_14 rfl rfl ?_
    refine xw_aload_n 16 dX3_patternNumber_15 rfl rfl rfl ?_
    refine xw_get 19 dX3_patternNumber_16 rfl f_X3_18 (W.o) rfl ?_
    refine xw_iconst 20 (nI 1) dX3_patternNumber_19 rfl (xofI 1) ?_
    refine xw_pSN 23 dX3_patternNumber_20 rfl ok_B_at s_X3_58 (S_B_ats W.se (j := 1) (by decide) rfl (by decide) I.iS.1) (rfl) rfl rfl rfl rfl rfl rfl ?_
    refine xw_pVN 26 dX3_patternNumber_23 rfl ok_C_placeFor s_X3_62 (S_C_placeFor (W.cc I) I.iR.2.1 I.iR.2.2 I.iC.2.1 I.iC.2.2 (Nat.le_trans (by decide) I.iA.2.1) I.iA.2.2 I.iS.2.2 (by omega)) (rfl) (W.ch) rfl rfl rfl rfl rfl rfl rfl ?_
    refine xw_istore (ls' := [(4, _), (3, _), (0, _), (1, _), (2, _)]) 28 dX3_patternNumber_26 rfl rfl rfl ?_
    refine xw_iload_n 29 dX3_patternNumber_28 rfl rfl ?_
    refine xw_table [56, 69, 75] 81 dX3_patternNumber_29 rfl rfl rfl ⟨fun h => absurd h (by decide), fun h => absurd h (by decide), fun h => absurd h (by decide), trivial⟩ (fun _ => ?_)
    refine xw_iload 83 dX3_patternNumber_81 rfl rfl ?_
    refine xw_bipush 85 (nI 12) dX3_patternNumber_83 rfl (by decide) ?_
    refine xw_irem 86 dX3_patternNumber_85 rfl (by decide) ?_
    rw [pk_rem (d := 12) (by omega) (by decide) (by decide), h13]
    exact xw_ireturn dX3_patternNumber_86 rfl (⟨rfl, rfl⟩)
theorem S_B_isStrung_y {b : Nat} (I : xInv w) (h : b < zI w 6) : xMet G B_isStrung [.ref 0, .int (nI b)] (bHp w sv qo qm ql co sx T) x 0 0 (xRetV (.int (nI 1)) (bHp w sv qo qm ql co sx T)) := by
  obtain ⟨hM1, hM2, hM3⟩ := I.iM
  refine xw_iload_n 1 dX4_isStrung_0 rfl rfl ?_
  refine xw_if_lt 19 4 dX4_isStrung_1 rfl rfl (fun h1 => absurd h1 (nI_pos (by omega))) (fun h1 => ?_)
  refine xw_iload_n 5 dX4_isStrung_4 rfl rfl ?_
  refine xw_aload_n 6 dX4_isStrung_5 rfl rfl rfl ?_
  refine xw_get 9 dX4_isStrung_6 rfl f_X4_10 (rfl) rfl ?_
  refine xw_get 12 dX4_isStrung_9 rfl f_X4_149 (rfl) rfl ?_
  refine xw_icmp_ge 19 15 dX4_isStrung_12 rfl rfl (fun h12 => absurd h12 (by rw [hM1]; exact nI_ge (by omega) (by omega))) (fun h12 => ?_)
  refine xw_iconst 16 (nI 1) dX4_isStrung_15 rfl (xofI 1) ?_
  refine xw_goto 20 dX4_isStrung_16 rfl ?_
  exact xw_zreturn dX4_isStrung_20 rfl (by decide) (⟨rfl, rfl⟩)
theorem S_B_isStrung_n {b : Int32} (h : b < 0 ∨ w 6 ≤ b) : xMet G B_isStrung [.ref 0, .int b] (bHp w sv qo qm ql co sx T) x 0 0 (xRetV (.int (nI 0)) (bHp w sv qo qm ql co sx T)) := by
  by_cases h0 : b < 0
  · skip
    refine xw_iload_n 1 dX4_isStrung_0 rfl rfl ?_
    refine xw_if_lt 19 4 dX4_isStrung_1 rfl rfl (fun h1 => ?_) (fun h1 => absurd (h0) h1)
    refine xw_iconst 20 (nI 0) dX4_isStrung_19 rfl (xofI 0) ?_
    exact xw_zreturn dX4_isStrung_20 rfl (by decide) (⟨rfl, rfl⟩)
  · skip
    refine xw_iload_n 1 dX4_isStrung_0 rfl rfl ?_
    refine xw_if_lt 19 4 dX4_isStrung_1 rfl rfl (fun h1 => absurd h1 (h0)) (fun h1 => ?_)
    refine xw_iload_n 5 dX4_isStrung_4 rfl rfl ?_
    refine xw_aload_n 6 dX4_isStrung_5 rfl rfl rfl ?_
    refine xw_get 9 dX4_isStrung_6 rfl f_X4_10 (rfl) rfl ?_
    refine xw_get 12 dX4_isStrung_9 rfl f_X4_149 (rfl) rfl ?_
    refine xw_icmp_ge 19 15 dX4_isStrung_12 rfl rfl (fun h12 => ?_) (fun h12 => absurd (h.resolve_left h0) h12)
    refine xw_iconst 20 (nI 0) dX4_isStrung_19 rfl (xofI 0) ?_
    exact xw_zreturn dX4_isStrung_20 rfl (by decide) (⟨rfl, rfl⟩)
theorem S_B_numberOf {what : Nat} (I : xInv w) (hw : what < 13) : xMet G B_numberOf [.ref 0, .int (nI what)] (bHp w sv qo qm ql co sx T) x 0 0 (xRetV (.int (znum w qm what)) (bHp w sv qo qm ql co sx T)) := by
  obtain ⟨hM1, hM2, hM3⟩ := I.iM
  rcases (show what = 0 ∨ what = 1 ∨ what = 2 ∨ what = 3 ∨ what = 4 ∨ what = 5 ∨ what = 6 ∨ what = 7 ∨ what = 8 ∨ what = 9 ∨ what = 10 ∨ what = 11 ∨ what = 12 by omega) with rfl | rfl | rfl | rfl | rfl | rfl | rfl | rfl | rfl | rfl | rfl | rfl | rfl
  · show xMet _ _ _ _ _ _ _ (xRetV (.int (w 4)) _)
    refine xw_iload_n 1 dX4_numberOf_0 rfl rfl ?_
    refine xw_table [64, 75, 86, 94, 102, 118, 126, 137, 148, 159, 167, 178] 190 dX4_numberOf_1 rfl rfl rfl ⟨fun _ => ?_, fun h => absurd h (by decide), fun h => absurd h (by decide), fun h => absurd h (by decide), fun h => absurd h (by decide), fun h => absurd h (by decide), fun h => absurd h (by decide), fun h => absurd h (by decide), fun h => absurd h (by decide), fun h => absurd h (by decide), fun h => absurd h (by decide), fun h => absurd h (by decide), trivial⟩ (fun h => absurd h (by decide))
    refine xw_aload_n 65 dX4_numberOf_64 rfl rfl rfl ?_
    refine xw_get 68 dX4_numberOf_65 rfl f_X4_10 (rfl) rfl ?_
    refine xw_get 71 dX4_numberOf_68 rfl f_X4_65 (rfl) rfl ?_
    refine xw_get 74 dX4_numberOf_71 rfl f_X4_75 (rfl) rfl ?_
    exact xw_ireturn dX4_numberOf_74 rfl (⟨rfl, rfl⟩)
  · show xMet _ _ _ _ _ _ _ (xRetV (.int (w 5)) _)
    refine xw_iload_n 1 dX4_numberOf_0 rfl rfl ?_
    refine xw_table [64, 75, 86, 94, 102, 118, 126, 137, 148, 159, 167, 178] 190 dX4_numberOf_1 rfl rfl rfl ⟨fun h => absurd h (by decide), fun _ => ?_, fun h => absurd h (by decide), fun h => absurd h (by decide), fun h => absurd h (by decide), fun h => absurd h (by decide), fun h => absurd h (by decide), fun h => absurd h (by decide), fun h => absurd h (by decide), fun h => absurd h (by decide), fun h => absurd h (by decide), fun h => absurd h (by decide), trivial⟩ (fun h => absurd h (by decide))
    refine xw_aload_n 76 dX4_numberOf_75 rfl rfl rfl ?_
    refine xw_get 79 dX4_numberOf_76 rfl f_X4_10 (rfl) rfl ?_
    refine xw_get 82 dX4_numberOf_79 rfl f_X4_65 (rfl) rfl ?_
    refine xw_get 85 dX4_numberOf_82 rfl f_X4_211 (rfl) rfl ?_
    exact xw_ireturn dX4_numberOf_85 rfl (⟨rfl, rfl⟩)
  · show xMet _ _ _ _ _ _ _ (xRetV (.int (w 6)) _)
    refine xw_iload_n 1 dX4_numberOf_0 rfl rfl ?_
    refine xw_table [64, 75, 86, 94, 102, 118, 126, 137, 148, 159, 167, 178] 190 dX4_numberOf_1 rfl rfl rfl ⟨fun h => absurd h (by decide), fun h => absurd h (by decide), fun _ => ?_, fun h => absurd h (by decide), fun h => absurd h (by decide), fun h => absurd h (by decide), fun h => absurd h (by decide), fun h => absurd h (by decide), fun h => absurd h (by decide), fun h => absurd h (by decide), fun h => absurd h (by decide), fun h => absurd h (by decide), trivial⟩ (fun h => absurd h (by decide))
    refine xw_aload_n 87 dX4_numberOf_86 rfl rfl rfl ?_
    refine xw_get 90 dX4_numberOf_87 rfl f_X4_10 (rfl) rfl ?_
    refine xw_get 93 dX4_numberOf_90 rfl f_X4_149 (rfl) rfl ?_
    exact xw_ireturn dX4_numberOf_93 rfl (⟨rfl, rfl⟩)
  · show xMet _ _ _ _ _ _ _ (xRetV (.int (w 7)) _)
    refine xw_iload_n 1 dX4_numberOf_0 rfl rfl ?_
    refine xw_table [64, 75, 86, 94, 102, 118, 126, 137, 148, 159, 167, 178] 190 dX4_numberOf_1 rfl rfl rfl ⟨fun h => absurd h (by decide), fun h => absurd h (by decide), fun h => absurd h (by decide), fun _ => ?_, fun h => absurd h (by decide), fun h => absurd h (by decide), fun h => absurd h (by decide), fun h => absurd h (by decide), fun h => absurd h (by decide), fun h => absurd h (by decide), fun h => absurd h (by decide), fun h => absurd h (by decide), trivial⟩ (fun h => absurd h (by decide))
    refine xw_aload_n 95 dX4_numberOf_94 rfl rfl rfl ?_
    refine xw_get 98 dX4_numberOf_95 rfl f_X4_10 (rfl) rfl ?_
    refine xw_get 101 dX4_numberOf_98 rfl f_X4_161 (rfl) rfl ?_
    exact xw_ireturn dX4_numberOf_101 rfl (⟨rfl, rfl⟩)
  · show xMet _ _ _ _ _ _ _ (xRetV (.int (nI (xctr (zwr w) 0 (zI w 6)))) _)
    refine xw_iload_n 1 dX4_numberOf_0 rfl rfl ?_
    refine xw_table [64, 75, 86, 94, 102, 118, 126, 137, 148, 159, 167, 178] 190 dX4_numberOf_1 rfl rfl rfl ⟨fun h => absurd h (by decide), fun h => absurd h (by decide), fun h => absurd h (by decide), fun h => absurd h (by decide), fun _ => ?_, fun h => absurd h (by decide), fun h => absurd h (by decide), fun h => absurd h (by decide), fun h => absurd h (by decide), fun h => absurd h (by decide), fun h => absurd h (by decide), fun h => absurd h (by decide), trivial⟩ (fun h => absurd h (by decide))
    refine xw_aload_n 103 dX4_numberOf_102 rfl rfl rfl ?_
    refine xw_get 106 dX4_numberOf_103 rfl f_X4_10 (rfl) rfl ?_
    refine xw_iconst 107 (nI 0) dX4_numberOf_106 rfl (xofI 0) ?_
    refine xw_aload_n 108 dX4_numberOf_107 rfl rfl rfl ?_
    refine xw_get 111 dX4_numberOf_108 rfl f_X4_10 (rfl) rfl ?_
    refine xw_get 114 dX4_numberOf_111 rfl f_X4_149 (rfl) rfl ?_
    rw [hM1]
    refine xw_pVN 117 dX4_numberOf_114 rfl ok_W_wrongBetween s_X4_268 (S_W_wrongBetween bHp_wk I (by omega) (by omega)) (bHp_len) (rfl) rfl rfl rfl rfl rfl rfl rfl ?_
    exact xw_ireturn dX4_numberOf_117 rfl (⟨rfl, rfl⟩)
  · show xMet _ _ _ _ _ _ _ (xRetV (.int (nI (zopen w))) _)
    refine xw_iload_n 1 dX4_numberOf_0 rfl rfl ?_
    refine xw_table [64, 75, 86, 94, 102, 118, 126, 137, 148, 159, 167, 178] 190 dX4_numberOf_1 rfl rfl rfl ⟨fun h => absurd h (by decide), fun h => absurd h (by decide), fun h => absurd h (by decide), fun h => absurd h (by decide), fun h => absurd h (by decide), fun _ => ?_, fun h => absurd h (by decide), fun h => absurd h (by decide), fun h => absurd h (by decide), fun h => absurd h (by decide), fun h => absurd h (by decide), fun h => absurd h (by decide), trivial⟩ (fun h => absurd h (by decide))
    refine xw_aload_n 119 dX4_numberOf_118 rfl rfl rfl ?_
    refine xw_get 122 dX4_numberOf_119 rfl f_X4_10 (rfl) rfl ?_
    refine xw_pVN 125 dX4_numberOf_122 rfl ok_W_openKnots s_X4_326 (S_W_openKnots bHp_wk I) (bHp_len) (rfl) rfl rfl rfl rfl rfl rfl rfl ?_
    exact xw_ireturn dX4_numberOf_125 rfl (⟨rfl, rfl⟩)
  · show xMet _ _ _ _ _ _ _ (xRetV (.int (xsum (fun k => w (9 + k)) 6)) _)
    refine xw_iload_n 1 dX4_numberOf_0 rfl rfl ?_
    refine xw_table [64, 75, 86, 94, 102, 118, 126, 137, 148, 159, 167, 178] 190 dX4_numberOf_1 rfl rfl rfl ⟨fun h => absurd h (by decide), fun h => absurd h (by decide), fun h => absurd h (by decide), fun h => absurd h (by decide), fun h => absurd h (by decide), fun h => absurd h (by decide), fun _ => ?_, fun h => absurd h (by decide), fun h => absurd h (by decide), fun h => absurd h (by decide), fun h => absurd h (by decide), fun h => absurd h (by decide), trivial⟩ (fun h => absurd h (by decide))
    refine xw_aload_n 127 dX4_numberOf_126 rfl rfl rfl ?_
    refine xw_get 130 dX4_numberOf_127 rfl f_X4_10 (rfl) rfl ?_
    refine xw_get 133 dX4_numberOf_130 rfl f_X4_137 (rfl) rfl ?_
    refine xw_pS 136 dX4_numberOf_133 rfl ok_B_sum s_X4_329 (xcast_v (S_B_sum (k := 5) (n := 6) (f := xsl w 9 6) rfl (by decide)) (congrArg Value.int (xsum_congr fun k hk => xsl_at hk))) (bHp_len) rfl rfl rfl rfl rfl rfl ?_
    exact xw_ireturn dX4_numberOf_136 rfl (⟨rfl, rfl⟩)
  · show xMet _ _ _ _ _ _ _ (xRetV (.int (xsum (fun k => w (15 + k)) 6)) _)
    refine xw_iload_n 1 dX4_numberOf_0 rfl rfl ?_
    refine xw_table [64, 75, 86, 94, 102, 118, 126, 137, 148, 159, 167, 178] 190 dX4_numberOf_1 rfl rfl rfl ⟨fun h => absurd h (by decide), fun h => absurd h (by decide), fun h => absurd h (by decide), fun h => absurd h (by decide), fun h => absurd h (by decide), fun h => absurd h (by decide), fun h => absurd h (by decide), fun _ => ?_, fun h => absurd h (by decide), fun h => absurd h (by decide), fun h => absurd h (by decide), fun h => absurd h (by decide), trivial⟩ (fun h => absurd h (by decide))
    refine xw_aload_n 138 dX4_numberOf_137 rfl rfl rfl ?_
    refine xw_get 141 dX4_numberOf_138 rfl f_X4_10 (rfl) rfl ?_
    refine xw_get 144 dX4_numberOf_141 rfl f_X4_129 (rfl) rfl ?_
    refine xw_pS 147 dX4_numberOf_144 rfl ok_B_sum s_X4_329 (xcast_v (S_B_sum (k := 6) (n := 6) (f := xsl w 15 6) rfl (by decide)) (congrArg Value.int (xsum_congr fun k hk => xsl_at hk))) (bHp_len) rfl rfl rfl rfl rfl rfl ?_
    exact xw_ireturn dX4_numberOf_147 rfl (⟨rfl, rfl⟩)
  · show xMet _ _ _ _ _ _ _ (xRetV (.int (xsum (fun k => w (21 + k)) 6)) _)
    refine xw_iload_n 1 dX4_numberOf_0 rfl rfl ?_
    refine xw_table [64, 75, 86, 94, 102, 118, 126, 137, 148, 159, 167, 178] 190 dX4_numberOf_1 rfl rfl rfl ⟨fun h => absurd h (by decide), fun h => absurd h (by decide), fun h => absurd h (by decide), fun h => absurd h (by decide), fun h => absurd h (by decide), fun h => absurd h (by decide), fun h => absurd h (by decide), fun h => absurd h (by decide), fun _ => ?_, fun h => absurd h (by decide), fun h => absurd h (by decide), fun h => absurd h (by decide), trivial⟩ (fun h => absurd h (by decide))
    refine xw_aload_n 149 dX4_numberOf_148 rfl rfl rfl ?_
    refine xw_get 152 dX4_numberOf_149 rfl f_X4_10 (rfl) rfl ?_
    refine xw_get 155 dX4_numberOf_152 rfl f_X4_332 (rfl) rfl ?_
    refine xw_pS 158 dX4_numberOf_155 rfl ok_B_sum s_X4_329 (xcast_v (S_B_sum (k := 7) (n := 6) (f := xsl w 21 6) rfl (by decide)) (congrArg Value.int (xsum_congr fun k hk => xsl_at hk))) (bHp_len) rfl rfl rfl rfl rfl rfl ?_
    exact xw_ireturn dX4_numberOf_158 rfl (⟨rfl, rfl⟩)
  · show xMet _ _ _ _ _ _ _ (xRetV (.int (w 8)) _)
    refine xw_iload_n 1 dX4_numberOf_0 rfl rfl ?_
    refine xw_table [64, 75, 86, 94, 102, 118, 126, 137, 148, 159, 167, 178] 190 dX4_numberOf_1 rfl rfl rfl ⟨fun h => absurd h (by decide), fun h => absurd h (by decide), fun h => absurd h (by decide), fun h => absurd h (by decide), fun h => absurd h (by decide), fun h => absurd h (by decide), fun h => absurd h (by decide), fun h => absurd h (by decide), fun h => absurd h (by decide), fun _ => ?_, fun h => absurd h (by decide), fun h => absurd h (by decide), trivial⟩ (fun h => absurd h (by decide))
    refine xw_aload_n 160 dX4_numberOf_159 rfl rfl rfl ?_
    refine xw_get 163 dX4_numberOf_160 rfl f_X4_10 (rfl) rfl ?_
    refine xw_get 166 dX4_numberOf_163 rfl f_X4_335 (rfl) rfl ?_
    exact xw_ireturn dX4_numberOf_166 rfl (⟨rfl, rfl⟩)
  · show xMet _ _ _ _ _ _ _ (xRetV (.int (nI (xdiff (fun k => w (27 + k)) (zI w 4) (zI w 5) 6))) _)
    refine xw_iload_n 1 dX4_numberOf_0 rfl rfl ?_
    refine xw_table [64, 75, 86, 94, 102, 118, 126, 137, 148, 159, 167, 178] 190 dX4_numberOf_1 rfl rfl rfl ⟨fun h => absurd h (by decide), fun h => absurd h (by decide), fun h => absurd h (by decide), fun h => absurd h (by decide), fun h => absurd h (by decide), fun h => absurd h (by decide), fun h => absurd h (by decide), fun h => absurd h (by decide), fun h => absurd h (by decide), fun h => absurd h (by decide), fun _ => ?_, fun h => absurd h (by decide), trivial⟩ (fun h => absurd h (by decide))
    refine xw_aload_n 168 dX4_numberOf_167 rfl rfl rfl ?_
    refine xw_get 171 dX4_numberOf_168 rfl f_X4_10 (rfl) rfl ?_
    refine xw_get 174 dX4_numberOf_171 rfl f_X4_65 (rfl) rfl ?_
    refine xw_pVN 177 dX4_numberOf_174 rfl ok_C_differentColours s_X4_338 (xcast_v (S_C_differentColours (bHp_wk.cc I) bHp_wk.ce I.iR.2.1 I.iR.2.2 I.iC.2.1 I.iC.2.2) (congrArg (fun n => Value.int (nI n)) (xdiff_congr (g := fun k => w (27 + k)) fun r c hr hc => xsl_at (w := w) (o := 27) (n := 120) (k := r * 12 + c) (by have := I.iR.2.2; have := I.iC.2.2; omega)))) (bHp_len) (rfl) rfl rfl rfl rfl rfl rfl rfl ?_
    exact xw_ireturn dX4_numberOf_177 rfl (⟨rfl, rfl⟩)
  · show xMet _ _ _ _ _ _ _ (xRetV (.int (zroom w)) _)
    refine xw_iload_n 1 dX4_numberOf_0 rfl rfl ?_
    refine xw_table [64, 75, 86, 94, 102, 118, 126, 137, 148, 159, 167, 178] 190 dX4_numberOf_1 rfl rfl rfl ⟨fun h => absurd h (by decide), fun h => absurd h (by decide), fun h => absurd h (by decide), fun h => absurd h (by decide), fun h => absurd h (by decide), fun h => absurd h (by decide), fun h => absurd h (by decide), fun h => absurd h (by decide), fun h => absurd h (by decide), fun h => absurd h (by decide), fun h => absurd h (by decide), fun _ => ?_, trivial⟩ (fun h => absurd h (by decide))
    refine xw_iconst 179 (nI 0) dX4_numberOf_178 rfl (xofI 0) ?_
    refine xw_aload_n 180 dX4_numberOf_179 rfl rfl rfl ?_
    refine xw_get 183 dX4_numberOf_180 rfl f_X4_10 (rfl) rfl ?_
    refine xw_pVN 186 dX4_numberOf_183 rfl ok_W_room s_X4_341 (S_W_room bHp_wk I) (bHp_len) (rfl) rfl rfl rfl rfl rfl rfl rfl ?_
    refine xw_max 189 dX4_numberOf_186 rfl s_X4_344 rfl rfl rfl ?_
    exact xw_ireturn dX4_numberOf_189 rfl (⟨rfl, rfl⟩)
  · show xMet _ _ _ _ _ _ _ (xRetV (.int qm) _)
    refine xw_iload_n 1 dX4_numberOf_0 rfl rfl ?_
    refine xw_table [64, 75, 86, 94, 102, 118, 126, 137, 148, 159, 167, 178] 190 dX4_numberOf_1 rfl rfl rfl ⟨fun h => absurd h (by decide), fun h => absurd h (by decide), fun h => absurd h (by decide), fun h => absurd h (by decide), fun h => absurd h (by decide), fun h => absurd h (by decide), fun h => absurd h (by decide), fun h => absurd h (by decide), fun h => absurd h (by decide), fun h => absurd h (by decide), fun h => absurd h (by decide), fun h => absurd h (by decide), trivial⟩ (fun _ => ?_)
    refine xw_aload_n 191 dX4_numberOf_190 rfl rfl rfl ?_
    refine xw_get 194 dX4_numberOf_191 rfl f_X4_19 (rfl) rfl ?_
    refine xw_get 197 dX4_numberOf_194 rfl f_X4_203 (rfl) rfl ?_
    exact xw_ireturn dX4_numberOf_197 rfl (⟨rfl, rfl⟩)
end P22

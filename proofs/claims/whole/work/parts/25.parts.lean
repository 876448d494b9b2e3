/-! ===== the workshop: digests of parts, the best slant, the best turn ===== -/
theorem zwb_congr {z : Nat → Int32} {f g : Nat → Int32} {R C S : Nat} (h1 : 1 ≤ R) (h3 : 1 ≤ C) (h4 : C ≤ 12) (h : ∀ r c, r < R → c < C → f (r * 12 + c) = g (r * 12 + c)) : zwb z f R C S = zwb z g R C S := by
  unfold zwb
  refine xct_congr fun n _ => ?_
  have e : f (xpl (zI z 0) S R C n) = g (xpl (zI z 0) S R C n) := h _ _ (Nat.mod_lt _ h1) (Nat.mod_lt _ h3)
  rw [e]
/-- the chart turned -/
def zT (z : Nat → Int32) (how : Nat) : Nat → Int32 := fun k => xtc (fun k => z (27 + k)) (zI z 4) (zI z 5) how (k / 12) (k % 12)
def zTR (z : Nat → Int32) (how : Nat) : Nat := if how = 4 then zI z 5 else zI z 4
def zTC (z : Nat → Int32) (how : Nat) : Nat := if how = 4 then zI z 4 else zI z 5
/-- the first of n with the least f, if that is below l -/
def zmin (f : Nat → Nat) (b : Int32) (l : Nat) : Nat → Int32 × Nat
  | 0 => (b, l)
  | n + 1 => if f n < (zmin f b l n).2 then (nI n, f n) else zmin f b l n
theorem zmin_le {f : Nat → Nat} {b : Int32} {l : Nat} : ∀ n, (zmin f b l n).2 ≤ l
  | 0 => Nat.le_refl _
  | n + 1 => by
    have := zmin_le (f := f) (b := b) (l := l) n
    unfold zmin
    split
    · dsimp only; omega
    · exact this
def zslant (z : Nat → Int32) : Int32 := (zmin (fun s => zwb z (fun k => z (27 + k)) (zI z 4) (zI z 5) s) (nI 0) 241 12).1
def zturnf (z : Nat → Int32) (how : Nat) : Nat := if how ≠ 4 ∨ zI z 5 ≤ 10 then zwb z (zT z how) (zTR z how) (zTC z how) (zI z 1) else 100000
def zturnb (z : Nat → Int32) : Int32 := (zmin (zturnf z) (-1) (zwb z (fun k => z (27 + k)) (zI z 4) (zI z 5) (zI z 1)) 5).1
theorem zwb_le (z f : Nat → Int32) (R C S : Nat) : zwb z f R C S ≤ zI z 6 := xct_le _ _
theorem xtc_congr {f g : Nat → Int32} {R C how r c : Nat} (h : ∀ r c, r < R → c < C → f (r * 12 + c) = g (r * 12 + c)) (hh : how < 5) (hr : r < (if how = 4 then C else R)) (hc : c < (if how = 4 then R else C)) : xtc f R C how r c = xtc g R C how r c := by
  rcases (show how = 0 ∨ how = 1 ∨ how = 2 ∨ how = 3 ∨ how = 4 by omega) with rfl | rfl | rfl | rfl | rfl
  · exact h _ _ hr (by have : c < C := hc; omega)
  · exact h _ _ (by have : r < R := hr; omega) hc
  · exact h _ _ hr (Nat.mod_lt _ (by have : c < C := hc; omega))
  · exact h _ _ (Nat.mod_lt _ (by have : r < R := hr; omega)) hc
  · exact h _ _ hc hr
section P25
variable {G : xG} {hp : List xE} {x : Nat} {w : Nat → Int32} {sv : Nat → Nat → Int32} {qo qm : Int32} {ql : Int32} {co : Nat → Int32} {sx : xSx} {T : List xE}
theorem S_B_hashOfCells {h : Int64} (I : xInv w) : xMet G B_hashOfCells [.ref 0, .long h] (bHp w sv qo qm ql co sx T) x 0 0 (xRetV (.long (hfo2 (fun r c => w (27 + (r * 12 + c))) (zI w 5) (zI w 4) h)) (bHp w sv qo qm ql co sx T)) := by
  obtain ⟨R1, R2, R3⟩ := I.iR
  obtain ⟨C1, C2, C3⟩ := I.iC
  have outer : ∀ (t r : Nat), r + t = (zI w 4) → xW G B_hashOfCells (xRetV (.long (hfo2 (fun r c => w (27 + (r * 12 + c))) (zI w 5) (zI w 4) h)) (bHp w sv qo qm ql co sx T)) 5 [(5, .int (nI r)), (3, .long (hfo2 (fun r c => w (27 + (r * 12 + c))) (zI w 5) r h)), (0, .ref 0), (1, .long h)] [] (bHp w sv qo qm ql co sx T) x 0 0 := by
    intro t
    induction t with
    | zero =>
      intro r hr
      have e : r = (zI w 4) := by omega
      subst e
      refine xw_iload 7 dX4_hashOfCells_5 rfl rfl ?_
      refine xw_aload_n 8 dX4_hashOfCells_7 rfl rfl rfl ?_
      refine xw_get 11 dX4_hashOfCells_8 rfl f_X4_10 (rfl) rfl ?_
      refine xw_get 14 dX4_hashOfCells_11 rfl f_X4_65 (rfl) rfl ?_
      refine xw_get 17 dX4_hashOfCells_14 rfl f_X4_75 (rfl) rfl ?_
      refine xw_icmp_ge 70 20 dX4_hashOfCells_17 rfl rfl (fun h17 => ?_) (fun h17 => absurd (by rw [R1]; exact nI_le (by omega) (by omega)) h17)
      refine xw_lload_n 71 dX4_hashOfCells_70 rfl rfl ?_
      exact xw_lreturn dX4_hashOfCells_71 rfl (⟨rfl, rfl⟩)
    | succ t ih =>
      intro r hr
      have ih := ih (r + 1) (by omega)
      have inner : ∀ (u c : Nat), c + u = (zI w 5) → xW G B_hashOfCells (xRetV (.long (hfo2 (fun r c => w (27 + (r * 12 + c))) (zI w 5) (zI w 4) h)) (bHp w sv qo qm ql co sx T)) 23 [(6, .int (nI c)), (5, .int (nI r)), (3, .long (hfo ((fun r c => w (27 + (r * 12 + c))) r) c (hfo2 (fun r c => w (27 + (r * 12 + c))) (zI w 5) r h))), (0, .ref 0), (1, .long h)] [] (bHp w sv qo qm ql co sx T) x 0 0 := by
        intro u
        induction u with
        | zero =>
          intro c hc
          have e : c = (zI w 5) := by omega
          subst e
          refine xw_iload 25 dX4_hashOfCells_23 rfl rfl ?_
          refine xw_aload_n 26 dX4_hashOfCells_25 rfl rfl rfl ?_
          refine xw_get 29 dX4_hashOfCells_26 rfl f_X4_10 (rfl) rfl ?_
          refine xw_get 32 dX4_hashOfCells_29 rfl f_X4_65 (rfl) rfl ?_
          refine xw_get 35 dX4_hashOfCells_32 rfl f_X4_211 (rfl) rfl ?_
          refine xw_icmp_ge 64 38 dX4_hashOfCells_35 rfl rfl (fun h35 => ?_) (fun h35 => absurd (by rw [C1]; exact nI_le (by omega) (by omega)) h35)
          refine xw_iinc (ls' := [(5, _), (6, _), (3, _), (0, _), (1, _)]) 67 _ dX4_hashOfCells_64 rfl rfl (xnI_inc _) rfl rfl ?_
          refine xw_goto 5 dX4_hashOfCells_67 rfl ?_
          exact xW.pick [0, 2, 3, 4] rfl (ih)
        | succ u ih2 =>
          intro c hc
          have ih2 := ih2 (c + 1) (by omega)
          refine xw_iload 25 dX4_hashOfCells_23 rfl rfl ?_
          refine xw_aload_n 26 dX4_hashOfCells_25 rfl rfl rfl ?_
          refine xw_get 29 dX4_hashOfCells_26 rfl f_X4_10 (rfl) rfl ?_
          refine xw_get 32 dX4_hashOfCells_29 rfl f_X4_65 (rfl) rfl ?_
          refine xw_get 35 dX4_hashOfCells_32 rfl f_X4_211 (rfl) rfl ?_
          refine xw_icmp_ge 64 38 dX4_hashOfCells_35 rfl rfl (fun h35 => absurd h35 (by rw [C1]; exact nI_ge (by omega) (by omega))) (fun h35 => ?_)
          refine xw_lload_n 39 dX4_hashOfCells_38 rfl rfl ?_
          refine xw_aload_n 40 dX4_hashOfCells_39 rfl rfl rfl ?_
          refine xw_get 43 dX4_hashOfCells_40 rfl f_X4_10 (rfl) rfl ?_
          refine xw_get 46 dX4_hashOfCells_43 rfl f_X4_65 (rfl) rfl ?_
          refine xw_iload 48 dX4_hashOfCells_46 rfl rfl ?_
          refine xw_iload 50 dX4_hashOfCells_48 rfl rfl ?_
          refine xw_pVN 53 dX4_hashOfCells_50 rfl ok_C_cellAt s_X4_216 (xcast_v (S_C_cellAt (r := r) (c := c) (bHp_wk.cc I) bHp_wk.ce rfl rfl (by omega)) (congrArg Value.int (xsl_at (w := w) (o := 27) (n := 120) (k := r * 12 + c) (by omega)))) (bHp_len) (rfl) rfl rfl rfl rfl rfl rfl rfl ?_
          refine xw_i2l 54 dX4_hashOfCells_53 rfl ?_
          refine xw_pS 57 dX4_hashOfCells_54 rfl ok_B_mixed s_X4_273 (S_B_mixed) (bHp_len) rfl rfl rfl rfl rfl rfl ?_
          refine xw_lstore_n (ls' := [(3, _), (6, _), (5, _), (0, _), (1, _)]) 58 dX4_hashOfCells_57 rfl rfl rfl ?_
          refine xw_iinc (ls' := [(6, _), (3, _), (5, _), (0, _), (1, _)]) 61 _ dX4_hashOfCells_58 rfl rfl (xnI_inc _) rfl rfl ?_
          refine xw_goto 23 dX4_hashOfCells_61 rfl ?_
          exact xW.pick [0, 2, 1, 3, 4] rfl (ih2)
      refine xw_iload 7 dX4_hashOfCells_5 rfl rfl ?_
      refine xw_aload_n 8 dX4_hashOfCells_7 rfl rfl rfl ?_
      refine xw_get 11 dX4_hashOfCells_8 rfl f_X4_10 (rfl) rfl ?_
      refine xw_get 14 dX4_hashOfCells_11 rfl f_X4_65 (rfl) rfl ?_
      refine xw_get 17 dX4_hashOfCells_14 rfl f_X4_75 (rfl) rfl ?_
      refine xw_icmp_ge 70 20 dX4_hashOfCells_17 rfl rfl (fun h17 => absurd h17 (by rw [R1]; exact nI_ge (by omega) (by omega))) (fun h17 => ?_)
      refine xw_iconst 21 (nI 0) dX4_hashOfCells_20 rfl (xofI 0) ?_
      refine xw_istore (ls' := [(6, _), (5, _), (3, _), (0, _), (1, _)]) 23 dX4_hashOfCells_21 rfl rfl rfl ?_
      exact xW.pick [0, 1, 2, 3, 4] rfl (inner (zI w 5) 0 (Nat.zero_add _))
  refine xw_lload_n 1 dX4_hashOfCells_0 rfl rfl ?_
  refine xw_lstore_n (ls' := [(3, _), (0, _), (1, _)]) 2 dX4_hashOfCells_1 rfl rfl rfl ?_
  refine xw_iconst 3 (nI 0) dX4_hashOfCells_2 rfl (xofI 0) ?_
  refine xw_istore (ls' := [(5, _), (3, _), (0, _), (1, _)]) 5 dX4_hashOfCells_3 rfl rfl rfl ?_
  exact xW.pick [0, 1, 2, 3] rfl (outer (zI w 4) 0 (Nat.zero_add _))
theorem S_B_hashOfBeads {h : Int64} (I : xInv w) : xMet G B_hashOfBeads [.ref 0, .long h] (bHp w sv qo qm ql co sx T) x 0 0 (xRetV (.long (hfo2 (fun b k => zbead w b k) 4 (zI w 6) h)) (bHp w sv qo qm ql co sx T)) := by
  obtain ⟨M1, M2, M3⟩ := I.iM
  have outer : ∀ (t r : Nat), r + t = (zI w 6) → xW G B_hashOfBeads (xRetV (.long (hfo2 (fun b k => zbead w b k) 4 (zI w 6) h)) (bHp w sv qo qm ql co sx T)) 5 [(5, .int (nI r)), (3, .long (hfo2 (fun b k => zbead w b k) 4 r h)), (0, .ref 0), (1, .long h)] [] (bHp w sv qo qm ql co sx T) x 0 0 := by
    intro t
    induction t with
    | zero =>
      intro r hr
      have e : r = (zI w 6) := by omega
      subst e
      refine xw_iload 7 dX4_hashOfBeads_5 rfl rfl ?_
      refine xw_aload_n 8 dX4_hashOfBeads_7 rfl rfl rfl ?_
      refine xw_get 11 dX4_hashOfBeads_8 rfl f_X4_10 (rfl) rfl ?_
      refine xw_get 14 dX4_hashOfBeads_11 rfl f_X4_149 (rfl) rfl ?_
      refine xw_icmp_ge 55 17 dX4_hashOfBeads_14 rfl rfl (fun h14 => ?_) (fun h14 => absurd (by rw [M1]; exact nI_le (by omega) (by omega)) h14)
      refine xw_lload_n 56 dX4_hashOfBeads_55 rfl rfl ?_
      exact xw_lreturn dX4_hashOfBeads_56 rfl (⟨rfl, rfl⟩)
    | succ t ih =>
      intro r hr
      have ih := ih (r + 1) (by omega)
      have inner : ∀ (u c : Nat), c + u = 4 → xW G B_hashOfBeads (xRetV (.long (hfo2 (fun b k => zbead w b k) 4 (zI w 6) h)) (bHp w sv qo qm ql co sx T)) 20 [(6, .int (nI c)), (5, .int (nI r)), (3, .long (hfo ((fun b k => zbead w b k) r) c (hfo2 (fun b k => zbead w b k) 4 r h))), (0, .ref 0), (1, .long h)] [] (bHp w sv qo qm ql co sx T) x 0 0 := by
        intro u
        induction u with
        | zero =>
          intro c hc
          have e : c = 4 := by omega
          subst e
          refine xw_iload 22 dX4_hashOfBeads_20 rfl rfl ?_
          refine xw_iconst 23 (nI 4) dX4_hashOfBeads_22 rfl (xofI 4) ?_
          refine xw_icmp_ge 49 26 dX4_hashOfBeads_23 rfl rfl (fun h23 => ?_) (fun h23 => absurd (nI_le (by omega) (by omega)) h23)
          refine xw_iinc (ls' := [(5, _), (6, _), (3, _), (0, _), (1, _)]) 52 _ dX4_hashOfBeads_49 rfl rfl (xnI_inc _) rfl rfl ?_
          refine xw_goto 5 dX4_hashOfBeads_52 rfl ?_
          exact xW.pick [0, 2, 3, 4] rfl (ih)
        | succ u ih2 =>
          intro c hc
          have ih2 := ih2 (c + 1) (by omega)
          refine xw_iload 22 dX4_hashOfBeads_20 rfl rfl ?_
          refine xw_iconst 23 (nI 4) dX4_hashOfBeads_22 rfl (xofI 4) ?_
          refine xw_icmp_ge 49 26 dX4_hashOfBeads_23 rfl rfl (fun h23 => absurd h23 (nI_ge (by omega) (by omega))) (fun h23 => ?_)
          refine xw_lload_n 27 dX4_hashOfBeads_26 rfl rfl ?_
          refine xw_aload_n 28 dX4_hashOfBeads_27 rfl rfl rfl ?_
          refine xw_get 31 dX4_hashOfBeads_28 rfl f_X4_10 (rfl) rfl ?_
          refine xw_iload 33 dX4_hashOfBeads_31 rfl rfl ?_
          refine xw_iload 35 dX4_hashOfBeads_33 rfl rfl ?_
          refine xw_pVN 38 dX4_hashOfBeads_35 rfl ok_W_beadNumber s_X4_226 (S_W_beadNumber bHp_wk I (by omega) (by omega)) (bHp_len) (rfl) rfl rfl rfl rfl rfl rfl rfl ?_
          refine xw_i2l 39 dX4_hashOfBeads_38 rfl ?_
          refine xw_pS 42 dX4_hashOfBeads_39 rfl ok_B_mixed s_X4_273 (S_B_mixed) (bHp_len) rfl rfl rfl rfl rfl rfl ?_
          refine xw_lstore_n (ls' := [(3, _), (6, _), (5, _), (0, _), (1, _)]) 43 dX4_hashOfBeads_42 rfl rfl rfl ?_
          refine xw_iinc (ls' := [(6, _), (3, _), (5, _), (0, _), (1, _)]) 46 _ dX4_hashOfBeads_43 rfl rfl (xnI_inc _) rfl rfl ?_
          refine xw_goto 20 dX4_hashOfBeads_46 rfl ?_
          exact xW.pick [0, 2, 1, 3, 4] rfl (ih2)
      refine xw_iload 7 dX4_hashOfBeads_5 rfl rfl ?_
      refine xw_aload_n 8 dX4_hashOfBeads_7 rfl rfl rfl ?_
      refine xw_get 11 dX4_hashOfBeads_8 rfl f_X4_10 (rfl) rfl ?_
      refine xw_get 14 dX4_hashOfBeads_11 rfl f_X4_149 (rfl) rfl ?_
      refine xw_icmp_ge 55 17 dX4_hashOfBeads_14 rfl rfl (fun h14 => absurd h14 (by rw [M1]; exact nI_ge (by omega) (by omega))) (fun h14 => ?_)
      refine xw_iconst 18 (nI 0) dX4_hashOfBeads_17 rfl (xofI 0) ?_
      refine xw_istore (ls' := [(6, _), (5, _), (3, _), (0, _), (1, _)]) 20 dX4_hashOfBeads_18 rfl rfl rfl ?_
      exact xW.pick [0, 1, 2, 3, 4] rfl (inner 4 0 (Nat.zero_add _))
  refine xw_lload_n 1 dX4_hashOfBeads_0 rfl rfl ?_
  refine xw_lstore_n (ls' := [(3, _), (0, _), (1, _)]) 2 dX4_hashOfBeads_1 rfl rfl rfl ?_
  refine xw_iconst 3 (nI 0) dX4_hashOfBeads_2 rfl (xofI 0) ?_
  refine xw_istore (ls' := [(5, _), (3, _), (0, _), (1, _)]) 5 dX4_hashOfBeads_3 rfl rfl rfl ?_
  exact xW.pick [0, 1, 2, 3] rfl (outer (zI w 6) 0 (Nat.zero_add _))
theorem S_B_hashOfStrings {h : Int64} (I : xInv w) : xMet G B_hashOfStrings [.ref 0, .long h] (bHp w sv qo qm ql co sx T) x 0 0 (xRetV (.long (hfo2 (fun b k => zstrand w b k) 4 (zI w 7) h)) (bHp w sv qo qm ql co sx T)) := by
  obtain ⟨M1, M2, M3⟩ := I.iK
  have outer : ∀ (t r : Nat), r + t = (zI w 7) → xW G B_hashOfStrings (xRetV (.long (hfo2 (fun b k => zstrand w b k) 4 (zI w 7) h)) (bHp w sv qo qm ql co sx T)) 5 [(5, .int (nI r)), (3, .long (hfo2 (fun b k => zstrand w b k) 4 r h)), (0, .ref 0), (1, .long h)] [] (bHp w sv qo qm ql co sx T) x 0 0 := by
    intro t
    induction t with
    | zero =>
      intro r hr
      have e : r = (zI w 7) := by omega
      subst e
      refine xw_iload 7 dX4_hashOfStrings_5 rfl rfl ?_
      refine xw_aload_n 8 dX4_hashOfStrings_7 rfl rfl rfl ?_
      refine xw_get 11 dX4_hashOfStrings_8 rfl f_X4_10 (rfl) rfl ?_
      refine xw_get 14 dX4_hashOfStrings_11 rfl f_X4_161 (rfl) rfl ?_
      refine xw_icmp_ge 55 17 dX4_hashOfStrings_14 rfl rfl (fun h14 => ?_) (fun h14 => absurd (by rw [M1]; exact nI_le (by omega) (by omega)) h14)
      refine xw_lload_n 56 dX4_hashOfStrings_55 rfl rfl ?_
      exact xw_lreturn dX4_hashOfStrings_56 rfl (⟨rfl, rfl⟩)
    | succ t ih =>
      intro r hr
      have ih := ih (r + 1) (by omega)
      have inner : ∀ (u c : Nat), c + u = 4 → xW G B_hashOfStrings (xRetV (.long (hfo2 (fun b k => zstrand w b k) 4 (zI w 7) h)) (bHp w sv qo qm ql co sx T)) 20 [(6, .int (nI c)), (5, .int (nI r)), (3, .long (hfo ((fun b k => zstrand w b k) r) c (hfo2 (fun b k => zstrand w b k) 4 r h))), (0, .ref 0), (1, .long h)] [] (bHp w sv qo qm ql co sx T) x 0 0 := by
        intro u
        induction u with
        | zero =>
          intro c hc
          have e : c = 4 := by omega
          subst e
          refine xw_iload 22 dX4_hashOfStrings_20 rfl rfl ?_
          refine xw_iconst 23 (nI 4) dX4_hashOfStrings_22 rfl (xofI 4) ?_
          refine xw_icmp_ge 49 26 dX4_hashOfStrings_23 rfl rfl (fun h23 => ?_) (fun h23 => absurd (nI_le (by omega) (by omega)) h23)
          refine xw_iinc (ls' := [(5, _), (6, _), (3, _), (0, _), (1, _)]) 52 _ dX4_hashOfStrings_49 rfl rfl (xnI_inc _) rfl rfl ?_
          refine xw_goto 5 dX4_hashOfStrings_52 rfl ?_
          exact xW.pick [0, 2, 3, 4] rfl (ih)
        | succ u ih2 =>
          intro c hc
          have ih2 := ih2 (c + 1) (by omega)
          refine xw_iload 22 dX4_hashOfStrings_20 rfl rfl ?_
          refine xw_iconst 23 (nI 4) dX4_hashOfStrings_22 rfl (xofI 4) ?_
          refine xw_icmp_ge 49 26 dX4_hashOfStrings_23 rfl rfl (fun h23 => absurd h23 (nI_ge (by omega) (by omega))) (fun h23 => ?_)
          refine xw_lload_n 27 dX4_hashOfStrings_26 rfl rfl ?_
          refine xw_aload_n 28 dX4_hashOfStrings_27 rfl rfl rfl ?_
          refine xw_get 31 dX4_hashOfStrings_28 rfl f_X4_10 (rfl) rfl ?_
          refine xw_iload 33 dX4_hashOfStrings_31 rfl rfl ?_
          refine xw_iload 35 dX4_hashOfStrings_33 rfl rfl ?_
          refine xw_pVN 38 dX4_hashOfStrings_35 rfl ok_W_stringNumber s_X4_231 (S_W_stringNumber bHp_wk I (by omega) (by omega)) (bHp_len) (rfl) rfl rfl rfl rfl rfl rfl rfl ?_
          refine xw_i2l 39 dX4_hashOfStrings_38 rfl ?_
          refine xw_pS 42 dX4_hashOfStrings_39 rfl ok_B_mixed s_X4_273 (S_B_mixed) (bHp_len) rfl rfl rfl rfl rfl rfl ?_
          refine xw_lstore_n (ls' := [(3, _), (6, _), (5, _), (0, _), (1, _)]) 43 dX4_hashOfStrings_42 rfl rfl rfl ?_
          refine xw_iinc (ls' := [(6, _), (3, _), (5, _), (0, _), (1, _)]) 46 _ dX4_hashOfStrings_43 rfl rfl (xnI_inc _) rfl rfl ?_
          refine xw_goto 20 dX4_hashOfStrings_46 rfl ?_
          exact xW.pick [0, 2, 1, 3, 4] rfl (ih2)
      refine xw_iload 7 dX4_hashOfStrings_5 rfl rfl ?_
      refine xw_aload_n 8 dX4_hashOfStrings_7 rfl rfl rfl ?_
      refine xw_get 11 dX4_hashOfStrings_8 rfl f_X4_10 (rfl) rfl ?_
      refine xw_get 14 dX4_hashOfStrings_11 rfl f_X4_161 (rfl) rfl ?_
      refine xw_icmp_ge 55 17 dX4_hashOfStrings_14 rfl rfl (fun h14 => absurd h14 (by rw [M1]; exact nI_ge (by omega) (by omega))) (fun h14 => ?_)
      refine xw_iconst 18 (nI 0) dX4_hashOfStrings_17 rfl (xofI 0) ?_
      refine xw_istore (ls' := [(6, _), (5, _), (3, _), (0, _), (1, _)]) 20 dX4_hashOfStrings_18 rfl rfl rfl ?_
      exact xW.pick [0, 1, 2, 3, 4] rfl (inner 4 0 (Nat.zero_add _))
  refine xw_lload_n 1 dX4_hashOfStrings_0 rfl rfl ?_
  refine xw_lstore_n (ls' := [(3, _), (0, _), (1, _)]) 2 dX4_hashOfStrings_1 rfl rfl rfl ?_
  refine xw_iconst 3 (nI 0) dX4_hashOfStrings_2 rfl (xofI 0) ?_
  refine xw_istore (ls' := [(5, _), (3, _), (0, _), (1, _)]) 5 dX4_hashOfStrings_3 rfl rfl rfl ?_
  exact xW.pick [0, 1, 2, 3] rfl (outer (zI w 7) 0 (Nat.zero_add _))
theorem S_B_hashOfColours {h : Int64} (I : xInv w) : xMet G B_hashOfColours [.ref 0, .long h] (bHp w sv qo qm ql co sx T) x 0 0 (xRetV (.long (hcol w 6 h)) (bHp w sv qo qm ql co sx T)) := by
  have outer : ∀ (t r : Nat), r + t = 6 → xW G B_hashOfColours (xRetV (.long (hcol w 6 h)) (bHp w sv qo qm ql co sx T)) 5 [(5, .int (nI r)), (3, .long (hcol w r h)), (0, .ref 0), (1, .long h)] [] (bHp w sv qo qm ql co sx T) x 0 0 := by
    intro t
    induction t with
    | zero =>
      intro r hr
      have e : r = 6 := by omega
      subst e
      refine xw_iload 7 dX4_hashOfColours_5 rfl rfl ?_
      refine xw_bipush 9 (nI 6) dX4_hashOfColours_7 rfl (by decide) ?_
      refine xw_icmp_ge 68 12 dX4_hashOfColours_9 rfl rfl (fun h9 => ?_) (fun h9 => absurd (by decide) h9)
      refine xw_lload_n 69 dX4_hashOfColours_68 rfl rfl ?_
      exact xw_lreturn dX4_hashOfColours_69 rfl (⟨rfl, rfl⟩)
    | succ t ih =>
      intro r hr
      have ih := ih (r + 1) (by omega)
      have inner : ∀ (u c : Nat), c + u = 6 → xW G B_hashOfColours (xRetV (.long (hcol w 6 h)) (bHp w sv qo qm ql co sx T)) 15 [(6, .int (nI c)), (5, .int (nI r)), (3, .long (hfo (zcolour w r) c (hcol w r h))), (0, .ref 0), (1, .long h)] [] (bHp w sv qo qm ql co sx T) x 0 0 := by
        intro u
        induction u with
        | zero =>
          intro c hc
          have e : c = 6 := by omega
          subst e
          refine xw_iload 17 dX4_hashOfColours_15 rfl rfl ?_
          refine xw_bipush 19 (nI 6) dX4_hashOfColours_17 rfl (by decide) ?_
          refine xw_icmp_ge 45 22 dX4_hashOfColours_19 rfl rfl (fun h19 => ?_) (fun h19 => absurd (by decide) h19)
          refine xw_lload_n 46 dX4_hashOfColours_45 rfl rfl ?_
          refine xw_aload_n 47 dX4_hashOfColours_46 rfl rfl rfl ?_
          refine xw_get 50 dX4_hashOfColours_47 rfl f_X4_10 (rfl) rfl ?_
          refine xw_iload 52 dX4_hashOfColours_50 rfl rfl ?_
          refine xw_bipush 54 (nI 60) dX4_hashOfColours_52 rfl (by decide) ?_
          refine xw_pVN 57 dX4_hashOfColours_54 rfl ok_W_neededBeads s_X4_249 (S_W_neededBeads bHp_wk I (by omega)) (bHp_len) (rfl) rfl rfl rfl rfl rfl rfl rfl ?_
          refine xw_i2l 58 dX4_hashOfColours_57 rfl ?_
          refine xw_pS 61 dX4_hashOfColours_58 rfl ok_B_mixed s_X4_273 (S_B_mixed) (bHp_len) rfl rfl rfl rfl rfl rfl ?_
          refine xw_lstore_n (ls' := [(3, _), (6, _), (5, _), (0, _), (1, _)]) 62 dX4_hashOfColours_61 rfl rfl rfl ?_
          refine xw_iinc (ls' := [(5, _), (3, _), (6, _), (0, _), (1, _)]) 65 _ dX4_hashOfColours_62 rfl rfl (xnI_inc _) rfl rfl ?_
          refine xw_goto 5 dX4_hashOfColours_65 rfl ?_
          exact xW.pick [0, 1, 3, 4] rfl (ih)
        | succ u ih2 =>
          intro c hc
          have ih2 := ih2 (c + 1) (by omega)
          refine xw_iload 17 dX4_hashOfColours_15 rfl rfl ?_
          refine xw_bipush 19 (nI 6) dX4_hashOfColours_17 rfl (by decide) ?_
          refine xw_icmp_ge 45 22 dX4_hashOfColours_19 rfl rfl (fun h19 => absurd h19 (nI_ge (by omega) (by omega))) (fun h19 => ?_)
          refine xw_lload_n 23 dX4_hashOfColours_22 rfl rfl ?_
          refine xw_aload_n 24 dX4_hashOfColours_23 rfl rfl rfl ?_
          refine xw_get 27 dX4_hashOfColours_24 rfl f_X4_10 (rfl) rfl ?_
          refine xw_iload 29 dX4_hashOfColours_27 rfl rfl ?_
          refine xw_iload 31 dX4_hashOfColours_29 rfl rfl ?_
          refine xw_pVN 34 dX4_hashOfColours_31 rfl ok_W_colourNumber s_X4_236 (S_W_colourNumber bHp_wk I (by omega) (by omega)) (bHp_len) (rfl) rfl rfl rfl rfl rfl rfl rfl ?_
          refine xw_i2l 35 dX4_hashOfColours_34 rfl ?_
          refine xw_pS 38 dX4_hashOfColours_35 rfl ok_B_mixed s_X4_273 (S_B_mixed) (bHp_len) rfl rfl rfl rfl rfl rfl ?_
          refine xw_lstore_n (ls' := [(3, _), (6, _), (5, _), (0, _), (1, _)]) 39 dX4_hashOfColours_38 rfl rfl rfl ?_
          refine xw_iinc (ls' := [(6, _), (3, _), (5, _), (0, _), (1, _)]) 42 _ dX4_hashOfColours_39 rfl rfl (xnI_inc _) rfl rfl ?_
          refine xw_goto 15 dX4_hashOfColours_42 rfl ?_
          exact xW.pick [0, 2, 1, 3, 4] rfl (ih2)
      refine xw_iload 7 dX4_hashOfColours_5 rfl rfl ?_
      refine xw_bipush 9 (nI 6) dX4_hashOfColours_7 rfl (by decide) ?_
      refine xw_icmp_ge 68 12 dX4_hashOfColours_9 rfl rfl (fun h9 => absurd h9 (nI_ge (by omega) (by omega))) (fun h9 => ?_)
      refine xw_iconst 13 (nI 0) dX4_hashOfColours_12 rfl (xofI 0) ?_
      refine xw_istore (ls' := [(6, _), (5, _), (3, _), (0, _), (1, _)]) 15 dX4_hashOfColours_13 rfl rfl rfl ?_
      exact xW.pick [0, 1, 2, 3, 4] rfl (inner 6 0 rfl)
  refine xw_lload_n 1 dX4_hashOfColours_0 rfl rfl ?_
  refine xw_lstore_n (ls' := [(3, _), (0, _), (1, _)]) 2 dX4_hashOfColours_1 rfl rfl rfl ?_
  refine xw_iconst 3 (nI 0) dX4_hashOfColours_2 rfl (xofI 0) ?_
  refine xw_istore (ls' := [(5, _), (3, _), (0, _), (1, _)]) 5 dX4_hashOfColours_3 rfl rfl rfl ?_
  exact xW.pick [0, 1, 2, 3] rfl (outer 6 0 rfl)
/-- the plans in a digest -/
def hpla (z : Nat → Int32) (h : Int64) : Int64 := hfo (fun s => zplan z 120 (some s)) 8 (hmx h (zplan z 120 none))
theorem S_B_hashOfPlans {h : Int64} (I : xInv w) : xMet G B_hashOfPlans [.ref 0, .long h] (bHp w sv qo qm ql co sx T) x 0 0 (xRetV (.long (hpla w h)) (bHp w sv qo qm ql co sx T)) := by
  have outer : ∀ (t r : Nat), r + t = 8 → xW G B_hashOfPlans (xRetV (.long (hpla w h)) (bHp w sv qo qm ql co sx T)) 19 [(5, .int (nI r)), (3, .long (hfo (fun s => zplan w 120 (some s)) r (hmx h (zplan w 120 none)))), (0, .ref 0), (1, .long h)] [] (bHp w sv qo qm ql co sx T) x 0 0 := by
    intro t
    induction t with
    | zero =>
      intro r hr
      have e : r = 8 := by omega
      subst e
      refine xw_iload 21 dX4_hashOfPlans_19 rfl rfl ?_
      refine xw_bipush 23 (nI 8) dX4_hashOfPlans_21 rfl (by decide) ?_
      refine xw_icmp_ge 49 26 dX4_hashOfPlans_23 rfl rfl (fun h23 => ?_) (fun h23 => absurd (by decide) h23)
      refine xw_lload_n 50 dX4_hashOfPlans_49 rfl rfl ?_
      exact xw_lreturn dX4_hashOfPlans_50 rfl (⟨rfl, rfl⟩)
    | succ t ih =>
      intro r hr
      have ih := ih (r + 1) (by omega)
      refine xw_iload 21 dX4_hashOfPlans_19 rfl rfl ?_
      refine xw_bipush 23 (nI 8) dX4_hashOfPlans_21 rfl (by decide) ?_
      refine xw_icmp_ge 49 26 dX4_hashOfPlans_23 rfl rfl (fun h23 => absurd h23 (nI_ge (by omega) (by omega))) (fun h23 => ?_)
      refine xw_lload_n 27 dX4_hashOfPlans_26 rfl rfl ?_
      refine xw_aload_n 28 dX4_hashOfPlans_27 rfl rfl rfl ?_
      refine xw_get 31 dX4_hashOfPlans_28 rfl f_X4_10 (rfl) rfl ?_
      refine xw_bipush 33 (nI 120) dX4_hashOfPlans_31 rfl (by decide) ?_
      refine xw_iload 35 dX4_hashOfPlans_33 rfl rfl ?_
      refine xw_pVN 38 dX4_hashOfPlans_35 rfl ok_W_plannedNumber s_X4_254 (S_W_plannedNumber (T := 120) (s := some r) bHp_wk I (by omega) (fun k hk => by cases hk; omega)) (bHp_len) (rfl) rfl rfl rfl rfl rfl rfl rfl ?_
      refine xw_i2l 39 dX4_hashOfPlans_38 rfl ?_
      refine xw_pS 42 dX4_hashOfPlans_39 rfl ok_B_mixed s_X4_273 (S_B_mixed) (bHp_len) rfl rfl rfl rfl rfl rfl ?_
      refine xw_lstore_n (ls' := [(3, _), (5, _), (0, _), (1, _)]) 43 dX4_hashOfPlans_42 rfl rfl rfl ?_
      refine xw_iinc (ls' := [(5, _), (3, _), (0, _), (1, _)]) 46 _ dX4_hashOfPlans_43 rfl rfl (xnI_inc _) rfl rfl ?_
      refine xw_goto 19 dX4_hashOfPlans_46 rfl ?_
      exact xW.pick [0, 1, 2, 3] rfl (ih)
  refine xw_lload_n 1 dX4_hashOfPlans_0 rfl rfl ?_
  refine xw_aload_n 2 dX4_hashOfPlans_1 rfl rfl rfl ?_
  refine xw_get 5 dX4_hashOfPlans_2 rfl f_X4_10 (rfl) rfl ?_
  refine xw_bipush 7 (nI 120) dX4_hashOfPlans_5 rfl (by decide) ?_
  refine xw_iconst 8 (-1) dX4_hashOfPlans_7 rfl rfl ?_
  refine xw_pVN 11 dX4_hashOfPlans_8 rfl ok_W_plannedNumber s_X4_254 (S_W_plannedNumber (T := 120) (s := none) bHp_wk I (by omega) (fun k hk => by cases hk)) (bHp_len) (rfl) rfl rfl rfl rfl rfl rfl rfl ?_
  refine xw_i2l 12 dX4_hashOfPlans_11 rfl ?_
  refine xw_pS 15 dX4_hashOfPlans_12 rfl ok_B_mixed s_X4_273 (S_B_mixed) (bHp_len) rfl rfl rfl rfl rfl rfl ?_
  refine xw_lstore_n (ls' := [(3, _), (0, _), (1, _)]) 16 dX4_hashOfPlans_15 rfl rfl rfl ?_
  refine xw_iconst 17 (nI 0) dX4_hashOfPlans_16 rfl (xofI 0) ?_
  refine xw_istore (ls' := [(5, _), (3, _), (0, _), (1, _)]) 19 dX4_hashOfPlans_17 rfl rfl rfl ?_
  exact xW.pick [0, 1, 2, 3] rfl (outer 8 0 rfl)
theorem S_B_hashOfBuffer {h : Int64} {ln : Nat} (hl : ln ≤ 60) : xMet G B_hashOfBuffer [.ref 0, .long h] (bHp w sv qo qm (nI ln) co sx T) x 0 0 (xRetV (.long (hfo co ln (hmx h (nI ln)))) (bHp w sv qo qm (nI ln) co sx T)) := by
  have outer : ∀ (t r : Nat), r + t = ln → xW G B_hashOfBuffer (xRetV (.long (hfo co ln (hmx h (nI ln)))) (bHp w sv qo qm (nI ln) co sx T)) 16 [(5, .int (nI r)), (3, .long (hfo co r (hmx h (nI ln)))), (0, .ref 0), (1, .long h)] [] (bHp w sv qo qm (nI ln) co sx T) x 0 0 := by
    intro t
    induction t with
    | zero =>
      intro r hr
      have e : r = ln := by omega
      subst e
      refine xw_iload 18 dX4_hashOfBuffer_16 rfl rfl ?_
      refine xw_aload_n 19 dX4_hashOfBuffer_18 rfl rfl rfl ?_
      refine xw_get 22 dX4_hashOfBuffer_19 rfl f_X4_26 (rfl) rfl ?_
      refine xw_get 25 dX4_hashOfBuffer_22 rfl f_X4_191 (rfl) rfl ?_
      refine xw_icmp_ge 52 28 dX4_hashOfBuffer_25 rfl rfl (fun h25 => ?_) (fun h25 => absurd (nI_le (by omega) (by omega)) h25)
      refine xw_lload_n 53 dX4_hashOfBuffer_52 rfl rfl ?_
      exact xw_lreturn dX4_hashOfBuffer_53 rfl (⟨rfl, rfl⟩)
    | succ t ih =>
      intro r hr
      have ih := ih (r + 1) (by omega)
      refine xw_iload 18 dX4_hashOfBuffer_16 rfl rfl ?_
      refine xw_aload_n 19 dX4_hashOfBuffer_18 rfl rfl rfl ?_
      refine xw_get 22 dX4_hashOfBuffer_19 rfl f_X4_26 (rfl) rfl ?_
      refine xw_get 25 dX4_hashOfBuffer_22 rfl f_X4_191 (rfl) rfl ?_
      refine xw_icmp_ge 52 28 dX4_hashOfBuffer_25 rfl rfl (fun h25 => absurd h25 (nI_ge (by omega) (by omega))) (fun h25 => ?_)
      refine xw_lload_n 29 dX4_hashOfBuffer_28 rfl rfl ?_
      refine xw_aload_n 30 dX4_hashOfBuffer_29 rfl rfl rfl ?_
      refine xw_get 33 dX4_hashOfBuffer_30 rfl f_X4_26 (rfl) rfl ?_
      refine xw_get 36 dX4_hashOfBuffer_33 rfl f_X4_196 (rfl) rfl ?_
      refine xw_iload 38 dX4_hashOfBuffer_36 rfl rfl ?_
      refine xw_pS 41 dX4_hashOfBuffer_38 rfl ok_B_at s_X4_111 (S_B_at rfl (by decide) rfl (by omega)) (bHp_len) rfl rfl rfl rfl rfl rfl ?_
      refine xw_i2l 42 dX4_hashOfBuffer_41 rfl ?_
      refine xw_pS 45 dX4_hashOfBuffer_42 rfl ok_B_mixed s_X4_273 (S_B_mixed) (bHp_len) rfl rfl rfl rfl rfl rfl ?_
      refine xw_lstore_n (ls' := [(3, _), (5, _), (0, _), (1, _)]) 46 dX4_hashOfBuffer_45 rfl rfl rfl ?_
      refine xw_iinc (ls' := [(5, _), (3, _), (0, _), (1, _)]) 49 _ dX4_hashOfBuffer_46 rfl rfl (xnI_inc _) rfl rfl ?_
      refine xw_goto 16 dX4_hashOfBuffer_49 rfl ?_
      exact xW.pick [0, 1, 2, 3] rfl (ih)
  refine xw_lload_n 1 dX4_hashOfBuffer_0 rfl rfl ?_
  refine xw_aload_n 2 dX4_hashOfBuffer_1 rfl rfl rfl ?_
  refine xw_get 5 dX4_hashOfBuffer_2 rfl f_X4_26 (rfl) rfl ?_
  refine xw_get 8 dX4_hashOfBuffer_5 rfl f_X4_191 (rfl) rfl ?_
  refine xw_i2l 9 dX4_hashOfBuffer_8 rfl ?_
  refine xw_pS 12 dX4_hashOfBuffer_9 rfl ok_B_mixed s_X4_273 (S_B_mixed) (bHp_len) rfl rfl rfl rfl rfl rfl ?_
  refine xw_lstore_n (ls' := [(3, _), (0, _), (1, _)]) 13 dX4_hashOfBuffer_12 rfl rfl rfl ?_
  refine xw_iconst 14 (nI 0) dX4_hashOfBuffer_13 rfl (xofI 0) ?_
  refine xw_istore (ls' := [(5, _), (3, _), (0, _), (1, _)]) 16 dX4_hashOfBuffer_14 rfl rfl rfl ?_
  exact xW.pick [0, 1, 2, 3] rfl (outer ln 0 (Nat.zero_add _))
theorem S_B_firstWrong (I : xInv w) : xMet G B_firstWrong [.ref 0] (bHp w sv qo qm ql co sx T) x 0 0 (xRetV (.int (xoI (xfnd (zwr w) 0 (zI w 6)))) (bHp w sv qo qm ql co sx T)) := by
  refine xw_aload_n 1 dX4_firstWrong_0 rfl rfl rfl ?_
  refine xw_get 4 dX4_firstWrong_1 rfl f_X4_10 (rfl) rfl ?_
  refine xw_pVN 7 dX4_firstWrong_4 rfl ok_W_firstWrongBead s_X4_257 (S_W_firstWrongBead bHp_wk I) (bHp_len) (rfl) rfl rfl rfl rfl rfl rfl rfl ?_
  exact xw_ireturn dX4_firstWrong_7 rfl (⟨rfl, rfl⟩)
theorem S_B_bestCrush (I : xInv w) : xMet G B_bestCrush [.ref 0] (bHp w sv qo qm ql co sx T) x 0 0 (xRetV (.int (nI (zkeep w (zI w 6)))) (bHp w sv qo qm ql co sx T)) := by
  refine xw_aload_n 1 dX4_bestCrush_0 rfl rfl rfl ?_
  refine xw_get 4 dX4_bestCrush_1 rfl f_X4_10 (rfl) rfl ?_
  refine xw_pVN 7 dX4_bestCrush_4 rfl ok_W_rightByCrushing s_X4_261 (S_W_rightByCrushing bHp_wk I) (bHp_len) (rfl) rfl rfl rfl rfl rfl rfl rfl ?_
  exact xw_ireturn dX4_bestCrush_7 rfl (⟨rfl, rfl⟩)
theorem S_B_wrongShare (I : xInv w) : xMet G B_wrongShare [.ref 0] (bHp w sv qo qm ql co sx T) x 0 0 (xRetV (.double (zshare w)) (bHp w sv qo qm ql co sx T)) := by
  obtain ⟨M1, M2, M3⟩ := I.iM
  have hn := zshare_nn I
  unfold zshare at *
  by_cases h0 : zI w 6 = 0
  · rw [if_pos h0]
    refine xw_aload_n 1 dX4_wrongShare_0 rfl rfl rfl ?_
    refine xw_get 4 dX4_wrongShare_1 rfl f_X4_10 (rfl) rfl ?_
    refine xw_get 7 dX4_wrongShare_4 rfl f_X4_149 (rfl) rfl ?_
    refine xw_iconst 8 (nI 1) dX4_wrongShare_7 rfl (xofI 1) ?_
    refine xw_icmp_ge 13 11 dX4_wrongShare_8 rfl rfl (fun h8 => absurd h8 (by rw [M1]; exact nI_ge (by omega) (by omega))) (fun h8 => ?_)
    refine xw_dconst0 12 dX4_wrongShare_11 rfl ?_
    exact xw_dreturn dX4_wrongShare_12 rfl (⟨rfl, rfl⟩)
  · rw [if_neg h0] at hn ⊢
    refine xw_aload_n 1 dX4_wrongShare_0 rfl rfl rfl ?_
    refine xw_get 4 dX4_wrongShare_1 rfl f_X4_10 (rfl) rfl ?_
    refine xw_get 7 dX4_wrongShare_4 rfl f_X4_149 (rfl) rfl ?_
    refine xw_iconst 8 (nI 1) dX4_wrongShare_7 rfl (xofI 1) ?_
    refine xw_icmp_ge 13 11 dX4_wrongShare_8 rfl rfl (fun h8 => ?_) (fun h8 => absurd (by rw [M1]; exact nI_le (by omega) (by omega)) h8)
    refine xw_aload_n 14 dX4_wrongShare_13 rfl rfl rfl ?_
    refine xw_get 17 dX4_wrongShare_14 rfl f_X4_10 (rfl) rfl ?_
    refine xw_iconst 18 (nI 0) dX4_wrongShare_17 rfl (xofI 0) ?_
    refine xw_aload_n 19 dX4_wrongShare_18 rfl rfl rfl ?_
    refine xw_get 22 dX4_wrongShare_19 rfl f_X4_10 (rfl) rfl ?_
    refine xw_get 25 dX4_wrongShare_22 rfl f_X4_149 (rfl) rfl ?_
    rw [M1]
    refine xw_pVN 28 dX4_wrongShare_25 rfl ok_W_wrongBetween s_X4_268 (S_W_wrongBetween bHp_wk I (by omega) (by omega)) (bHp_len) (rfl) rfl rfl rfl rfl rfl rfl rfl ?_
    refine xw_i2d 29 dX4_wrongShare_28 rfl ?_
    refine xw_aload_n 30 dX4_wrongShare_29 rfl rfl rfl ?_
    refine xw_get 33 dX4_wrongShare_30 rfl f_X4_10 (rfl) rfl ?_
    refine xw_get 36 dX4_wrongShare_33 rfl f_X4_149 (rfl) rfl ?_
    rw [M1]
    refine xw_i2d 37 dX4_wrongShare_36 rfl ?_
    refine xw_ddiv 38 dX4_wrongShare_37 rfl (hn) ?_
    exact xw_dreturn dX4_wrongShare_38 rfl (⟨rfl, rfl⟩)
end P25

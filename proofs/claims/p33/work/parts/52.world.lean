/-! THE CLAIM OUT OF ONE WALK OF THE LAW'S BODY. Your part is whole_start (and what it stands on); all else here is the same for every law, but numbers. -/
def R_law : String := "BeadSpiralsLaw"
def lw_P (b : Addr) (xs : List Int32) (args : Array Value) (s : State) : Prop := args = #[.ref b] ∧ s.IntsAt b xs ∧ xs.length ≤ 260 ∧ (Jvm.Cond.and given_1 narrow_1).before args s = true
def lw_Q (_ : Array Value) (s : State) (o : Outcome) (t : State) : Prop := o = .returned (some (.int 1)) ∧ Framed s o t [] 600172 7300668
def lw_Z (below : List Frame) (a : Array Value) (s : State) : State → Prop := fun t => ∃ o, t.status = .running ∧ Ended t below o ∧ lw_Q a s o t
/-- what holds at the law's entry: the machine, the code, the tables' words (any of lw_tbl by 'hts w (by decide +kernel)'), the script of L ints xs at the cell b, what the Statement gives of the start (any of its parts by flat_of_before) -/
def lw_At (p : Program) (s : State) (m : MethodId) (meth : Method) (c : Code) (b L : Nat) (xs : Nat → Int32) : Prop :=
  p.tables.exec = Jvm.exec ∧ c.code = code ∧ meth.sig.returnType = ret ∧ c.maxLocals = 11 ∧ s.vm.findClass R_law = some m.cls ∧ (∀ w ∈ lw_tbl, w.before #[Value.ref b] s = true) ∧ va_X b L xs s s.heap ∧ b < s.heap.size ∧ meth.locks = false ∧ (Jvm.Cond.and given_1 narrow_1).before #[Value.ref b] s = true
/-! ===== the world at the law's entry ===== -/
theorem lw_strs : ∀ (own : String) (k : Nat) (tx : String), Cond.stringRef own k tx ∈ lw_tbl → Cond.exactly (.string own k) "java/lang/String" ∈ flatC (Jvm.Cond.and given_1 narrow_1) := by
  intro own k tx h
  have h0 : (lw_tbl.all fun w => match w with | .stringRef o i _ => decide (Cond.exactly (.string o i) "java/lang/String" ∈ flatC (Jvm.Cond.and given_1 narrow_1)) | _ => true) = true := by decide +kernel
  exact of_decide_eq_true (List.all_eq_true.mp h0 _ h)
theorem lw_nocs : ∀ q ∈ xNoc, Cond.not (.castable q.1 q.2) ∈ flatC (Jvm.Cond.and given_1 narrow_1) := fun q h => absurd h List.not_mem_nil
theorem lw_arrI {s : State} {args : Array Value} (h : (Cond.arrayClass .int).before args s = true) : ∃ cA, ArrOfT s cA .int ∧ va_RA s cA .int := by
  obtain ⟨c, k, comp, h1, h2, h3⟩ := Cond.arrayClass_spec h
  exact ⟨c, fun n z => ⟨(fun k h => by cases h), k, h2, comp, h3⟩, h1⟩
theorem lw_arrO {s : State} {args : Array Value} {C : String} (h : (Cond.arrayOver (.object C)).before args s = true) : ∃ cA, ArrOfT s cA (.object C) ∧ va_RA s cA (.object C) := by
  obtain ⟨comp, c, k, h1, -, h3, h4, h5⟩ := Cond.arrayOver_spec h
  exact ⟨c, fun n z => ⟨(fun k h => by cases h), k, h3, comp, h4⟩, k, comp, h3, h4, h1, h5⟩
def lw_v (p q r t : Int32) : Nat → Int32 := fun k => if k = 0 then p else if k = 1 then q else if k = 2 then r else t
theorem lw_row {s : State} {args : Array Value} {nm : String} {v : Nat → Int32} (hl : (Cond.laysStatic RX4 nm "[I").before args s = true) (hini : (Cond.initialized RX4).before args s = true) (hr : (Cond.arrayOf (.static RX4 nm "[I") .int).before args s = true) (hn : (Cond.eq (.length (.static RX4 nm "[I")) (.int 4)).before args s = true) (he : ∀ j, j < 4 → (Cond.eq (.elem (.static RX4 nm "[I") (.int (Int32.ofNat j))) (.int (v j))).before args s = true) : ∃ t : Nat, va_T .int t 4 (fun k => .int (v k)) (fun q => s.heap.size ≤ q) s s.heap ∧ va_Z RX4 nm "[I" (.ref t) (fun q => s.heap.size ≤ q) s s.heap := by
  obtain ⟨t, ht, hT⟩ := va_Tof (f := fun k => .int (v k)) (A := fun q => s.heap.size ≤ q) (N := 4) (by decide) hr (va_eqt hn) (fun j hj => va_eqt (he j hj)) (fun a h => Nat.not_le.mpr h)
  exact ⟨t, hT, va_Zref hl hini ht (fun a h => Nat.not_le.mpr h)⟩
theorem lw_world {p : Program} {s : State} {m : MethodId} {meth : Method} {c : Code} {b L : Nat} {xs : Nat → Int32} (C0 : lw_At p s m meth c b L xs) : ∃ G : xG, xEnv G s ∧ xRO G s s.heap ∧ xSta G ∧ (xgr G 0).1 = L ∧ xgo G 0 = b ∧ xgb G = s.heap.size := by
  obtain ⟨-, -, -, -, -, hts, hX, hbl, -, hgv⟩ := id C0
  have hq := flat_of_before _ hgv
  have hA : ∀ a : Nat, a < s.heap.size → ¬ (fun q : Nat => s.heap.size ≤ q) a := fun a h => Nat.not_le.mpr h
  obtain ⟨c0, i0, k0⟩ := u_known (C := RX0) (T := TX0) (N := 3) (n := 3) hts (fun w h => (xin0 w h).1) (hts (.instantiable RX0 3) (List.mem_of_getElem? (i := 65) (by decide +kernel)))
  obtain ⟨c1, i1, k1⟩ := u_known (C := RX1) (T := TX1) (N := 3) (n := 3) hts (fun w h => (xin1 w h).1) (hts (.instantiable RX1 3) (List.mem_of_getElem? (i := 132) (by decide +kernel)))
  obtain ⟨c2, i2, k2⟩ := u_known (C := RX2) (T := TX2) (N := 2) (n := 2) hts (fun w h => (xin2 w h).1) (hts (.instantiable RX2 2) (List.mem_of_getElem? (i := 152) (by decide +kernel)))
  obtain ⟨c3, i3, k3⟩ := u_known (C := RX3) (T := TX3) (N := 10) (n := 10) hts (fun w h => (xin3 w h).1) (hts (.instantiable RX3 10) (List.mem_of_getElem? (i := 59) (by decide +kernel)))
  obtain ⟨c4, i4, k4⟩ := u_known (C := RX4) (T := TX4) (N := 5) (n := 5) hts (fun w h => (xin4 w h).1) (hts (.instantiable RX4 5) (List.mem_of_getElem? (i := 51) (by decide +kernel)))
  obtain ⟨a0, ra0, rb0⟩ := lw_arrI (hts _ (List.mem_of_getElem? (i := 85) (by decide +kernel)))
  obtain ⟨a1, ra1, rb1⟩ := lw_arrO (C := RX3) (hts _ (List.mem_of_getElem? (i := 138) (by decide +kernel)))
  have e1 : ∀ j, j < 4 → (Cond.eq (.elem (.static RX4 "FIRST_VALUE" "[I") (.int (Int32.ofNat j))) (.int (lw_v (nI 6) (nI 1) (nI 40) (nI 0) j))).before #[Value.ref b] s = true := by
    intro j hj
    rcases (show j = 0 ∨ j = 1 ∨ j = 2 ∨ j = 3 by omega) with rfl | rfl | rfl | rfl
    · exact hq _ (by decide +kernel)
    · exact hq _ (by decide +kernel)
    · exact hq _ (by decide +kernel)
    · exact hq _ (by decide +kernel)
  obtain ⟨t1, hT1, hZ1⟩ := lw_row (nm := "FIRST_VALUE") (hts _ (List.mem_of_getElem? (i := 87) (by decide +kernel))) (hts _ (List.mem_of_getElem? (i := 38) (by decide +kernel))) (hq _ (by decide +kernel)) (hq _ (by decide +kernel)) e1
  have e2 : ∀ j, j < 4 → (Cond.eq (.elem (.static RX4 "LEAST_VALUE" "[I") (.int (Int32.ofNat j))) (.int (lw_v (nI 3) (nI 0) (nI 5) (nI 0) j))).before #[Value.ref b] s = true := by
    intro j hj
    rcases (show j = 0 ∨ j = 1 ∨ j = 2 ∨ j = 3 by omega) with rfl | rfl | rfl | rfl
    · exact hq _ (by decide +kernel)
    · exact hq _ (by decide +kernel)
    · exact hq _ (by decide +kernel)
    · exact hq _ (by decide +kernel)
  obtain ⟨t2, hT2, hZ2⟩ := lw_row (nm := "LEAST_VALUE") (hts _ (List.mem_of_getElem? (i := 490) (by decide +kernel))) (hts _ (List.mem_of_getElem? (i := 38) (by decide +kernel))) (hq _ (by decide +kernel)) (hq _ (by decide +kernel)) e2
  have e3 : ∀ j, j < 4 → (Cond.eq (.elem (.static RX4 "GREATEST_VALUE" "[I") (.int (Int32.ofNat j))) (.int (lw_v (nI 15) (nI 11) (nI 240) (nI 5) j))).before #[Value.ref b] s = true := by
    intro j hj
    rcases (show j = 0 ∨ j = 1 ∨ j = 2 ∨ j = 3 by omega) with rfl | rfl | rfl | rfl
    · exact hq _ (by decide +kernel)
    · exact hq _ (by decide +kernel)
    · exact hq _ (by decide +kernel)
    · exact hq _ (by decide +kernel)
  obtain ⟨t3, hT3, hZ3⟩ := lw_row (nm := "GREATEST_VALUE") (hts _ (List.mem_of_getElem? (i := 492) (by decide +kernel))) (hts _ (List.mem_of_getElem? (i := 38) (by decide +kernel))) (hq _ (by decide +kernel)) (hq _ (by decide +kernel)) e3
  refine ⟨((fun k => if k = 0 then c0 else if k = 1 then c1 else if k = 2 then c2 else if k = 3 then c3 else c4, fun k => if k = 0 then i0 else if k = 1 then i1 else if k = 2 then i2 else if k = 3 then i3 else i4), (fun k => if k = 0 then a0 else a1), s.heap.size, (fun k => if k = 0 then b else if k = 1 then t1 else if k = 2 then t2 else t3), fun k => if k = 0 then (L, xs) else if k = 1 then (4, lw_v (nI 6) (nI 1) (nI 40) (nI 0)) else if k = 2 then (4, lw_v (nI 3) (nI 0) (nI 5) (nI 0)) else (4, lw_v (nI 15) (nI 11) (nI 240) (nI 5))), ⟨⟨?_, ?_⟩, ?_, ?_, ?_, ?_, ?_⟩, ⟨?_, ⟨hZ1, hZ2, hZ3⟩, ?_, ?_⟩, ⟨⟨rfl, rfl, rfl, rfl, rfl⟩, ⟨rfl, rfl, rfl, rfl, rfl⟩, ⟨rfl, rfl, rfl, rfl, rfl⟩⟩, rfl, rfl, rfl⟩
  · intro k q h9
    match k, h9 with
    | 0, h9 => cases h9; exact k0
    | 1, h9 => cases h9; exact k1
    | 2, h9 => cases h9; exact k2
    | 3, h9 => cases h9; exact k3
    | 4, h9 => cases h9; exact k4
    | k + 5, h9 => simp [xCl] at h9
  · intro k q h9
    match k, h9 with
    | 0, h9 => cases h9; exact ⟨ra0, rb0⟩
    | 1, h9 => cases h9; exact ⟨ra1, rb1⟩
    | k + 2, h9 => simp [xTys] at h9
  · exact fun w hw hg a' => xGood_moved hg (State.WarmedH.refl s) (hts w hw)
  · intro w hw hn
    have h9 := hts w hw
    cases w <;> first | (cases hn; done) | exact va_Nw.of rfl h9
  · intro own k tx ht
    obtain ⟨a, _, _, _, h1, -⟩ := Cond.exactly_spec (hq _ (lw_strs own k tx ht))
    exact ⟨a, vk_R.of (hts _ ht) h1⟩
  · exact va_AO.of (hts _ (List.mem_of_getElem? (i := 138) (by decide +kernel)))
  · exact fun q h => va_Nc.of (hq _ (lw_nocs q h))
  · intro j hj
    rcases (show j = 0 ∨ j = 1 ∨ j = 2 ∨ j = 3 by omega) with rfl | rfl | rfl | rfl
    · obtain ⟨scr, x1, x2, x3, x4, x5⟩ := hX
      exact ⟨scr, x1, x2, x3, Nat.le_of_eq x4.symm, congrArg Nat.toInt32 x4, x5, hA b hbl⟩
    · exact hT1
    · exact hT2
    · exact hT3
  · exact vx_Zqof (hts _ (List.mem_of_getElem? (i := 231) (by decide +kernel))) (hts _ (List.mem_of_getElem? (i := 43) (by decide +kernel))) (hq _ (by decide +kernel)) hA
  · exact vx_Zqof (hts _ (List.mem_of_getElem? (i := 233) (by decide +kernel))) (hts _ (List.mem_of_getElem? (i := 43) (by decide +kernel))) (hq _ (by decide +kernel)) hA

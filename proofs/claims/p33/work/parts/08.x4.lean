/-! ===== xw: contracts, calls, throws, catches ===== -/
def xPc (G : xG) (args : List Value) (hp : List xE) (k : Nat) : Array Value → State → Prop := fun av U => av = (args.map (xTr G)).toArray ∧ xEnv G U ∧ xRO G U U.heap ∧ va_P (xgD G) xCl (xWs G hp) U.heap ∧ U.heap.size ≤ k ∧ xgb G ≤ U.heap.size
theorem xPc_blind (G : xG) (args : List Value) (hp : List xE) (k : Nat) : FrameBlind (xPc G args hp k) := by
  intro a U g mk h
  obtain ⟨h1, h2, h3, h4, h5, h6⟩ := h
  exact ⟨h1, xEnv.moved (s := U) (U := U.calling g mk a) (State.WarmedH.refl U) h2, xRO.moved (u := U) (U := U.calling g mk a) (Vm.Alike.refl U.vm) h3, h4, h5, h6⟩
def xMok0 (Y : xM) (n : Nat) : Prop := plainName (xmN Y).cls = true ∧ Cond.initialized (xmN Y).cls ∈ lw_tbl ∧ ((xmN Y).cls ≠ "java/lang/invoke/MethodHandle" ∧ (xmN Y).cls ≠ "java/lang/invoke/VarHandle") ∧ (parseMethodDescriptor (xmN Y).desc).map (fun d => d.parameters.length) = some n
def xMok (Y : xM) (n : Nat) : Prop := xMok0 Y n ∧ Cond.code (xmN Y) (xmB Y) (xmL Y) (xmR Y) ∈ lw_tbl ∧ xmH Y = []
def xMokH (Y : xM) (n : Nat) : Prop := xMok0 Y n ∧ Cond.codeWith (xmN Y) (xmB Y) (xmL Y) (xmR Y) (xmH Y) ∈ lw_tbl
def xRm (Y : xM) (kc ks : Nat) : Room := { frames := xmF Y, cells := kc, slots := ks, locals := xmW Y }
section X4
variable {G : xG} {Y : xM} {Qx : xO → List xE → Prop} {pc : Nat} {ls : List (Nat × Value)} {st : List Value} {hp : List xE} {x kc ks : Nat}
theorem xEntry {ar : List Value} (ha : Nat.ble (lg_sl ar).length (xmL Y) = true) : lv_has ((lg_sl (ar.map (xTr G)) ++ List.replicate (xmL Y - (lg_sl (ar.map (xTr G))).length) Slot.unset).toArray) (xmL Y) (xLs G (lv_args 0 ar)) := by
  rw [← xArgs_eq]
  exact lv_entry _ (by rw [xSl_len]; exact Nat.le_of_ble_eq_true ha)
theorem xMet_vx {l : Launch} {n : Nat} {ar : List Value} (hok : xMok Y n) (hl : l.stackTraces = false) (ha : Nat.ble (lg_sl ar).length (xmL Y) = true) (h : xMet G Y ar hp x kc ks Qx) : vx_Met l (xmN Y) [Cond.code (xmN Y) (xmB Y) (xmL Y) (xmR Y)] (xRm Y kc ks) (xPc G ar hp (xgb G + hp.length)) (xQc G Qx) (xXC G Qx) kc ks (xAA G) := by
  refine vx_ofW (cc := xmB Y) (maxL := xmL Y) (ret := xmR Y) hok.1.1 rfl ?_
  intro p e s m args9 below meth c s₁ B hml ht hP
  obtain ⟨rfl, hE, hO, hPP, hsz, hlo⟩ := hP
  have htb : c.exceptionTable.toList = tableOf (xmH Y) := by
    rw [hok.2.2]
    cases hx : c.exceptionTable.toList with
    | nil => rfl
    | cons a b => exact (ht a (by rw [hx]; exact List.mem_cons_self)).elim
  have F : xFr G Y p l (xRm Y kc ks) s m meth c := ⟨B.exec, B.bytes, hml, B.returns, findClass_of_methodNamed B.named, B.notSynchronized, htb, (name_of_methodNamed B.named B.method).1, hE, hO, Nat.le_refl _, Nat.le_refl _, hl, hlo⟩
  rw [lg_entry_eq]
  exact h p l e (xRm Y kc ks) s m _ below meth c _ s.heap [] 0 0 F (xEntry ha) ⟨hPP, hsz⟩ va_S.rf (Nat.le_of_eq (Nat.zero_add _)) (Nat.le_of_eq (Nat.zero_add _))
theorem xMet_vxH {l : Launch} {n : Nat} {ar : List Value} (hok : xMokH Y n) (hl : l.stackTraces = false) (ha : Nat.ble (lg_sl ar).length (xmL Y) = true) (h : xMet G Y ar hp x kc ks Qx) : vx_Met l (xmN Y) [Cond.codeWith (xmN Y) (xmB Y) (xmL Y) (xmR Y) (xmH Y)] (xRm Y kc ks) (xPc G ar hp (xgb G + hp.length)) (xQc G Qx) (xXC G Qx) kc ks (xAA G) := by
  refine vx_ofWH (cc := xmB Y) (maxL := xmL Y) (ret := xmR Y) (hh := xmH Y) hok.1.1 rfl ?_
  intro p e s m args9 below meth c s₁ B hml hP
  obtain ⟨rfl, hE, hO, hPP, hsz, hlo⟩ := hP
  have htb : c.exceptionTable.toList = tableOf (xmH Y) := vx_table (x := xmN Y) B (hE.w hok.2 (Or.inl ⟨rfl, rfl⟩))
  have F : xFr G Y p l (xRm Y kc ks) s m meth c := ⟨B.exec, B.bytes, hml, B.returns, findClass_of_methodNamed B.named, B.notSynchronized, htb, (name_of_methodNamed B.named B.method).1, hE, hO, Nat.le_refl _, Nat.le_refl _, hl, hlo⟩
  rw [lg_entry_eq]
  exact h p l e (xRm Y kc ks) s m _ below meth c _ s.heap [] 0 0 F (xEntry ha) ⟨hPP, hsz⟩ va_S.rf (Nat.le_of_eq (Nat.zero_add _)) (Nat.le_of_eq (Nat.zero_add _))
/-- a contract without throws -/
theorem xMet_no {l : Launch} {y : MethodName} {ws : List Cond} {rm : Room} {Pc : Array Value → State → Prop} {free : Addr → Prop} (h : vx_Met l y ws rm Pc (xQc G Qx) (xXC G Qx) kc ks free) (hnt : ∀ E hp', ¬ Qx (.inr E) hp') : Met l y ws rm Pc (xQc G Qx) kc ks free := by
  intro p e ha hc hk s m args below hf hap hP hK
  obtain ⟨n, o, h1, h2, h3, h4⟩ := h p e ha hc hk s m args below hf hap hP hK
  refine ⟨n, o, h1, h2, h3, ?_⟩
  rcases h4 with h4 | ⟨q, e1, E, ce, L, ⟨hp', e2, -⟩, -⟩
  · exact h4
  · exact (hnt E hp' e2).elim
theorem xRun_of {p : Program} {l : Launch} {e : Env} {R : Room} {s : State} {m : MethodId} {args : Array Value} {below : List Frame} {meth : Method} {c : Code} {H : Heap} {locs : List Loc} {cells slots mc ms : Nat} {g : JFrame} {rest : List Value} {Qa : State → Outcome → State → Prop} {XC : String → State → State → Prop} {free : Addr → Prop}
    (h : va_Run p l e R s m args below meth c H locs cells slots mc ms g rest Qa free) : vx_Run p l e R s m args below meth c H locs cells slots mc ms g rest Qa XC free := by
  intro T hT X
  exact Or.inl (h T hT X)
/-- behind a call -/
theorem xw_after {Qx' : xO → List xE → Prop} {kc' ks' kc0 ks0 x' : Nat} {a : Array Value} {stA : List Value} {p : Program} {l : Launch} {e : Env} {R : Room} {s : State} {m : MethodId} {args : Array Value} {below : List Frame} {meth : Method} {c : Code} {lsA : Array Slot} {H : Heap} {locs : List Loc} {cells slots : Nat}
    (F : xFr G Y p l R s m meth c) (hl : lv_has lsA (xmL Y) (xLs G ls)) (hH : xHp G hp x H (s.heap.size + cells)) (hS : va_S (xAA G) s.heap H locs) (hc : cells + kc ≤ R.cells) (hs : slots + ks ≤ R.slots) (hkc : kc = kc' + kc0) (hks : ks = ks' + ks0)
    (hr : vx_Run p l e R s m args below meth c H locs cells slots kc' ks' (F0 m pc lsA stA) (st.map (xTr G)) (xQc G Qx' a) (xXC G Qx') (xAA G))
    (hx : ∀ o hp', Qx' o hp' → hp.length + x + kc' ≤ hp'.length + x')
    (kk : ∀ ov hp', Qx' (.inl ov) hp' → xW G Y Qx (pc + 3) ls (ov.toList ++ st) hp' x' kc0 ks0) (kx : ∀ E hp', Qx' (.inr E) hp' → xT G Y Qx pc ls hp' x' E kc0 ks0) :
    W p l e R s m args below meth c H locs cells slots (xTg G Qx below args s R) (F0 m pc lsA stA) := by
  intro T hT X
  have hH2 := hH.2
  rcases hr T hT X with ⟨v, st₀, t, T', L, h0, X', hL, e1, e2, ⟨ov, hp', hv, hq, hP, hF, hz9⟩, stp⟩ | ⟨q, st₀, t, T', L, E, ce, h0, X', hL, e1, e2, ⟨hp', hq, hP, hF⟩, hce, hcv, hcl, stp⟩
  · cases hv
    obtain ⟨k1, k2, k3⟩ := vx_keep h0 e1 hS (fun q _ h => h) (fun q h => h) hL hF
    have hx9 := hx _ _ hq
    obtain ⟨t2, a1, b1⟩ := kk ov hp' hq p l e R s m args below meth c lsA T'.heap (locs ++ L) (cells + kc') (slots + ks') F hl ⟨by rw [e1]; exact hP, by rw [e1]; exact hz9⟩ k3 (by omega) (by omega) T' rfl X'
    have e9 : (ov.map (xTr G)).toList ++ st.map (xTr G) = (ov.toList ++ st).map (xTr G) := by cases ov <;> rfl
    rw [e9] at stp
    exact ⟨t2, stp t2 a1, b1⟩
  · obtain ⟨k1, k2, k3⟩ := vx_keep h0 e1 hS (fun q _ h => h) (fun q h => h) hL hF
    have hx9 := hx _ _ hq
    obtain ⟨t2, a1, b1⟩ := kx E hp' hq p l e R s m args below meth c lsA T'.heap (locs ++ L) (cells + kc') (slots + ks') q ce (st.map (xTr G)) F hl (by rw [e1]; exact hP) k3 (by omega) (by omega) (by rw [e1]; exact hce) hcv hcl T' rfl X'
    exact ⟨t2, stp.trans a1, b1⟩
/-- what a callee is given -/
theorem xPre {ar : List Value} {p : Program} {l : Launch} {e : Env} {R : Room} {s : State} {m : MethodId} {args : Array Value} {below : List Frame} {meth : Method} {c : Code} {H : Heap} {locs : List Loc} {cells slots : Nat} {T : State}
    (F : xFr G Y p l R s m meth c) (hH : xHp G hp x H (s.heap.size + cells)) (hS : va_S (xAA G) s.heap H locs) (hT : T.heap = H) (X : Stand p l e R s m args below meth c T locs cells slots) :
    ∀ U : State, U.heap = H → s.WarmedH U.vm → xPc G ar hp (xgb G + hp.length) (ar.map (xTr G)).toArray U := by
  intro U hU hW
  have h1 := X.heapSize
  have h2 := hH.2
  rw [hT] at h1
  refine ⟨rfl, F.env.moved hW, ?_, by rw [hU]; exact hH.1, by rw [hU]; omega, by rw [hU]; exact Nat.le_trans F.lo hS.1⟩
  rw [hU]
  exact (F.ro.kept hS.2.1).moved hW.alike
theorem xw_callV {Y' : xM} {Qx' : xO → List xE → Prop} {n idx kc' ks' kc0 ks0 x' : Nat} {ar : List Value} {rest : List Value} {k ci : Nat} {fs : List Value} (hd : decode (xmB Y) pc = .ok (.invokevirtual idx, 3)) (hok : xMok Y' n) (hw : Cond.methodLink (xmN Y).cls idx (xmN Y') ∈ lw_tbl ∧ Cond.instanceMethod (xmN Y') ∈ lw_tbl ∧ Cond.selects (xmN Y').cls (xmN Y') (xmN Y') ∈ lw_tbl) (hM : xMet G Y' (.ref k :: ar) hp x kc' ks' Qx') (hob : hp[k]? = some (.inr (ci, fs))) (hci : (xCl[ci]?).map (fun r => r.1) = some (xmN Y').cls) (hn : ar.length = n) (ha : Nat.ble (lg_sl (.ref k :: ar)).length (xmL Y') = true) (hst : st = ar.reverse ++ .ref k :: rest) (hcat : Nat.ble (rest.map fun v => v.category).sum 8 = true) (hfr : Nat.ble (xmF Y' + 1) (xmF Y) = true) (hlo : Nat.ble (8 + (xmL Y' + 11) + xmW Y') (xmW Y) = true) (hkc : kc = kc' + kc0) (hks : ks = ks' + ks0) (hx : ∀ o hp', Qx' o hp' → hp.length + x + kc' ≤ hp'.length + x') (kk : ∀ ov hp', Qx' (.inl ov) hp' → xW G Y Qx (pc + 3) ls (ov.toList ++ rest) hp' x' kc0 ks0) (kx : ∀ E hp', Qx' (.inr E) hp' → xT G Y Qx pc ls hp' x' E kc0 ks0) : xW G Y Qx pc ls st hp x kc ks := by
  intro p l e R s m args below meth c lsA H locs cells slots F hl hH hS hc hs
  have hcat' : 2 * (F0 m pc lsA (st.map (xTr G))).monitorRoom + ((rest.map (xTr G)).map fun v => v.category).sum ≤ 8 := by
    refine lv_room ?_
    rw [List.map_map]
    have e9 : ((fun v => v.category) ∘ xTr G) = fun (v : Value) => v.category := by funext v; exact xTr_cat G v
    rw [e9]
    exact Nat.le_of_ble_eq_true hcat
  have hF1 : (xRm Y' kc' ks').frames + 1 ≤ R.frames := Nat.le_trans (Nat.le_of_ble_eq_true hfr) F.2.2.2.2.2.2.2.2.2.2.1
  have hF2 : 8 + (xmL Y' + 11) + (xRm Y' kc' ks').locals ≤ R.locals := Nat.le_trans (Nat.le_of_ble_eq_true hlo) F.2.2.2.2.2.2.2.2.2.2.2.1
  have hlt := F.2.2.2.2.2.2.2.2.2.2.2.2.1
  have hsz : lsA.size = xmL Y := hl.1
  have hstA : st.map (xTr G) = (ar.map (xTr G)).reverse ++ .ref (xgb G + k) :: rest.map (xTr G) := by rw [hst, List.map_append, List.map_reverse]; rfl
  intro T hT X
  have hP := xPre (ar := .ref k :: ar) F hH hS hT X
  obtain ⟨r, hr1, hr2⟩ : ∃ r, xCl[ci]? = some r ∧ r.1 = (xmN Y').cls := by
    cases hr : xCl[ci]? with
    | none => rw [hr] at hci; cases hci
    | some r => rw [hr] at hci; exact ⟨r, rfl, Option.some.inj hci⟩
  have hrecv := va_recv F.env.K hH.1 hr1 (xWs_get hob)
  rw [hr2] at hrecv
  have hrun := vx_runV (Ts := []) (meth := meth) (args := args) (C := (xmN Y').cls) (As := ar.map (xTr G)) (rest := rest.map (xTr G)) (g := F0 m pc lsA (st.map (xTr G))) ⟨F.1, F.2.1, F.2.2.1, F.own, (fun w hw => absurd hw List.not_mem_nil)⟩ (xMet_vx hok hlt ha hM) (cells := cells) (slots := slots) (locs := locs) (H := H) (index := idx) (n := n)
    ⟨⟨rfl, rfl, hF1, hF2, (fun w hw a' U hW => by
      have e : w = Cond.code (xmN Y') (xmB Y') (xmL Y') (xmR Y') := List.mem_singleton.mp hw
      subst e
      exact word_at hW (Or.inl rfl) (F.env.w (a' := args) hok.2.1 (Or.inl ⟨rfl, rfl⟩))), List.mem_singleton.mpr rfl, F.env.w hok.2.1 (Or.inl ⟨rfl, rfl⟩), F.env.w hok.1.2.1 (Or.inl ⟨rfl, rfl⟩), hok.1.2.2.1, (fun sig h => by have h2 := hok.1.2.2.2; rw [h] at h2; exact (Option.some.inj h2).symm), F.env.w hw.1 (Or.inl ⟨rfl, rfl⟩)⟩, F.env.w hw.2.1 (Or.inl ⟨rfl, rfl⟩), F.env.w hw.2.2 (Or.inl ⟨rfl, rfl⟩)⟩ ⟨xPc_blind _ _ _ _, hrecv, hP⟩ rfl (by rw [List.length_map]; exact hn) hsz hstA hcat' hd ⟨by omega, by omega⟩ (e := e) (below := below)
  exact xw_after F hl hH hS hc hs hkc hks hrun hx kk kx T hT X
theorem xw_callS {Y' : xM} {Qx' : xO → List xE → Prop} {n idx kc' ks' kc0 ks0 x' : Nat} {ar : List Value} {rest : List Value} (hd : decode (xmB Y) pc = .ok (.invokestatic idx, 3)) (hok : xMok Y' n) (hw : Cond.methodLink (xmN Y).cls idx (xmN Y') ∈ lw_tbl ∧ Cond.static (xmN Y') ∈ lw_tbl) (hM : xMet G Y' ar hp x kc' ks' Qx') (hn : ar.length = n) (ha : Nat.ble (lg_sl ar).length (xmL Y') = true) (hst : st = ar.reverse ++ rest) (hcat : Nat.ble (rest.map fun v => v.category).sum 8 = true) (hfr : Nat.ble (xmF Y' + 1) (xmF Y) = true) (hlo : Nat.ble (8 + (xmL Y' + 11) + xmW Y') (xmW Y) = true) (hkc : kc = kc' + kc0) (hks : ks = ks' + ks0) (hx : ∀ o hp', Qx' o hp' → hp.length + x + kc' ≤ hp'.length + x') (kk : ∀ ov hp', Qx' (.inl ov) hp' → xW G Y Qx (pc + 3) ls (ov.toList ++ rest) hp' x' kc0 ks0) (kx : ∀ E hp', Qx' (.inr E) hp' → xT G Y Qx pc ls hp' x' E kc0 ks0) : xW G Y Qx pc ls st hp x kc ks := by
  intro p l e R s m args below meth c lsA H locs cells slots F hl hH hS hc hs
  have hcat' : 2 * (F0 m pc lsA (st.map (xTr G))).monitorRoom + ((rest.map (xTr G)).map fun v => v.category).sum ≤ 8 := by
    refine lv_room ?_
    rw [List.map_map]
    have e9 : ((fun v => v.category) ∘ xTr G) = fun (v : Value) => v.category := by funext v; exact xTr_cat G v
    rw [e9]
    exact Nat.le_of_ble_eq_true hcat
  have hF1 : (xRm Y' kc' ks').frames + 1 ≤ R.frames := Nat.le_trans (Nat.le_of_ble_eq_true hfr) F.2.2.2.2.2.2.2.2.2.2.1
  have hF2 : 8 + (xmL Y' + 11) + (xRm Y' kc' ks').locals ≤ R.locals := Nat.le_trans (Nat.le_of_ble_eq_true hlo) F.2.2.2.2.2.2.2.2.2.2.2.1
  have hlt := F.2.2.2.2.2.2.2.2.2.2.2.2.1
  have hsz : lsA.size = xmL Y := hl.1
  have hstA : st.map (xTr G) = (ar.map (xTr G)).reverse ++ rest.map (xTr G) := by rw [hst, List.map_append, List.map_reverse]
  intro T hT X
  have hP := xPre (ar := ar) F hH hS hT X
  have hrun := vx_runS (Ts := []) (meth := meth) (args := args) (As := ar.map (xTr G)) (rest := rest.map (xTr G)) (g := F0 m pc lsA (st.map (xTr G))) ⟨F.1, F.2.1, F.2.2.1, F.own, (fun w hw => absurd hw List.not_mem_nil)⟩ (xMet_vx hok hlt ha hM) (cells := cells) (slots := slots) (locs := locs) (H := H) (index := idx) (n := n)
    ⟨⟨rfl, rfl, hF1, hF2, (fun w hw a' U hW => by
      have e : w = Cond.code (xmN Y') (xmB Y') (xmL Y') (xmR Y') := List.mem_singleton.mp hw
      subst e
      exact word_at hW (Or.inl rfl) (F.env.w (a' := args) hok.2.1 (Or.inl ⟨rfl, rfl⟩))), List.mem_singleton.mpr rfl, F.env.w hok.2.1 (Or.inl ⟨rfl, rfl⟩), F.env.w hok.1.2.1 (Or.inl ⟨rfl, rfl⟩), hok.1.2.2.1, (fun sig h => by have h2 := hok.1.2.2.2; rw [h] at h2; exact (Option.some.inj h2).symm), F.env.w hw.1 (Or.inl ⟨rfl, rfl⟩)⟩, F.env.w hw.2 (Or.inl ⟨rfl, rfl⟩)⟩ ⟨xPc_blind _ _ _ _, hP⟩ rfl (by rw [List.length_map]; exact hn) hsz hstA hcat' hd ⟨by omega, by omega⟩ (e := e) (below := below)
  exact xw_after F hl hH hS hc hs hkc hks hrun hx kk kx T hT X
theorem xw_callVN {Y' : xM} {Qx' : xO → List xE → Prop} {n idx kc' ks' kc0 ks0 x' : Nat} {ar : List Value} {rest : List Value} {k ci : Nat} {fs : List Value} {host : String} (hd : decode (xmB Y) pc = .ok (.invokevirtual idx, 3)) (hok : xMok Y' n) (hw : Cond.methodLinkNest (xmN Y).cls idx (xmN Y') host ∈ lw_tbl ∧ Cond.instanceMethod (xmN Y') ∈ lw_tbl ∧ Cond.selects (xmN Y').cls (xmN Y') (xmN Y') ∈ lw_tbl) (hM : xMet G Y' (.ref k :: ar) hp x kc' ks' Qx') (hnt : ∀ E hp', ¬ Qx' (.inr E) hp') (hob : hp[k]? = some (.inr (ci, fs))) (hci : (xCl[ci]?).map (fun r => r.1) = some (xmN Y').cls) (hn : ar.length = n) (ha : Nat.ble (lg_sl (.ref k :: ar)).length (xmL Y') = true) (hst : st = ar.reverse ++ .ref k :: rest) (hcat : Nat.ble (rest.map fun v => v.category).sum 8 = true) (hfr : Nat.ble (xmF Y' + 1) (xmF Y) = true) (hlo : Nat.ble (8 + (xmL Y' + 11) + xmW Y') (xmW Y) = true) (hkc : kc = kc' + kc0) (hks : ks = ks' + ks0) (hx : ∀ o hp', Qx' o hp' → hp.length + x + kc' ≤ hp'.length + x') (kk : ∀ ov hp', Qx' (.inl ov) hp' → xW G Y Qx (pc + 3) ls (ov.toList ++ rest) hp' x' kc0 ks0) : xW G Y Qx pc ls st hp x kc ks := by
  intro p l e R s m args below meth c lsA H locs cells slots F hl hH hS hc hs
  have hcat' : 2 * (F0 m pc lsA (st.map (xTr G))).monitorRoom + ((rest.map (xTr G)).map fun v => v.category).sum ≤ 8 := by
    refine lv_room ?_
    rw [List.map_map]
    have e9 : ((fun v => v.category) ∘ xTr G) = fun (v : Value) => v.category := by funext v; exact xTr_cat G v
    rw [e9]
    exact Nat.le_of_ble_eq_true hcat
  have hF1 : (xRm Y' kc' ks').frames + 1 ≤ R.frames := Nat.le_trans (Nat.le_of_ble_eq_true hfr) F.2.2.2.2.2.2.2.2.2.2.1
  have hF2 : 8 + (xmL Y' + 11) + (xRm Y' kc' ks').locals ≤ R.locals := Nat.le_trans (Nat.le_of_ble_eq_true hlo) F.2.2.2.2.2.2.2.2.2.2.2.1
  have hlt := F.2.2.2.2.2.2.2.2.2.2.2.2.1
  have hsz : lsA.size = xmL Y := hl.1
  have hstA : st.map (xTr G) = (ar.map (xTr G)).reverse ++ .ref (xgb G + k) :: rest.map (xTr G) := by rw [hst, List.map_append, List.map_reverse]; rfl
  intro T hT X
  have hP := xPre (ar := .ref k :: ar) F hH hS hT X
  obtain ⟨r, hr1, hr2⟩ : ∃ r, xCl[ci]? = some r ∧ r.1 = (xmN Y').cls := by
    cases hr : xCl[ci]? with
    | none => rw [hr] at hci; cases hci
    | some r => rw [hr] at hci; exact ⟨r, rfl, Option.some.inj hci⟩
  have hrecv := va_recv F.env.K hH.1 hr1 (xWs_get hob)
  rw [hr2] at hrecv
  have hrun := va_runVN (Ts := []) (meth := meth) (args := args) (C := (xmN Y').cls) (host := host) (As := ar.map (xTr G)) (rest := rest.map (xTr G)) (g := F0 m pc lsA (st.map (xTr G))) ⟨F.1, F.2.1, F.2.2.1, F.own, (fun w hw => absurd hw List.not_mem_nil)⟩ (xMet_no (xMet_vx hok hlt ha hM) hnt) (cells := cells) (slots := slots) (locs := locs) (H := H) (index := idx) (n := n)
    ⟨⟨⟨rfl, rfl, hF1, hF2, (fun w hw a' U hW => by
      have e : w = Cond.code (xmN Y') (xmB Y') (xmL Y') (xmR Y') := List.mem_singleton.mp hw
      subst e
      exact word_at hW (Or.inl rfl) (F.env.w (a' := args) hok.2.1 (Or.inl ⟨rfl, rfl⟩))), List.mem_singleton.mpr rfl⟩, F.env.w hok.2.1 (Or.inl ⟨rfl, rfl⟩), F.env.w hok.1.2.1 (Or.inl ⟨rfl, rfl⟩), hok.1.2.2.1, (fun sig h => by have h2 := hok.1.2.2.2; rw [h] at h2; exact (Option.some.inj h2).symm), va_Nw.use rfl (F.env.n hw.1 rfl)⟩, F.env.w hw.2.1 (Or.inl ⟨rfl, rfl⟩), F.env.w hw.2.2 (Or.inl ⟨rfl, rfl⟩)⟩ ⟨xPc_blind _ _ _ _, hrecv, hP⟩ rfl (by rw [List.length_map]; exact hn) hsz hstA hcat' hd ⟨by omega, by omega⟩ (e := e) (below := below)
  exact xw_after F hl hH hS hc hs hkc hks (xRun_of hrun) hx kk (fun E hp' h => (hnt E hp' h).elim) T hT X
theorem xw_callSN {Y' : xM} {Qx' : xO → List xE → Prop} {n idx kc' ks' kc0 ks0 x' : Nat} {ar : List Value} {rest : List Value} {host : String} (hd : decode (xmB Y) pc = .ok (.invokestatic idx, 3)) (hok : xMok Y' n) (hw : Cond.methodLinkNest (xmN Y).cls idx (xmN Y') host ∈ lw_tbl ∧ Cond.static (xmN Y') ∈ lw_tbl) (hM : xMet G Y' ar hp x kc' ks' Qx') (hnt : ∀ E hp', ¬ Qx' (.inr E) hp') (hn : ar.length = n) (ha : Nat.ble (lg_sl ar).length (xmL Y') = true) (hst : st = ar.reverse ++ rest) (hcat : Nat.ble (rest.map fun v => v.category).sum 8 = true) (hfr : Nat.ble (xmF Y' + 1) (xmF Y) = true) (hlo : Nat.ble (8 + (xmL Y' + 11) + xmW Y') (xmW Y) = true) (hkc : kc = kc' + kc0) (hks : ks = ks' + ks0) (hx : ∀ o hp', Qx' o hp' → hp.length + x + kc' ≤ hp'.length + x') (kk : ∀ ov hp', Qx' (.inl ov) hp' → xW G Y Qx (pc + 3) ls (ov.toList ++ rest) hp' x' kc0 ks0) : xW G Y Qx pc ls st hp x kc ks := by
  intro p l e R s m args below meth c lsA H locs cells slots F hl hH hS hc hs
  have hcat' : 2 * (F0 m pc lsA (st.map (xTr G))).monitorRoom + ((rest.map (xTr G)).map fun v => v.category).sum ≤ 8 := by
    refine lv_room ?_
    rw [List.map_map]
    have e9 : ((fun v => v.category) ∘ xTr G) = fun (v : Value) => v.category := by funext v; exact xTr_cat G v
    rw [e9]
    exact Nat.le_of_ble_eq_true hcat
  have hF1 : (xRm Y' kc' ks').frames + 1 ≤ R.frames := Nat.le_trans (Nat.le_of_ble_eq_true hfr) F.2.2.2.2.2.2.2.2.2.2.1
  have hF2 : 8 + (xmL Y' + 11) + (xRm Y' kc' ks').locals ≤ R.locals := Nat.le_trans (Nat.le_of_ble_eq_true hlo) F.2.2.2.2.2.2.2.2.2.2.2.1
  have hlt := F.2.2.2.2.2.2.2.2.2.2.2.2.1
  have hsz : lsA.size = xmL Y := hl.1
  have hstA : st.map (xTr G) = (ar.map (xTr G)).reverse ++ rest.map (xTr G) := by rw [hst, List.map_append, List.map_reverse]
  intro T hT X
  have hP := xPre (ar := ar) F hH hS hT X
  have hrun := va_runSN (Ts := []) (meth := meth) (args := args) (host := host) (As := ar.map (xTr G)) (rest := rest.map (xTr G)) (g := F0 m pc lsA (st.map (xTr G))) ⟨F.1, F.2.1, F.2.2.1, F.own, (fun w hw => absurd hw List.not_mem_nil)⟩ (xMet_no (xMet_vx hok hlt ha hM) hnt) (cells := cells) (slots := slots) (locs := locs) (H := H) (index := idx) (n := n)
    ⟨⟨⟨rfl, rfl, hF1, hF2, (fun w hw a' U hW => by
      have e : w = Cond.code (xmN Y') (xmB Y') (xmL Y') (xmR Y') := List.mem_singleton.mp hw
      subst e
      exact word_at hW (Or.inl rfl) (F.env.w (a' := args) hok.2.1 (Or.inl ⟨rfl, rfl⟩))), List.mem_singleton.mpr rfl⟩, F.env.w hok.2.1 (Or.inl ⟨rfl, rfl⟩), F.env.w hok.1.2.1 (Or.inl ⟨rfl, rfl⟩), hok.1.2.2.1, (fun sig h => by have h2 := hok.1.2.2.2; rw [h] at h2; exact (Option.some.inj h2).symm), va_Nw.use rfl (F.env.n hw.1 rfl)⟩, F.env.w hw.2 (Or.inl ⟨rfl, rfl⟩), trivial⟩ ⟨xPc_blind _ _ _ _, hP⟩ rfl (by rw [List.length_map]; exact hn) hsz hstA hcat' hd ⟨by omega, by omega⟩ (e := e) (below := below)
  exact xw_after F hl hH hS hc hs hkc hks (xRun_of hrun) hx kk (fun E hp' h => (hnt E hp' h).elim) T hT X
theorem xw_callIN {Y' : xM} {Qx' : xO → List xE → Prop} {n idx kc' ks' kc0 ks0 x' : Nat} {ar : List Value} {rest : List Value} {k : Nat} {host : String} (hd : decode (xmB Y) pc = .ok (.invokespecial idx, 3)) (hok : xMok Y' n) (hr0 : xmR Y' = none) (hnm : (xmN Y').name = "<init>") (hw : Cond.methodLinkNest (xmN Y).cls idx (xmN Y') host ∈ lw_tbl ∧ Cond.instanceMethod (xmN Y') ∈ lw_tbl) (hM : xMet G Y' (.ref k :: ar) hp x kc' ks' Qx') (hnt : ∀ E hp', ¬ Qx' (.inr E) hp') (hn : ar.length = n) (ha : Nat.ble (lg_sl (.ref k :: ar)).length (xmL Y') = true) (hst : st = ar.reverse ++ .ref k :: rest) (hcat : Nat.ble (rest.map fun v => v.category).sum 8 = true) (hfr : Nat.ble (xmF Y' + 1) (xmF Y) = true) (hlo : Nat.ble (8 + (xmL Y' + 11) + xmW Y') (xmW Y) = true) (hkc : kc = kc' + kc0) (hks : ks = ks' + ks0) (hx : ∀ o hp', Qx' o hp' → hp.length + x + kc' ≤ hp'.length + x') (kk : ∀ ov hp', Qx' (.inl ov) hp' → xW G Y Qx (pc + 3) ls (ov.toList ++ rest) hp' x' kc0 ks0) : xW G Y Qx pc ls st hp x kc ks := by
  intro p l e R s m args below meth c lsA H locs cells slots F hl hH hS hc hs
  have hcat' : 2 * (F0 m pc lsA (st.map (xTr G))).monitorRoom + ((rest.map (xTr G)).map fun v => v.category).sum ≤ 8 := by
    refine lv_room ?_
    rw [List.map_map]
    have e9 : ((fun v => v.category) ∘ xTr G) = fun (v : Value) => v.category := by funext v; exact xTr_cat G v
    rw [e9]
    exact Nat.le_of_ble_eq_true hcat
  have hF1 : (xRm Y' kc' ks').frames + 1 ≤ R.frames := Nat.le_trans (Nat.le_of_ble_eq_true hfr) F.2.2.2.2.2.2.2.2.2.2.1
  have hF2 : 8 + (xmL Y' + 11) + (xRm Y' kc' ks').locals ≤ R.locals := Nat.le_trans (Nat.le_of_ble_eq_true hlo) F.2.2.2.2.2.2.2.2.2.2.2.1
  have hlt := F.2.2.2.2.2.2.2.2.2.2.2.2.1
  have hsz : lsA.size = xmL Y := hl.1
  have hstA : st.map (xTr G) = (ar.map (xTr G)).reverse ++ .ref (xgb G + k) :: rest.map (xTr G) := by rw [hst, List.map_append, List.map_reverse]; rfl
  intro T hT X
  have hP := xPre (ar := .ref k :: ar) F hH hS hT X
  have hrun := va_runIN (Ts := []) (meth := meth) (args := args) (host := host) (As := ar.map (xTr G)) (rest := rest.map (xTr G)) (g := F0 m pc lsA (st.map (xTr G))) (b := xgb G + k) (maxL := xmL Y') (bytes := xmB Y') ⟨F.1, F.2.1, F.2.2.1, F.own, (fun w hw => absurd hw List.not_mem_nil)⟩ (xMet_no (xMet_vx hok hlt ha hM) hnt) (cells := cells) (slots := slots) (locs := locs) (H := H) (index := idx) (n := n)
    ⟨by rw [← hr0]; exact ⟨⟨rfl, rfl, hF1, hF2, (fun w hw a' U hW => by
      have e : w = Cond.code (xmN Y') (xmB Y') (xmL Y') (xmR Y') := List.mem_singleton.mp hw
      subst e
      exact word_at hW (Or.inl rfl) (F.env.w (a' := args) hok.2.1 (Or.inl ⟨rfl, rfl⟩))), List.mem_singleton.mpr rfl⟩, F.env.w hok.2.1 (Or.inl ⟨rfl, rfl⟩), F.env.w hok.1.2.1 (Or.inl ⟨rfl, rfl⟩), hok.1.2.2.1, (fun sig h => by have h2 := hok.1.2.2.2; rw [h] at h2; exact (Option.some.inj h2).symm), va_Nw.use rfl (F.env.n hw.1 rfl)⟩, hnm, F.env.w hw.2 (Or.inl ⟨rfl, rfl⟩)⟩ ⟨xPc_blind _ _ _ _, hP⟩ rfl (by rw [List.length_map]; exact hn) hsz hstA hcat' hd ⟨by omega, by omega⟩ (e := e) (below := below)
  exact xw_after F hl hH hS hc hs hkc hks (xRun_of hrun) hx kk (fun E hp' h => (hnt E hp' h).elim) T hT X
theorem xw_callI {Y' : xM} {Qx' : xO → List xE → Prop} {n idx kc' ks' kc0 ks0 x' : Nat} {ar : List Value} {rest : List Value} {k : Nat} (hd : decode (xmB Y) pc = .ok (.invokespecial idx, 3)) (hok : xMok Y' n) (hr0 : xmR Y' = none) (hnm : (xmN Y').name = "<init>") (hw : Cond.methodLink (xmN Y).cls idx (xmN Y') ∈ lw_tbl ∧ Cond.instanceMethod (xmN Y') ∈ lw_tbl) (hM : xMet G Y' (.ref k :: ar) hp x kc' ks' Qx') (hnt : ∀ E hp', ¬ Qx' (.inr E) hp') (hn : ar.length = n) (ha : Nat.ble (lg_sl (.ref k :: ar)).length (xmL Y') = true) (hst : st = ar.reverse ++ .ref k :: rest) (hcat : Nat.ble (rest.map fun v => v.category).sum 8 = true) (hfr : Nat.ble (xmF Y' + 1) (xmF Y) = true) (hlo : Nat.ble (8 + (xmL Y' + 11) + xmW Y') (xmW Y) = true) (hkc : kc = kc' + kc0) (hks : ks = ks' + ks0) (hx : ∀ o hp', Qx' o hp' → hp.length + x + kc' ≤ hp'.length + x') (kk : ∀ ov hp', Qx' (.inl ov) hp' → xW G Y Qx (pc + 3) ls (ov.toList ++ rest) hp' x' kc0 ks0) : xW G Y Qx pc ls st hp x kc ks := by
  intro p l e R s m args below meth c lsA H locs cells slots F hl hH hS hc hs
  have hcat' : 2 * (F0 m pc lsA (st.map (xTr G))).monitorRoom + ((rest.map (xTr G)).map fun v => v.category).sum ≤ 8 := by
    refine lv_room ?_
    rw [List.map_map]
    have e9 : ((fun v => v.category) ∘ xTr G) = fun (v : Value) => v.category := by funext v; exact xTr_cat G v
    rw [e9]
    exact Nat.le_of_ble_eq_true hcat
  have hF1 : (xRm Y' kc' ks').frames + 1 ≤ R.frames := Nat.le_trans (Nat.le_of_ble_eq_true hfr) F.2.2.2.2.2.2.2.2.2.2.1
  have hF2 : 8 + (xmL Y' + 11) + (xRm Y' kc' ks').locals ≤ R.locals := Nat.le_trans (Nat.le_of_ble_eq_true hlo) F.2.2.2.2.2.2.2.2.2.2.2.1
  have hlt := F.2.2.2.2.2.2.2.2.2.2.2.2.1
  have hsz : lsA.size = xmL Y := hl.1
  have hstA : st.map (xTr G) = (ar.map (xTr G)).reverse ++ .ref (xgb G + k) :: rest.map (xTr G) := by rw [hst, List.map_append, List.map_reverse]; rfl
  intro T hT X
  have hP := xPre (ar := .ref k :: ar) F hH hS hT X
  have hrun := va_runI (Ts := []) (meth := meth) (args := args) (As := ar.map (xTr G)) (rest := rest.map (xTr G)) (g := F0 m pc lsA (st.map (xTr G))) (b := xgb G + k) (maxL := xmL Y') (bytes := xmB Y') ⟨F.1, F.2.1, F.2.2.1, F.own, (fun w hw => absurd hw List.not_mem_nil)⟩ (xMet_no (xMet_vx hok hlt ha hM) hnt) (cells := cells) (slots := slots) (locs := locs) (H := H) (index := idx) (n := n)
    ⟨by rw [← hr0]; exact ⟨rfl, rfl, hF1, hF2, (fun w hw a' U hW => by
      have e : w = Cond.code (xmN Y') (xmB Y') (xmL Y') (xmR Y') := List.mem_singleton.mp hw
      subst e
      exact word_at hW (Or.inl rfl) (F.env.w (a' := args) hok.2.1 (Or.inl ⟨rfl, rfl⟩))), List.mem_singleton.mpr rfl, F.env.w hok.2.1 (Or.inl ⟨rfl, rfl⟩), F.env.w hok.1.2.1 (Or.inl ⟨rfl, rfl⟩), hok.1.2.2.1, (fun sig h => by have h2 := hok.1.2.2.2; rw [h] at h2; exact (Option.some.inj h2).symm), F.env.w hw.1 (Or.inl ⟨rfl, rfl⟩)⟩, hnm, F.env.w hw.2 (Or.inl ⟨rfl, rfl⟩)⟩ ⟨xPc_blind _ _ _ _, hP⟩ rfl (by rw [List.length_map]; exact hn) hsz hstA hcat' hd ⟨by omega, by omega⟩ (e := e) (below := below)
  exact xw_after F hl hH hS hc hs hkc hks (xRun_of hrun) hx kk (fun E hp' h => (hnt E hp' h).elim) T hT X
theorem xw_callSW {Y' : xM} {Qx' : xO → List xE → Prop} {n idx kc' ks' kc0 ks0 x' : Nat} {ar : List Value} {rest : List Value} (hd : decode (xmB Y) pc = .ok (.invokestatic idx, 3)) (hok : xMokH Y' n) (hw : Cond.methodLink (xmN Y).cls idx (xmN Y') ∈ lw_tbl ∧ Cond.static (xmN Y') ∈ lw_tbl) (hM : xMet G Y' ar hp x kc' ks' Qx') (hnt : ∀ E hp', ¬ Qx' (.inr E) hp') (hn : ar.length = n) (ha : Nat.ble (lg_sl ar).length (xmL Y') = true) (hst : st = ar.reverse ++ rest) (hcat : Nat.ble (rest.map fun v => v.category).sum 8 = true) (hfr : Nat.ble (xmF Y' + 1) (xmF Y) = true) (hlo : Nat.ble (8 + (xmL Y' + 11) + xmW Y') (xmW Y) = true) (hkc : kc = kc' + kc0) (hks : ks = ks' + ks0) (hx : ∀ o hp', Qx' o hp' → hp.length + x + kc' ≤ hp'.length + x') (kk : ∀ ov hp', Qx' (.inl ov) hp' → xW G Y Qx (pc + 3) ls (ov.toList ++ rest) hp' x' kc0 ks0) : xW G Y Qx pc ls st hp x kc ks := by
  intro p l e R s m args below meth c lsA H locs cells slots F hl hH hS hc hs
  have hcat' : 2 * (F0 m pc lsA (st.map (xTr G))).monitorRoom + ((rest.map (xTr G)).map fun v => v.category).sum ≤ 8 := by
    refine lv_room ?_
    rw [List.map_map]
    have e9 : ((fun v => v.category) ∘ xTr G) = fun (v : Value) => v.category := by funext v; exact xTr_cat G v
    rw [e9]
    exact Nat.le_of_ble_eq_true hcat
  have hF1 : (xRm Y' kc' ks').frames + 1 ≤ R.frames := Nat.le_trans (Nat.le_of_ble_eq_true hfr) F.2.2.2.2.2.2.2.2.2.2.1
  have hF2 : 8 + (xmL Y' + 11) + (xRm Y' kc' ks').locals ≤ R.locals := Nat.le_trans (Nat.le_of_ble_eq_true hlo) F.2.2.2.2.2.2.2.2.2.2.2.1
  have hlt := F.2.2.2.2.2.2.2.2.2.2.2.2.1
  have hsz : lsA.size = xmL Y := hl.1
  have hstA : st.map (xTr G) = (ar.map (xTr G)).reverse ++ rest.map (xTr G) := by rw [hst, List.map_append, List.map_reverse]
  intro T hT X
  have hP := xPre (ar := ar) F hH hS hT X
  have hrun := vx_runSW (Ts := []) (meth := meth) (args := args) (As := ar.map (xTr G)) (rest := rest.map (xTr G)) (g := F0 m pc lsA (st.map (xTr G))) ⟨F.1, F.2.1, F.2.2.1, F.own, (fun w hw => absurd hw List.not_mem_nil)⟩ (xMet_no (xMet_vxH hok hlt ha hM) hnt) (cells := cells) (slots := slots) (locs := locs) (H := H) (index := idx) (n := n) (hh := xmH Y')
    ⟨⟨rfl, rfl, hF1, hF2, (fun w hw a' U hW => by
      have e : w = Cond.codeWith (xmN Y') (xmB Y') (xmL Y') (xmR Y') (xmH Y') := List.mem_singleton.mp hw
      subst e
      exact word_at hW (Or.inl rfl) (F.env.w (a' := args) hok.2 (Or.inl ⟨rfl, rfl⟩))), List.mem_singleton.mpr rfl⟩, F.env.w hok.2 (Or.inl ⟨rfl, rfl⟩), F.env.w hok.1.2.1 (Or.inl ⟨rfl, rfl⟩), hok.1.2.2.1, (fun sig h => by have h2 := hok.1.2.2.2; rw [h] at h2; exact (Option.some.inj h2).symm), F.env.w hw.1 (Or.inl ⟨rfl, rfl⟩), F.env.w hw.2 (Or.inl ⟨rfl, rfl⟩)⟩ ⟨xPc_blind _ _ _ _, hP⟩ rfl (by rw [List.length_map]; exact hn) hsz hstA hcat' hd ⟨by omega, by omega⟩ (e := e) (below := below)
  exact xw_after F hl hH hS hc hs hkc hks (xRun_of hrun) hx kk (fun E hp' h => (hnt E hp' h).elim) T hT X
theorem xw_objInit (pc' : Nat) {idx : Nat} {k : Nat} (hd : decode (xmB Y) pc = .ok (.invokespecial idx, 3)) (hn : pc + 3 = pc') (hw : Cond.methodLink (xmN Y).cls idx Lib.objectInit ∈ lw_tbl) (hcat : Nat.ble (st.map fun v => v.category).sum 8 = true) (hfr : Nat.ble 1 (xmF Y) = true) (hlo : Nat.ble 20 (xmW Y) = true) (k9 : xW G Y Qx pc' ls st hp x kc ks) : xW G Y Qx pc ls (.ref k :: st) hp x kc ks := by
  subst hn
  intro p l e R s m args below meth c lsA H locs cells slots F hl hH hS hc hs
  have e9 : ((fun v => v.category) ∘ xTr G) = fun (v : Value) => v.category := by funext v; exact xTr_cat G v
  have hcat' : 2 * (F0 m pc lsA ((.ref k :: st).map (xTr G))).monitorRoom + ((st.map (xTr G)).map fun v => v.category).sum ≤ 8 := by
    refine lv_room ?_
    rw [List.map_map, e9]
    exact Nat.le_of_ble_eq_true hcat
  have h1 : 1 ≤ R.frames := Nat.le_trans (Nat.le_of_ble_eq_true hfr) F.2.2.2.2.2.2.2.2.2.2.1
  have h2 : 20 ≤ R.locals := Nat.le_trans (Nat.le_of_ble_eq_true hlo) F.2.2.2.2.2.2.2.2.2.2.2.1
  exact W.objInit F.1 F.2.1 F.own (F.env.w hw (Or.inl ⟨rfl, rfl⟩)) (F.env.w (w := .instanceMethod Lib.objectInit) (List.mem_of_getElem? (i := 56) (by decide +kernel)) (Or.inl ⟨rfl, rfl⟩)) (F.env.w (w := .code Lib.objectInit ⟨#[0xb1]⟩ 1 none) (List.mem_of_getElem? (i := 57) (by decide +kernel)) (Or.inl ⟨rfl, rfl⟩)) rfl (hl.1.trans F.2.2.1.symm) rfl hd h1 (by omega) (k9 p l e R s m args below meth c lsA H locs cells slots F hl hH hS hc hs)
theorem xw_max (pc' : Nat) {idx : Nat} {a b : Int32} (hd : decode (xmB Y) pc = .ok (.invokestatic idx, 3)) (hn : pc + 3 = pc') (hw : Cond.methodLink (xmN Y).cls idx Lib.Math.max.name ∈ lw_tbl) (hcat : Nat.ble (st.map fun v => v.category).sum 8 = true) (hfr : Nat.ble 1 (xmF Y) = true) (hlo : Nat.ble 21 (xmW Y) = true) (k9 : xW G Y Qx pc' ls (.int (if a < b then b else a) :: st) hp x kc ks) : xW G Y Qx pc ls (.int b :: .int a :: st) hp x kc ks := by
  subst hn
  intro p l e R s m args below meth c lsA H locs cells slots F hl hH hS hc hs
  have e9 : ((fun v => v.category) ∘ xTr G) = fun (v : Value) => v.category := by funext v; exact xTr_cat G v
  have hcat' : ((st.map (xTr G)).map fun v => v.category).sum ≤ 8 := by
    rw [List.map_map, e9]
    exact Nat.le_of_ble_eq_true hcat
  have h1 : 1 ≤ R.frames := Nat.le_trans (Nat.le_of_ble_eq_true hfr) F.2.2.2.2.2.2.2.2.2.2.1
  have h2 : 21 ≤ R.locals := Nat.le_trans (Nat.le_of_ble_eq_true hlo) F.2.2.2.2.2.2.2.2.2.2.2.1
  exact va_mmax F.1 F.2.1 (F.2.2.1.trans hl.1.symm) F.own (F.env.w hw (Or.inl ⟨rfl, rfl⟩)) (F.env.w (List.mem_of_getElem? (i := 332) (by decide +kernel)) (Or.inl ⟨rfl, rfl⟩)) (F.env.w (List.mem_of_getElem? (i := 47) (by decide +kernel)) (Or.inl ⟨rfl, rfl⟩)) (F.env.w (List.mem_of_getElem? (i := 333) (by decide +kernel)) (Or.inl ⟨rfl, rfl⟩)) h1 (by omega) (by omega) (by omega) hd (k9 p l e R s m args below meth c lsA H locs cells slots F hl hH hS hc hs)
def xNm : List String := ["java/lang/RuntimeException", "java/lang/Exception"]
def xThrOk (own : String) (ik ic : Nat) (E : String) : Prop := Cond.classLink own ik E ∈ lw_tbl ∧ Cond.initialized E ∈ lw_tbl ∧ Bundle.fit E = true ∧ ∀ w ∈ vx_atS own ic E xNm, w ∈ lw_tbl ∧ xGoodP w
theorem xw_throw {E text : String} {ik is ic kc0 ks0 : Nat} (d0 : decode (xmB Y) pc = .ok (.new ik, 3)) (d3 : decode (xmB Y) (pc + 3) = .ok (.dup, 1)) (d4 : decode (xmB Y) (pc + 4) = .ok (.ldc is, 2)) (d6 : decode (xmB Y) (pc + 6) = .ok (.invokespecial ic, 3)) (d9 : decode (xmB Y) (pc + 9) = .ok (.athrow, 1))
    (hT : xThrOk (xmN Y).cls ik ic E) (htx : Cond.stringRef (xmN Y).cls is text ∈ lw_tbl) (hh : xmH Y = []) (hfr : Nat.ble 6 (xmF Y) = true) (hlo : Nat.ble 90 (xmW Y) = true) (hcat : Nat.ble (st.map fun v => v.category).sum 8 = true) (hkc : kc = kc0 + 1) (hks : ks = ks0 + 6) (hq : Qx (.inr E) hp) : xW G Y Qx pc ls st hp x kc ks := by
  intro p l e R s m args below meth c lsA H locs cells slots F hl hH hS hc hs
  have e9 : ((fun v => v.category) ∘ xTr G) = fun (v : Value) => v.category := by funext v; exact xTr_cat G v
  have hcat' : ((st.map (xTr G)).map fun v => v.category).sum ≤ 8 := by
    rw [List.map_map, e9]
    exact Nat.le_of_ble_eq_true hcat
  have h1 : 6 ≤ R.frames := Nat.le_trans (Nat.le_of_ble_eq_true hfr) F.2.2.2.2.2.2.2.2.2.2.1
  have h2 : 90 ≤ R.locals := Nat.le_trans (Nat.le_of_ble_eq_true hlo) F.2.2.2.2.2.2.2.2.2.2.2.1
  obtain ⟨hk, hini, hfit, hat⟩ := hT
  obtain ⟨sa, hsa⟩ := F.env.2.2.2.1 _ _ _ htx
  have hot : ∀ w : Cond, xGoodP w → vx_ot w = true := by
    intro w hg
    rcases hg with ⟨g1, -⟩ | ⟨ty, rfl⟩
    · unfold vx_ot; rw [g1]; rfl
    · rfl
  refine vx_throwS (names := xNm) (A := xAA G) (sa := sa) (text := text) F.1 F.2.1 F.2.2.2.2.2.2.2.2.2.2.2.2.1 F.own hfit (by decide) (F.env.w hk (Or.inl ⟨rfl, rfl⟩)) (F.env.w hini (Or.inl ⟨rfl, rfl⟩)) hsa (fun w hw => F.env.w (hat w hw).1 (hat w hw).2) (fun w hw => ?_) F.ro.2.2.1 F.ro.2.2.2 hS (hl.1.trans F.2.2.1.symm) d0 d3 d4 d6 d9 ?_ ?_ ?_ (by omega) (by omega) F.2.2.2.2.2.1 ?_ hS.2.2 (by omega) (by omega)
  · rcases List.mem_cons.mp hw with rfl | hw
    · exact hot _ (Or.inl ⟨rfl, rfl⟩)
    · rcases List.mem_cons.mp hw with rfl | hw
      · exact hot _ (Or.inl ⟨rfl, rfl⟩)
      · exact hot _ (hat w hw).2
  · intro z hz
    rw [F.2.2.2.2.2.2.1, hh] at hz
    cases hz
  · show 2 + 3 < R.frames
    omega
  · show _ + (13 * (2 + 1) + 43) ≤ R.locals
    omega
  · intro t hal h3 h4
    exact ⟨hp, hq, hH.1.kept (fun k q hk => h4 _ ((hH.1 k q hk).lt)), Nat.le_trans hS.1 h3, fun q g1 g2 => (h4 q (Nat.lt_of_lt_of_le g1 hS.1)).trans (hS.2.1 q g1 g2)⟩
theorem xt_out {E : String} (hh : xmH Y = []) (hq : Qx (.inr E) hp) : xT G Y Qx pc ls hp x E kc ks := by
  intro p l e R s m args below meth c lsA H locs cells slots q ce rest F hl hH hS hc hs hce hcv hcl
  refine vx_out (fun z hz => ?_) F.2.2.2.2.2.1 hce hcv hcl (fun t ht _ => ⟨hp, hq, by rw [ht]; exact hH, hS.F ht⟩) hS.2.2 (by omega) (by omega)
  rw [F.2.2.2.2.2.2.1, hh] at hz
  cases hz
end X4

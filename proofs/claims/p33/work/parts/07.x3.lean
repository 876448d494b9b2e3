/-! ===== xw: the heap's instructions ===== -/
def xFldOk (own : String) (idx ci f : Nat) (ty : FieldType) (fin : Bool) : Prop :=
  ∃ (C : String) (T : u_T) (N : Nat) (ty0 : Nat → FieldType), xCl[ci]? = some (C, T, N) ∧ f < N ∧ (∀ w ∈ u_ws C T N, w ∈ lw_tbl ∧ xGoodP w) ∧ (∀ k, k < N → parseFieldDescriptor (T k).2.2.1 = some (ty0 k)) ∧
    (∀ a, a < N → ∀ b, b < N → a ≠ b → (T a).2.1 ≠ (T b).2.1) ∧ ty0 f = ty ∧ (T f).2.2.2 = fin ∧
    (Cond.fieldLink own idx (T f).1 (T f).2.1 (T f).2.2.1 ∈ lw_tbl ∨ ∃ host, Cond.fieldLinkNest own idx (T f).1 (T f).2.1 (T f).2.2.1 host ∈ lw_tbl)
theorem xEnv.K {G : xG} {U : State} (h : xEnv G U) : va_K (xgD G) xCl (xTys G) U := h.1
theorem xEnv.w {G : xG} {U : State} (h : xEnv G U) {w : Cond} (hw : w ∈ lw_tbl) (hg : xGoodP w) {a' : Array Value} : w.before a' U = true := h.2.1 w hw hg a'
theorem xEnv.n {G : xG} {U : State} (h : xEnv G U) {w : Cond} (hw : w ∈ lw_tbl) (hg : xNest w = true) : va_Nw w U := h.2.2.1 w hw hg
theorem xFr.env {G : xG} {Y : xM} {p : Program} {l : Launch} {R : Room} {s : State} {m : MethodId} {meth : Method} {c : Code} (F : xFr G Y p l R s m meth c) : xEnv G s := F.2.2.2.2.2.2.2.2.1
theorem xFr.ro {G : xG} {Y : xM} {p : Program} {l : Launch} {R : Room} {s : State} {m : MethodId} {meth : Method} {c : Code} (F : xFr G Y p l R s m meth c) : xRO G s s.heap := F.2.2.2.2.2.2.2.2.2.1
theorem xFr.own {G : xG} {Y : xM} {p : Program} {l : Launch} {R : Room} {s : State} {m : MethodId} {meth : Method} {c : Code} (F : xFr G Y p l R s m meth c) : s.vm.findClass (xmN Y).cls = some m.cls := F.2.2.2.2.1
theorem xFr.lo {G : xG} {Y : xM} {p : Program} {l : Launch} {R : Room} {s : State} {m : MethodId} {meth : Method} {c : Code} (F : xFr G Y p l R s m meth c) : xgb G ≤ s.heap.size := F.2.2.2.2.2.2.2.2.2.2.2.2.2
theorem xFr.name {G : xG} {Y : xM} {p : Program} {l : Launch} {R : Room} {s : State} {m : MethodId} {meth : Method} {c : Code} (F : xFr G Y p l R s m meth c) : meth.name = (xmN Y).name := F.2.2.2.2.2.2.2.1
theorem xTight {p : Program} {l : Launch} {e : Env} {R : Room} {s : State} {m : MethodId} {args : Array Value} {below : List Frame} {meth : Method} {c : Code} {T : State} {locs : List Loc} {cells slots : Nat} (X : Stand p l e R s m args below meth c T locs cells slots) {c0 : Nat} (h : T.heap.size ≤ s.heap.size + c0) : Stand p l e R s m args below meth c T locs c0 slots :=
  ⟨X.admits, X.cas, X.clock, X.frames, X.room, X.hears, X.method, X.code, X.here, X.tail, X.warmed, X.limits, X.bytes, ⟨X.same.1, X.same.2.1, h, X.same.2.2.2⟩⟩
/-- the count of new cells as it is -/
theorem xW_tight {G : xG} {p : Program} {l : Launch} {e : Env} {R : Room} {s : State} {m : MethodId} {args : Array Value} {below : List Frame} {meth : Method} {c : Code} {H : Heap} {locs : List Loc} {cells slots : Nat} {Q : State → Prop} {g : JFrame} (hS : va_S (xAA G) s.heap H locs) (k : ∀ c0, H.size = s.heap.size + c0 → c0 ≤ cells → W p l e R s m args below meth c H locs c0 slots Q g) : W p l e R s m args below meth c H locs cells slots Q g := by
  intro T hT X
  have h1 := X.heapSize
  have h2 := hS.1
  rw [hT] at h1
  exact k (H.size - s.heap.size) (by omega) (by omega) T hT (xTight X (by rw [hT]; omega))
section X3
variable {G : xG} {Y : xM} {Qx : xO → List xE → Prop} {pc : Nat} {ls : List (Nat × Value)} {st : List Value} {hp : List xE} {x kc ks : Nat}
theorem xTr_set (fs : List Value) (f : Nat) (v : Value) : (fs.map (xTr G)).set f (xTr G v) = (fs.set f v).map (xTr G) := List.map_set.symm
theorem xw_get (pc' : Nat) {ci k f idx : Nat} {ty : FieldType} {fin : Bool} {fs : List Value} {v : Value} (hd : decode (xmB Y) pc = .ok (.getfield idx, 3)) (hn : pc + 3 = pc') (hF : xFldOk (xmN Y).cls idx ci f ty fin) (he : hp[k]? = some (.inr (ci, fs))) (hv : fs[f]? = some v) (k9 : xW G Y Qx pc' ls (v :: st) hp x kc ks) : xW G Y Qx pc ls (.ref k :: st) hp x kc ks := by
  subst hn
  intro p l e R s m args below meth c lsA H locs cells slots F hl hH hS hc hs
  obtain ⟨C, T, N, ty0, hci, hf, hG, hty, hnm, e1, e2, hw⟩ := hF
  have hv' : (fs.map (xTr G))[f]? = some (xTr G v) := by rw [List.getElem?_map, hv]; rfl
  have k9 := k9 p l e R s m args below meth c lsA H locs cells slots F hl hH hS hc hs
  rcases hw with hw | ⟨host, hw⟩
  · exact va_get F.1 F.2.1 (fun w h => F.env.w (hG w h).1 (hG w h).2) (fun _ h => h) F.own F.env.K hH.1 k (xWs_get he) hci f hf (F.env.w hw (Or.inl ⟨rfl, rfl⟩)) (fun _ h9 => h9) hv' hd k9
  · exact va_getN F.1 F.2.1 (fun w h => F.env.w (hG w h).1 (hG w h).2) (fun _ h => h) F.own F.env.K hH.1 k (xWs_get he) hci f hf (va_Nw.use rfl (F.env.n hw rfl)) (fun _ h9 => h9) hv' hd k9
theorem xw_put (pc' : Nat) {ci k f idx : Nat} {ty : FieldType} {fs fs' : List Value} {v : Value} {hp' : List xE} (hd : decode (xmB Y) pc = .ok (.putfield idx, 3)) (hn : pc + 3 = pc') (hF : xFldOk (xmN Y).cls idx ci f ty false) (he : hp[k]? = some (.inr (ci, fs))) (hnar : narrow ty (xTr G v) = xTr G v ∧ fits ty (xTr G v) = true) (hfl : Nat.blt f fs.length = true) (hfs : fs.set f v = fs') (hhp : hp.set k (.inr (ci, fs')) = hp') (k9 : xW G Y Qx pc' ls st hp' x kc ks) : xW G Y Qx pc ls (v :: .ref k :: st) hp x kc ks := by
  subst hn; subst hfs; subst hhp
  intro p l e R s m args below meth c lsA H locs cells slots F hl hH hS hc hs
  refine xW_tight hS fun c0 hz0 hc0 => ?_
  obtain ⟨C, T, N, ty0, hci, hf, hG, hty, hnm, e1, e2, hw⟩ := hF
  have hpt : parseFieldDescriptor (T f).2.2.1 = some ty := by rw [hty f hf, e1]
  have hfl' : f < (fs.map (xTr G)).length := by rw [List.length_map]; exact Nat.blt_eq.mp hfl
  rcases hw with hw | ⟨host, hw⟩
  · exact va_put F.1 F.2.1 (fun w h => F.env.w (hG w h).1 (hG w h).2) (fun _ h => h) ty0 hty hnm F.own F.env.K hH.1 (xWs_D G hp) hS k (xWs_get he) hci f hf (F.env.w hw (Or.inl ⟨rfl, rfl⟩)) (fun _ h9 => h9) e2 hpt hnar.1 hnar.2 hfl' hd (fun H1 locs1 hP1 hD1 hS1 => by
    have hP2 : va_P (xgD G) xCl (xWs G (hp.set k (.inr (ci, fs.set f v)))) H1 := by rw [← xWs_set]; rw [xTr_set] at hP1; exact hP1
    intro T1 hT1 X1
    have g1 := X1.heapSize
    rw [hT1] at g1
    exact k9 p l e R s m args below meth c lsA H1 locs1 c0 slots F hl ⟨hP2, by rw [List.length_set]; have := hH.2; omega⟩ hS1 (by omega) hs T1 hT1 X1)
  · exact va_putN F.1 F.2.1 (fun w h => F.env.w (hG w h).1 (hG w h).2) (fun _ h => h) ty0 hty hnm F.own F.env.K hH.1 (xWs_D G hp) hS k (xWs_get he) hci f hf (va_Nw.use rfl (F.env.n hw rfl)) (fun _ h9 => h9) e2 hpt hnar.1 hnar.2 hfl' hd (fun H1 locs1 hP1 hD1 hS1 => by
    have hP2 : va_P (xgD G) xCl (xWs G (hp.set k (.inr (ci, fs.set f v)))) H1 := by rw [← xWs_set]; rw [xTr_set] at hP1; exact hP1
    intro T1 hT1 X1
    have g1 := X1.heapSize
    rw [hT1] at g1
    exact k9 p l e R s m args below meth c lsA H1 locs1 c0 slots F hl ⟨hP2, by rw [List.length_set]; have := hH.2; omega⟩ hS1 (by omega) hs T1 hT1 X1)
theorem xw_putF (pc' : Nat) {ci k f idx : Nat} {ty : FieldType} {fs fs' : List Value} {v : Value} {hp' : List xE} (hd : decode (xmB Y) pc = .ok (.putfield idx, 3)) (hn : pc + 3 = pc') (hF : xFldOk (xmN Y).cls idx ci f ty true) (hin : (xmN Y).name = "<init>") (hwF : ∀ (C : String) (T : u_T) (N : Nat), xCl[ci]? = some (C, T, N) → Cond.fieldLink (xmN Y).cls idx (T f).1 (T f).2.1 (T f).2.2.1 ∈ lw_tbl ∧ (T f).1 = (xmN Y).cls) (he : hp[k]? = some (.inr (ci, fs))) (hnar : narrow ty (xTr G v) = xTr G v ∧ fits ty (xTr G v) = true) (hfl : Nat.blt f fs.length = true) (hfs : fs.set f v = fs') (hhp : hp.set k (.inr (ci, fs')) = hp') (k9 : xW G Y Qx pc' ls st hp' x kc ks) : xW G Y Qx pc ls (v :: .ref k :: st) hp x kc ks := by
  subst hn; subst hfs; subst hhp
  intro p l e R s m args below meth c lsA H locs cells slots F hl hH hS hc hs
  refine xW_tight hS fun c0 hz0 hc0 => ?_
  obtain ⟨C, T, N, ty0, hci, hf, hG, hty, hnm, e1, e2, hw⟩ := hF
  have hpt : parseFieldDescriptor (T f).2.2.1 = some ty := by rw [hty f hf, e1]
  have hfl' : f < (fs.map (xTr G)).length := by rw [List.length_map]; exact Nat.blt_eq.mp hfl
  exact va_putF F.1 F.2.1 (fun w h => F.env.w (hG w h).1 (hG w h).2) (fun _ h => h) ty0 hty hnm F.own F.env.K hH.1 (xWs_D G hp) hS k (xWs_get he) hci f hf (F.env.w (hwF C T N hci).1 (Or.inl ⟨rfl, rfl⟩)) (fun _ h9 => h9) e2 (F.name.trans hin) (hwF C T N hci).2 hpt hnar.1 hnar.2 hfl' hd (fun H1 locs1 hP1 hD1 hS1 => by
    have hP2 : va_P (xgD G) xCl (xWs G (hp.set k (.inr (ci, fs.set f v)))) H1 := by rw [← xWs_set]; rw [xTr_set] at hP1; exact hP1
    intro T1 hT1 X1
    have g1 := X1.heapSize
    rw [hT1] at g1
    exact k9 p l e R s m args below meth c lsA H1 locs1 c0 slots F hl ⟨hP2, by rw [List.length_set]; have := hH.2; omega⟩ hS1 (by omega) hs T1 hT1 X1)
theorem xw_iaload (pc' : Nat) {k n j : Nat} {f : Nat → Int32} {i : Int32} (hd : decode (xmB Y) pc = .ok (.iaload, 1)) (hn : pc + 1 = pc') (he : hp[k]? = some (.inl (0, n, .inl f))) (hi : i = nI j) (hj : j < n) (hb : j < 2 ^ 31) (k9 : xW G Y Qx pc' ls (.int (f j) :: st) hp x kc ks) : xW G Y Qx pc ls (.int i :: .ref k :: st) hp x kc ks := by
  subst hn; subst hi
  intro p l e R s m args below meth c lsA H locs cells slots F hl hH hS hc hs
  have hin : vp_in (nI j) n := vp_in_iff.mpr ⟨by rw [nI_toInt hb]; omega, by rw [nI_toInt hb]; omega⟩
  refine va_iald F.1 F.2.1 F.env.K hH.1 k 0 (xWs_get he) rfl hin hd ?_
  rw [nI_clamp hb]
  exact k9 p l e R s m args below meth c lsA H locs cells slots F hl hH hS hc hs
theorem xw_ialoadR (pc' : Nat) {j r : Nat} {i : Int32} (hd : decode (xmB Y) pc = .ok (.iaload, 1)) (hn : pc + 1 = pc') (hr : r < 4) (hi : i = nI j) (hj : j < (xgr G r).1) (hb : j < 2 ^ 31) (k9 : xW G Y Qx pc' ls (.int ((xgr G r).2 j) :: st) hp x kc ks) : xW G Y Qx pc ls (.int i :: .retAddr r :: st) hp x kc ks := by
  subst hn; subst hi
  intro p l e R s m args below meth c lsA H locs cells slots F hl hH hS hc hs
  have hin : vp_in (nI j) (xgr G r).1 := vp_in_iff.mpr ⟨by rw [nI_toInt hb]; omega, by rw [nI_toInt hb]; omega⟩
  refine va_ti F.1 F.2.1 (F.ro.1 r hr) hS hin (v := .int ((xgr G r).2 j)) (by show Value.int _ = _; rw [nI_clamp hb]) hd ?_
  exact k9 p l e R s m args below meth c lsA H locs cells slots F hl hH hS hc hs
theorem xw_alen (pc' : Nat) {k t : Nat} {a : vp_A} (hd : decode (xmB Y) pc = .ok (.arraylength, 1)) (hn : pc + 1 = pc') (ht : t < 2) (he : hp[k]? = some (.inl (t, a))) (k9 : xW G Y Qx pc' ls (.int (nI a.1) :: st) hp x kc ks) : xW G Y Qx pc ls (.ref k :: st) hp x kc ks := by
  subst hn
  intro p l e R s m args below meth c lsA H locs cells slots F hl hH hS hc hs
  have e1 : (xArr G a).1 = a.1 := by
    obtain ⟨n, f | f | f | f | f⟩ := a <;> rfl
  have ht' : ∃ ty, (xTys G)[t]? = some (xgA G t, ty) := by
    rcases (show t = 0 ∨ t = 1 by omega) with rfl | rfl <;> exact ⟨_, rfl⟩
  obtain ⟨ty, hty⟩ := ht'
  exact va_alen F.1 F.2.1 F.env.K hH.1 k t (xWs_get he) hty (by rw [e1]; rfl) hd (k9 p l e R s m args below meth c lsA H locs cells slots F hl hH hS hc hs)
theorem xw_alenR (pc' : Nat) {r : Nat} (hd : decode (xmB Y) pc = .ok (.arraylength, 1)) (hn : pc + 1 = pc') (hr : r < 4) (k9 : xW G Y Qx pc' ls (.int (nI (xgr G r).1) :: st) hp x kc ks) : xW G Y Qx pc ls (.retAddr r :: st) hp x kc ks := by
  subst hn
  intro p l e R s m args below meth c lsA H locs cells slots F hl hH hS hc hs
  exact va_tlen F.1 F.2.1 (F.ro.1 r hr) hS rfl hd (k9 p l e R s m args below meth c lsA H locs cells slots F hl hH hS hc hs)
theorem xw_iastore (pc' : Nat) {k n j : Nat} {f : Nat → Int32} {i v : Int32} {hp' : List xE} (hd : decode (xmB Y) pc = .ok (.iastore, 1)) (hn : pc + 1 = pc') (he : hp[k]? = some (.inl (0, n, .inl f))) (hi : i = nI j) (hj : j < n) (hb : j < 2 ^ 31) (hhp : hp.set k (.inl (0, n, .inl (upd f j v))) = hp') (k9 : xW G Y Qx pc' ls st hp' x kc ks) : xW G Y Qx pc ls (.int v :: .int i :: .ref k :: st) hp x kc ks := by
  subst hn; subst hi; subst hhp
  intro p l e R s m args below meth c lsA H locs cells slots F hl hH hS hc hs
  refine xW_tight hS fun c0 hz0 hc0 => ?_
  have hin : vp_in (nI j) n := vp_in_iff.mpr ⟨by rw [nI_toInt hb]; omega, by rw [nI_toInt hb]; omega⟩
  refine va_iast F.1 F.2.1 F.env.K hH.1 (xWs_D G hp) hS k 0 (xWs_get he) rfl hin hd (fun H1 locs1 hP1 hD1 hS1 => ?_)
  rw [nI_clamp hb] at hP1
  have hP2 : va_P (xgD G) xCl (xWs G (hp.set k (.inl (0, n, .inl (upd f j v))))) H1 := by rw [← xWs_set]; exact hP1
  intro T1 hT1 X1
  have g1 := X1.heapSize
  rw [hT1] at g1
  exact k9 p l e R s m args below meth c lsA H1 locs1 c0 slots F hl ⟨hP2, by rw [List.length_set]; have := hH.2; omega⟩ hS1 (by omega) hs T1 hT1 X1
theorem xw_aaload (pc' : Nat) {k n j a : Nat} {f : Nat → Option Nat} {i : Int32} (hd : decode (xmB Y) pc = .ok (.aaload, 1)) (hn : pc + 1 = pc') (he : hp[k]? = some (.inl (1, n, .inr (.inr (.inr (.inr f)))))) (hi : i = nI j) (hj : j < n) (hb : j < 2 ^ 31) (ha : f j = some a) (k9 : xW G Y Qx pc' ls (.ref a :: st) hp x kc ks) : xW G Y Qx pc ls (.int i :: .ref k :: st) hp x kc ks := by
  subst hn; subst hi
  intro p l e R s m args below meth c lsA H locs cells slots F hl hH hS hc hs
  have hin : vp_in (nI j) n := vp_in_iff.mpr ⟨by rw [nI_toInt hb]; omega, by rw [nI_toInt hb]; omega⟩
  refine va_aldq (C := RX3) F.1 F.2.1 F.env.K hH.1 k 1 (xWs_get he) rfl hin hd ?_
  rw [nI_clamp hb, ha]
  exact k9 p l e R s m args below meth c lsA H locs cells slots F hl hH hS hc hs
theorem xw_aastore (pc' : Nat) {k n j a : Nat} {f : Nat → Option Nat} {i : Int32} {vs : List Value} {hp' : List xE} (hd : decode (xmB Y) pc = .ok (.aastore, 1)) (hn : pc + 1 = pc') (he : hp[k]? = some (.inl (1, n, .inr (.inr (.inr (.inr f)))))) (hv : hp[a]? = some (.inr (3, vs))) (hi : i = nI j) (hj : j < n) (hb : j < 2 ^ 31) (hhp : hp.set k (.inl (1, n, .inr (.inr (.inr (.inr (va_up f j (some a))))))) = hp') (k9 : xW G Y Qx pc' ls st hp' x kc ks) : xW G Y Qx pc ls (.ref a :: .int i :: .ref k :: st) hp x kc ks := by
  subst hn; subst hi; subst hhp
  intro p l e R s m args below meth c lsA H locs cells slots F hl hH hS hc hs
  refine xW_tight hS fun c0 hz0 hc0 => ?_
  have hin : vp_in (nI j) n := vp_in_iff.mpr ⟨by rw [nI_toInt hb]; omega, by rw [nI_toInt hb]; omega⟩
  refine va_astq (r := (RX3, TX3, 10)) F.1 F.2.1 F.env.K hH.1 (xWs_D G hp) hS k 1 a 3 (xWs_get he) rfl (xWs_get hv) rfl hin hd (fun H1 locs1 hP1 hD1 hS1 => ?_)
  rw [nI_clamp hb] at hP1
  have e9 : va_up (fun i => (f i).map (fun k => xgb G + k)) j (some (xgb G + a)) = (fun i => (va_up f j (some a) i).map (fun k => xgb G + k)) := by
    funext i
    unfold va_up
    by_cases h : i = j
    · rw [if_pos h, if_pos h]; rfl
    · rw [if_neg h, if_neg h]
  rw [e9] at hP1
  have hP2 : va_P (xgD G) xCl (xWs G (hp.set k (.inl (1, n, .inr (.inr (.inr (.inr (va_up f j (some a))))))))) H1 := by rw [← xWs_set]; exact hP1
  intro T1 hT1 X1
  have g1 := X1.heapSize
  rw [hT1] at g1
  exact k9 p l e R s m args below meth c lsA H1 locs1 c0 slots F hl ⟨hP2, by rw [List.length_set]; have := hH.2; omega⟩ hS1 (by omega) hs T1 hT1 X1
/-- a static row of the class -/
def xStat (r : Nat) : String := match r with | 1 => "FIRST_VALUE" | 2 => "LEAST_VALUE" | _ => "GREATEST_VALUE"
theorem xRO.z {s : State} {H : Heap} (h : xRO G s H) {r : Nat} (hr : r = 1 ∨ r = 2 ∨ r = 3) : va_Z RX4 (xStat r) "[I" (.ref (xgo G r)) (xAA G) s H := by
  rcases hr with rfl | rfl | rfl
  · exact h.2.1.1
  · exact h.2.1.2.1
  · exact h.2.1.2.2
theorem xw_getstatic (pc' : Nat) {idx : Nat} (r : Nat) (hd : decode (xmB Y) pc = .ok (.getstatic idx, 3)) (hn : pc + 3 = pc') (hr : r = 1 ∨ r = 2 ∨ r = 3) (hw : Cond.fieldLink (xmN Y).cls idx RX4 (xStat r) "[I" ∈ lw_tbl ∨ ∃ host, Cond.fieldLinkNest (xmN Y).cls idx RX4 (xStat r) "[I" host ∈ lw_tbl) (k9 : xW G Y Qx pc' ls (.retAddr r :: st) hp x kc ks) : xW G Y Qx pc ls st hp x kc ks := by
  subst hn
  intro p l e R s m args below meth c lsA H locs cells slots F hl hH hS hc hs
  have hZ := F.ro.z hr
  have k9 := k9 p l e R s m args below meth c lsA H locs cells slots F hl hH hS hc hs
  rcases hw with hw | ⟨host, hw⟩
  · exact va_gets F.1 F.2.1 hZ hS F.own (F.env.w hw (Or.inl ⟨rfl, rfl⟩)) (fun _ h => h) hd k9
  · exact va_getsN F.1 F.2.1 hZ hS F.own (va_Nw.use rfl (F.env.n hw rfl)) (fun _ h => h) hd k9
/-- where the next new thing lies -/
theorem xNew_at {p : Program} {l : Launch} {e : Env} {R : Room} {s : State} {m : MethodId} {args : Array Value} {below : List Frame} {meth : Method} {c : Code} {T : State} {locs : List Loc} {cells slots : Nat} (X : Stand p l e R s m args below meth c T locs cells slots) (hH : xHp G hp 0 T.heap (s.heap.size + cells)) (hlo : xgb G ≤ T.heap.size) : T.heap.size = xgb G + hp.length := by
  have h1 := X.heapSize
  have h2 := hH.2
  cases hlen : hp.length with
  | zero => rw [hlen] at h2; omega
  | succ n =>
    have hg : hp[n]? = some (hp[n]'(by omega)) := List.getElem?_eq_getElem (by omega)
    have h3 := (hH.1 n _ (xWs_get hg)).lt
    dsimp only at h3
    rw [hlen] at h2
    omega
def xNewOk (own : String) (idx ci N : Nat) (fs : List Value) : Prop :=
  ∃ (C : String) (T : u_T) (ty0 : Nat → FieldType), xCl[ci]? = some (C, T, N) ∧ (∀ w ∈ u_ws C T N, w ∈ lw_tbl ∧ xGoodP w) ∧ (∀ k, k < N → parseFieldDescriptor (T k).2.2.1 = some (ty0 k)) ∧ (∀ j, j < N → defaultValue (ty0 j) = vp_V fs j) ∧
    Cond.classLink own idx C ∈ lw_tbl ∧ Cond.instantiable C N ∈ lw_tbl ∧ Cond.initialized C ∈ lw_tbl
theorem xw_new (pc' : Nat) {ci N idx kc0 ks0 : Nat} {fs : List Value} (hd : decode (xmB Y) pc = .ok (.new idx, 3)) (hn : pc + 3 = pc') (hF : xNewOk (xmN Y).cls idx ci N fs) (hfs : ∀ G' : xG, fs.map (xTr G') = fs) (hkc : kc = kc0 + 1) (hks : ks = ks0 + N) (k9 : xW G Y Qx pc' ls (.ref hp.length :: st) (hp ++ [.inr (ci, fs)]) 0 kc0 ks0) : xW G Y Qx pc ls st hp 0 kc ks := by
  subst hn; subst hkc; subst hks
  intro p l e R s m args below meth c lsA H locs cells slots F hl hH hS hc hs
  intro T0 hT0 X0
  obtain ⟨C, T, ty0, hci, hG, hty, hdf, hw1, hw2, hw3⟩ := hF
  have hz := xNew_at X0 (by rw [hT0]; exact hH) (by rw [hT0]; exact Nat.le_trans F.lo hS.1)
  rw [hT0] at hz
  have hKn := F.env.K.1 ci _ hci
  have hts : ∀ w ∈ u_ws C T N, w.before args s = true := fun w h => F.env.w (hG w h).1 (hG w h).2
  revert T0
  show W _ _ _ _ _ _ _ _ _ _ _ _ _ _ _ _
  refine W.newcK F.1 F.2.1 F.own (F.env.w hw1 (Or.inl ⟨rfl, rfl⟩)) (F.env.w hw2 (Or.inl ⟨rfl, rfl⟩)) (F.env.w hw3 (Or.inl ⟨rfl, rfl⟩)) rfl hd (by omega) (by omega) hKn.2.1 rfl fun H1 kC hkC e1 z1 o1 => ?_
  have hk : ∀ (k : Nat) (x : Nat × va_E), (xWs G hp)[k]? = some x → H1[x.1]? = H[x.1]? := fun k x hx => o1 x.1 ((hH.1 k x hx).lt)
  have hP1 : va_P (xgD G) xCl (xWs G (hp ++ [.inr (ci, fs)])) H1 := by
    rw [← xWs_push]
    refine (hH.1.kept hk).app (fun k x hx => ?_)
    have hzz : k < 1 := (List.getElem?_eq_some_iff.mp hx).1
    rw [show k = 0 by omega] at hx
    cases hx
    refine ⟨_, hci, ?_⟩
    show t_OB (xgb G + hp.length) _ _ _ _ (vp_V (fs.map (xTr G)))
    rw [hfs, ← hz]
    exact (u_born ty0 hts (fun _ h => h) hKn hkC e1 hty).to hdf
  have hS1 : va_S (xAA G) s.heap H1 locs := ⟨Nat.le_trans hS.1 (by omega), fun x h1 h2 => (o1 x (Nat.lt_of_lt_of_le h1 hS.1)).trans (hS.2.1 x h1 h2), hS.2.2⟩
  have k8 := k9 p l e R s m args below meth c lsA H1 locs (cells + 1) (slots + N) F hl ⟨hP1, by rw [List.length_append]; have := hH.2; simp only [List.length_cons, List.length_nil]; omega⟩ hS1 (by omega) (by omega)
  show W p l e R s m args below meth c H1 locs (cells + 1) (slots + N) (xTg G Qx below args s R) (F0 m (pc + 3) lsA (.ref H.size :: st.map (xTr G)))
  rw [hz]
  exact k8
theorem xw_newarray_int (pc' : Nat) {kc0 ks0 N : Nat} {n : Int32} (hd : decode (xmB Y) pc = .ok (.newarray .int, 2)) (hn : pc + 2 = pc') (hnn : n = nI N) (hN : N ≤ 100000) (hkc : kc = kc0 + 1) (hks : ks = ks0 + N) (k9 : xW G Y Qx pc' ls (.ref hp.length :: st) (hp ++ [.inl (0, N, .inl (fun _ => 0))]) 0 kc0 ks0) : xW G Y Qx pc ls (.int n :: st) hp 0 kc ks := by
  subst hn; subst hkc; subst hks; subst hnn
  intro p l e R s m args below meth c lsA H locs cells slots F hl hH hS hc hs
  intro T0 hT0 X0
  have hz := xNew_at X0 (by rw [hT0]; exact hH) (by rw [hT0]; exact Nat.le_trans F.lo hS.1)
  rw [hT0] at hz
  revert T0
  show W _ _ _ _ _ _ _ _ _ _ _ _ _ _ _ _
  have hb31 : N < 2 ^ 31 := by omega
  refine va_newaK F.1 F.2.1 (F.env.w (w := .arrayClass (newarray.typeOf .int)) (List.mem_of_getElem? (i := 85) (by decide +kernel)) (Or.inr ⟨_, rfl⟩)) rfl hd rfl (nI_pos hb31) (nI_clamp hb31) (by show N * 4 ≤ _; omega) (by omega) (by omega) rfl (fun H1 cA e1 z1 o1 hAr hNm => ?_)
  have hk : ∀ (k : Nat) (x : Nat × va_E), (xWs G hp)[k]? = some x → H1[x.1]? = H[x.1]? := fun k x hx => o1 x.1 ((hH.1 k x hx).lt)
  have hcA : cA = xgA G 0 := by
    have h9 := (F.env.K.2 0 _ rfl).2
    exact Option.some.inj ((by exact hNm : s.vm.findClass ("[" ++ FieldType.int.toString) = some cA).symm.trans h9)
  have hP1 : va_P (xgD G) xCl (xWs G (hp ++ [.inl (0, N, .inl (fun _ => 0))])) H1 := by
    rw [← xWs_push]
    refine (hH.1.kept hk).app (fun k x hx => ?_)
    have hzz : k < 1 := (List.getElem?_eq_some_iff.mp hx).1
    rw [show k = 0 by omega] at hx
    cases hx
    show H1[xgb G + hp.length]? = some (vp_cell (xgA G 0) _)
    rw [← hz, ← hcA, e1]
    rfl
  have hS1 : va_S (xAA G) s.heap H1 locs := ⟨Nat.le_trans hS.1 (by omega), fun x h1 h2 => (o1 x (Nat.lt_of_lt_of_le h1 hS.1)).trans (hS.2.1 x h1 h2), hS.2.2⟩
  have k8 := k9 p l e R s m args below meth c lsA H1 locs (cells + 1) (slots + N) F hl ⟨hP1, by rw [List.length_append]; have := hH.2; simp only [List.length_cons, List.length_nil]; omega⟩ hS1 (by omega) (by omega)
  show W p l e R s m args below meth c H1 locs (cells + 1) (slots + N) (xTg G Qx below args s R) (F0 m (pc + 2) lsA (.ref H.size :: st.map (xTr G)))
  rw [hz]
  exact k8
theorem xw_anewarray (pc' : Nat) {kc0 ks0 N idx : Nat} {n : Int32} (hd : decode (xmB Y) pc = .ok (.anewarray idx, 3)) (hn : pc + 3 = pc') (hw : Cond.classLink (xmN Y).cls idx RX3 ∈ lw_tbl) (hnn : n = nI N) (hN : N ≤ 100000) (hkc : kc = kc0 + 1) (hks : ks = ks0 + N) (k9 : xW G Y Qx pc' ls (.ref hp.length :: st) (hp ++ [.inl (1, N, .inr (.inr (.inr (.inr (fun _ => none)))))]) 0 kc0 ks0) : xW G Y Qx pc ls (.int n :: st) hp 0 kc ks := by
  subst hn; subst hkc; subst hks; subst hnn
  intro p l e R s m args below meth c lsA H locs cells slots F hl hH hS hc hs
  intro T0 hT0 X0
  have hz := xNew_at X0 (by rw [hT0]; exact hH) (by rw [hT0]; exact Nat.le_trans F.lo hS.1)
  rw [hT0] at hz
  revert T0
  show W _ _ _ _ _ _ _ _ _ _ _ _ _ _ _ _
  have hb31 : N < 2 ^ 31 := by omega
  refine W.anew F.1 F.2.1 F.own (F.env.w hw (Or.inl ⟨rfl, rfl⟩)) (va_AO.use F.env.2.2.2.2.1) rfl hd rfl (nI_pos hb31) (by rw [nI_clamp hb31]; omega) (by omega) (by rw [nI_clamp hb31]; omega) fun cA kA comp f1 f2 f3 f4 => ?_
  rw [nI_clamp hb31]
  generalize hH1 : H.push ({ cls := cA, slots := Array.replicate N .null, vm := .none } : Cell) = H1
  have z1 : H1.size = H.size + 1 := by rw [← hH1, Array.size_push]
  have e1 : H1[H.size]? = some (arrV cA N (fun _ => .null)) := by rw [← hH1, Array.getElem?_push_size, ← arrV_new]
  have o1 : ∀ q : Nat, q < H.size → H1[q]? = H[q]? := fun q hq => by rw [← hH1, Array.getElem?_push, if_neg (Nat.ne_of_lt hq)]
  have hk : ∀ (k : Nat) (x : Nat × va_E), (xWs G hp)[k]? = some x → H1[x.1]? = H[x.1]? := fun k x hx => o1 x.1 ((hH.1 k x hx).lt)
  have hcA : cA = xgA G 1 := by
    obtain ⟨kA9, comp9, g1, g2, g3, g4⟩ := (F.env.K.2 1 _ rfl).2
    exact Option.some.inj (f1.symm.trans g4)
  have hP1 : va_P (xgD G) xCl (xWs G (hp ++ [.inl (1, N, .inr (.inr (.inr (.inr (fun _ => none)))))])) H1 := by
    rw [← xWs_push]
    refine (hH.1.kept hk).app (fun k x hx => ?_)
    have hzz : k < 1 := (List.getElem?_eq_some_iff.mp hx).1
    rw [show k = 0 by omega] at hx
    cases hx
    show H1[xgb G + hp.length]? = some (vp_cell (xgA G 1) _)
    rw [← hz, ← hcA, e1]
    rfl
  have hS1 : va_S (xAA G) s.heap H1 locs := ⟨Nat.le_trans hS.1 (by omega), fun x h1 h2 => (o1 x (Nat.lt_of_lt_of_le h1 hS.1)).trans (hS.2.1 x h1 h2), hS.2.2⟩
  have k8 := k9 p l e R s m args below meth c lsA H1 locs (cells + 1) (slots + N) F hl ⟨hP1, by rw [List.length_append]; have := hH.2; simp only [List.length_cons, List.length_nil]; omega⟩ hS1 (by omega) (by omega)
  show W p l e R s m args below meth c H1 locs (cells + 1) (slots + N) (xTg G Qx below args s R) (F0 m (pc + 3) lsA (.ref H.size :: st.map (xTr G)))
  rw [hz]
  exact k8
end X3

/-! ===== the law: numbers of three bits, ten in an int (the first rows are the starting text BITS.to-paste) ===== -/
def bt (x : Int32) (i : Nat) : Bool := x.toBitVec.getLsbD i
theorem b_ext {x y : Int32} (h : ∀ i, i < 32 → bt x i = bt y i) : x = y := Int32.toBitVec_inj.mp (BitVec.eq_of_getLsbD_eq (fun i hi => h i hi))
theorem b_or (x y : Int32) (i : Nat) : bt (x ||| y) i = (bt x i || bt y i) := by unfold bt; rw [Int32.toBitVec_or, BitVec.getLsbD_or]
theorem b_and (x y : Int32) (i : Nat) : bt (x &&& y) i = (bt x i && bt y i) := by unfold bt; rw [Int32.toBitVec_and, BitVec.getLsbD_and]
theorem b_xor (x y : Int32) (i : Nat) : bt (x ^^^ y) i = (bt x i ^^ bt y i) := by unfold bt; rw [Int32.toBitVec_xor, BitVec.getLsbD_xor]
theorem b_big {x : Int32} {i : Nat} (h : 32 ≤ i) : bt x i = false := BitVec.getLsbD_of_ge _ _ h
theorem b_255 (i : Nat) : bt 255 i = decide (i < 8) := by
  rcases Nat.lt_or_ge i 32 with h | h
  · exact (by decide +kernel : ∀ i, i < 32 → bt 255 i = decide (i < 8)) i h
  · rw [b_big h, decide_eq_false (by omega)]
theorem b_65535 (i : Nat) : bt 65535 i = decide (i < 16) := by
  rcases Nat.lt_or_ge i 32 with h | h
  · exact (by decide +kernel : ∀ i, i < 32 → bt 65535 i = decide (i < 16)) i h
  · rw [b_big h, decide_eq_false (by omega)]
theorem b_m1 : ∀ i, i < 32 → bt (-1) i = true := by decide +kernel
theorem b_0 (i : Nat) : bt 0 i = false := BitVec.getLsbD_zero
theorem s_l : ∀ n, n < 32 → ((nI n &&& 31).toBitVec.smod 32).toNat = n := by decide +kernel
theorem s_u : ∀ n, n < 32 → (((nI n).toUInt32 &&& Int32.toUInt32 31).toBitVec % 32).toNat = n := by decide +kernel
theorem b_shl (n : Nat) (hn : n < 32) (x : Int32) {i : Nat} (hi : i < 32) : bt (x <<< (nI n &&& 31)) i = (decide (n ≤ i) && bt x (i - n)) := by
  unfold bt
  rw [Int32.toBitVec_shiftLeft]
  show (x.toBitVec <<< ((nI n &&& 31).toBitVec.smod 32).toNat).getLsbD i = _
  rw [s_l n hn, BitVec.getLsbD_shiftLeft]
  rcases Nat.lt_or_ge i n with h | h
  · simp [h, Nat.not_le.mpr h]
  · simp [hi, h, Nat.not_lt.mpr h]
theorem b_sshr (n : Nat) (hn : n < 32) (x : Int32) {i : Nat} (hi : i < 32) : bt (x >>> (nI n &&& 31)) i = if n + i < 32 then bt x (n + i) else bt x 31 := by
  unfold bt
  rw [Int32.toBitVec_shiftRight]
  show (x.toBitVec.sshiftRight ((nI n &&& 31).toBitVec.smod 32).toNat).getLsbD i = _
  rw [s_l n hn, BitVec.getLsbD_sshiftRight, BitVec.msb_eq_getLsbD_last]
  simp [hi]
def bcol (f : Nat → Int32) (i : Nat) : Int32 := (f (i / 10) >>> (nI (3 * (i % 10)) &&& 31)) &&& nI 7
def bset (v : Int32) (a c : Nat) : Int32 := (v &&& ((nI 7 <<< (nI (3 * a) &&& 31)) ^^^ (-1))) ||| (nI c <<< (nI (3 * a) &&& 31))
def lput (f : Nat → Int32) (i c : Nat) : Nat → Int32 := upd f (i / 10) (bset (f (i / 10)) (i % 10) c)
theorem bt_7 : ∀ t, t < 32 → bt (nI 7) t = decide (t < 3) := by decide +kernel
theorem bt_s : ∀ c, c < 8 → ∀ t, t < 32 → 3 ≤ t → bt (nI c) t = false := by decide +kernel
theorem bset_bt {v : Int32} {a c t : Nat} (ha : a < 10) (ht : t < 32) : bt (bset v a c) t = ((bt v t && !(decide (3 * a ≤ t) && decide (t - 3 * a < 3))) || (decide (3 * a ≤ t) && bt (nI c) (t - 3 * a))) := by
  unfold bset
  rw [b_or, b_and, b_xor, b_shl (3 * a) (by omega) _ ht, b_shl (3 * a) (by omega) _ ht, bt_7 _ (by omega), b_m1 t ht, Bool.xor_true]
theorem bset_at {v : Int32} {a c : Nat} (ha : a < 10) (hc : c < 8) : (bset v a c >>> (nI (3 * a) &&& 31)) &&& nI 7 = nI c := by
  apply b_ext
  intro t ht
  rw [b_and, bt_7 t ht]
  by_cases h : t < 3
  · rw [decide_eq_true h, Bool.and_true, b_sshr (3 * a) (by omega) _ ht, if_pos (by omega), bset_bt ha (by omega), show 3 * a + t - 3 * a = t by omega, decide_eq_true h, decide_eq_true (show 3 * a ≤ 3 * a + t by omega)]
    simp
  · rw [decide_eq_false h, Bool.and_false, bt_s c hc t ht (by omega)]
theorem bset_ne {v : Int32} {a b c : Nat} (ha : a < 10) (hb : b < 10) (hne : a ≠ b) (hc : c < 8) : (bset v a c >>> (nI (3 * b) &&& 31)) &&& nI 7 = (v >>> (nI (3 * b) &&& 31)) &&& nI 7 := by
  apply b_ext
  intro t ht
  rw [b_and, b_and, bt_7 t ht]
  by_cases h : t < 3
  · rw [decide_eq_true h, Bool.and_true, Bool.and_true, b_sshr (3 * b) (by omega) _ ht, b_sshr (3 * b) (by omega) _ ht, if_pos (by omega), if_pos (by omega), bset_bt ha (by omega)]
    by_cases h1 : 3 * a ≤ 3 * b + t
    · rw [decide_eq_true h1, decide_eq_false (show ¬ 3 * b + t - 3 * a < 3 by omega), bt_s c hc _ (by omega) (by omega)]
      simp
    · rw [decide_eq_false h1]
      simp
  · rw [decide_eq_false h, Bool.and_false, Bool.and_false]
theorem lput_at {f : Nat → Int32} {i c : Nat} (hc : c < 8) : bcol (lput f i c) i = nI c := by
  unfold bcol lput
  rw [upd_at]
  exact bset_at (Nat.mod_lt _ (by decide)) hc
theorem lput_ne {f : Nat → Int32} {i j c : Nat} (hc : c < 8) (h : j ≠ i) : bcol (lput f i c) j = bcol f j := by
  unfold bcol lput
  by_cases e : j / 10 = i / 10
  · rw [e, upd_at]
    exact bset_ne (Nat.mod_lt _ (by decide)) (Nat.mod_lt _ (by decide)) (by omega) hc
  · rw [upd_ne e]
/-! ===== the law: instructions and calls more ===== -/
def xus (a b : Int32) : Int32 := (a.toUInt32 >>> (b.toUInt32 &&& Int32.toUInt32 31)).toInt32
section P40
variable {G : xG} {Y : xM} {Qx : xO → List xE → Prop} {pc : Nat} {ls : List (Nat × Value)} {st : List Value} {hp : List xE} {x kc ks : Nat}
theorem xw_ishl (pc' : Nat) {a b : Int32} (hd : decode (xmB Y) pc = .ok (.ishl, 1)) (hn : pc + 1 = pc') (k : xW G Y Qx pc' ls (.int (a <<< (b &&& 31)) :: st) hp x kc ks) : xW G Y Qx pc ls (.int b :: .int a :: st) hp x kc ks := by
  subst hn
  intro p l e R s m args below meth c lsA H locs cells slots F hl hH hS hc hs
  exact lv_ishl F.1 F.2.1 hd (k p l e R s m args below meth c lsA H locs cells slots F hl hH hS hc hs)
theorem xw_ishr (pc' : Nat) {a b : Int32} (hd : decode (xmB Y) pc = .ok (.ishr, 1)) (hn : pc + 1 = pc') (k : xW G Y Qx pc' ls (.int (a >>> (b &&& 31)) :: st) hp x kc ks) : xW G Y Qx pc ls (.int b :: .int a :: st) hp x kc ks := by
  subst hn
  intro p l e R s m args below meth c lsA H locs cells slots F hl hH hS hc hs
  exact lv_ishr F.1 F.2.1 hd (k p l e R s m args below meth c lsA H locs cells slots F hl hH hS hc hs)
theorem xw_iushr (pc' : Nat) {a b : Int32} (hd : decode (xmB Y) pc = .ok (.iushr, 1)) (hn : pc + 1 = pc') (k : xW G Y Qx pc' ls (.int (xus a b) :: st) hp x kc ks) : xW G Y Qx pc ls (.int b :: .int a :: st) hp x kc ks := by
  subst hn
  intro p l e R s m args below meth c lsA H locs cells slots F hl hH hS hc hs
  exact lv_iushr F.1 F.2.1 hd rfl (k p l e R s m args below meth c lsA H locs cells slots F hl hH hS hc hs)
theorem xw_ior (pc' : Nat) {a b : Int32} (hd : decode (xmB Y) pc = .ok (.ior, 1)) (hn : pc + 1 = pc') (k : xW G Y Qx pc' ls (.int (a ||| b) :: st) hp x kc ks) : xW G Y Qx pc ls (.int b :: .int a :: st) hp x kc ks := by
  subst hn
  intro p l e R s m args below meth c lsA H locs cells slots F hl hH hS hc hs
  exact lv_ior F.1 F.2.1 hd (k p l e R s m args below meth c lsA H locs cells slots F hl hH hS hc hs)
theorem xw_ixor (pc' : Nat) {a b : Int32} (hd : decode (xmB Y) pc = .ok (.ixor, 1)) (hn : pc + 1 = pc') (k : xW G Y Qx pc' ls (.int (a ^^^ b) :: st) hp x kc ks) : xW G Y Qx pc ls (.int b :: .int a :: st) hp x kc ks := by
  subst hn
  intro p l e R s m args below meth c lsA H locs cells slots F hl hH hS hc hs
  exact lv_ixor F.1 F.2.1 hd (k p l e R s m args below meth c lsA H locs cells slots F hl hH hS hc hs)
theorem xw_pop (pc' : Nat) {v : Value} (hd : decode (xmB Y) pc = .ok (.pop, 1)) (hn : pc + 1 = pc') (hv : v.category = 1) (k : xW G Y Qx pc' ls st hp x kc ks) : xW G Y Qx pc ls (v :: st) hp x kc ks := by
  subst hn
  intro p l e R s m args below meth c lsA H locs cells slots F hl hH hS hc hs
  exact lv_pop F.1 F.2.1 hd ((xTr_cat G v).trans hv) (k p l e R s m args below meth c lsA H locs cells slots F hl hH hS hc hs)
theorem xw_dup_x2 (pc' : Nat) {u v w : Value} (hd : decode (xmB Y) pc = .ok (.dup_x2, 1)) (hn : pc + 1 = pc') (hu : u.category = 1) (hv : v.category = 1) (hw : w.category = 1) (k : xW G Y Qx pc' ls (u :: v :: w :: u :: st) hp x kc ks) : xW G Y Qx pc ls (u :: v :: w :: st) hp x kc ks := by
  subst hn
  intro p l e R s m args below meth c lsA H locs cells slots F hl hH hS hc hs
  exact lv_dup_x2 F.1 F.2.1 hd ((xTr_cat G u).trans hu) ((xTr_cat G v).trans hv) ((xTr_cat G w).trans hw) (k p l e R s m args below meth c lsA H locs cells slots F hl hH hS hc hs)
theorem xw_ialv (pc' : Nat) {k n j : Nat} {f : Nat → Int32} {i v : Int32} (hd : decode (xmB Y) pc = .ok (.iaload, 1)) (hn : pc + 1 = pc') (he : hp[k]? = some (.inl (0, n, .inl f))) (hi : i = nI j) (hj : j < n) (hb : j < 2 ^ 31) (hv : f j = v) (k9 : xW G Y Qx pc' ls (.int v :: st) hp x kc ks) : xW G Y Qx pc ls (.int i :: .ref k :: st) hp x kc ks := by
  subst hv
  exact xw_iaload pc' hd hn he hi hj hb k9
variable {Y' : xM} {n idx : Nat} {ar : List Value} {rest : List Value} {h1 : List xE} {k ci : Nat} {fs : List Value} {v : Value} {Qx' : xO → List xE → Prop} {a b kc0 ks0 : Nat}
theorem xw_lVQ (pc' : Nat) (hd : decode (xmB Y) pc = .ok (.invokevirtual idx, 3)) (hpc : pc + 3 = pc') (hok : xMok Y' n) (hw : Cond.methodLink (xmN Y).cls idx (xmN Y') ∈ lw_tbl ∧ Cond.instanceMethod (xmN Y') ∈ lw_tbl ∧ Cond.selects (xmN Y').cls (xmN Y') (xmN Y') ∈ lw_tbl) (hM : xMet G Y' (.ref k :: ar) hp x a b Qx') (hnt : ∀ E hp', ¬ Qx' (.inr E) hp') (hob : hp[k]? = some (.inr (ci, fs))) (hci : (xCl[ci]?).map (fun r => r.1) = some (xmN Y').cls) (hn : ar.length = n) (ha : Nat.ble (lg_sl (.ref k :: ar)).length (xmL Y') = true) (hst : st = ar.reverse ++ .ref k :: rest) (hcat : Nat.ble (rest.map fun v => v.category).sum 8 = true) (hfr : Nat.ble (xmF Y' + 1) (xmF Y) = true) (hlo : Nat.ble (8 + (xmL Y' + 11) + xmW Y') (xmW Y) = true) (hkc : kc = kc0 + a) (hks : ks = ks0 + b)
    (kk : ∀ ov hp', Qx' (.inl ov) hp' → xW G Y Qx pc' ls (ov.toList ++ rest) hp' x kc0 ks0) : xW G Y Qx pc ls st hp x kc ks := by
  subst hpc
  exact xw_callV (x' := hp.length + x + a) hd hok hw hM hob hci hn ha hst hcat hfr hlo (hkc.trans (Nat.add_comm _ _)) (hks.trans (Nat.add_comm _ _)) (fun o hp' h => Nat.le_add_left _ _) (fun ov hp' h => xW.anyx x (kk ov hp' h)) (fun E hp' h => (hnt E hp' h).elim)
theorem xw_lSQ (pc' : Nat) (hd : decode (xmB Y) pc = .ok (.invokestatic idx, 3)) (hpc : pc + 3 = pc') (hok : xMok Y' n) (hw : Cond.methodLink (xmN Y).cls idx (xmN Y') ∈ lw_tbl ∧ Cond.static (xmN Y') ∈ lw_tbl) (hM : xMet G Y' ar hp x a b Qx') (hnt : ∀ E hp', ¬ Qx' (.inr E) hp') (hn : ar.length = n) (ha : Nat.ble (lg_sl ar).length (xmL Y') = true) (hst : st = ar.reverse ++ rest) (hcat : Nat.ble (rest.map fun v => v.category).sum 8 = true) (hfr : Nat.ble (xmF Y' + 1) (xmF Y) = true) (hlo : Nat.ble (8 + (xmL Y' + 11) + xmW Y') (xmW Y) = true) (hkc : kc = kc0 + a) (hks : ks = ks0 + b)
    (kk : ∀ ov hp', Qx' (.inl ov) hp' → xW G Y Qx pc' ls (ov.toList ++ rest) hp' x kc0 ks0) : xW G Y Qx pc ls st hp x kc ks := by
  subst hpc
  exact xw_callS (x' := hp.length + x + a) hd hok hw hM hn ha hst hcat hfr hlo (hkc.trans (Nat.add_comm _ _)) (hks.trans (Nat.add_comm _ _)) (fun o hp' h => Nat.le_add_left _ _) (fun ov hp' h => xW.anyx x (kk ov hp' h)) (fun E hp' h => (hnt E hp' h).elim)
theorem xw_lV (pc' : Nat) (hd : decode (xmB Y) pc = .ok (.invokevirtual idx, 3)) (hpc : pc + 3 = pc') (hok : xMok Y' n) (hw : Cond.methodLink (xmN Y).cls idx (xmN Y') ∈ lw_tbl ∧ Cond.instanceMethod (xmN Y') ∈ lw_tbl ∧ Cond.selects (xmN Y').cls (xmN Y') (xmN Y') ∈ lw_tbl) (hM : xMet G Y' (.ref k :: ar) hp x a b (xRetV v h1)) (hob : hp[k]? = some (.inr (ci, fs))) (hci : (xCl[ci]?).map (fun r => r.1) = some (xmN Y').cls) (hn : ar.length = n) (ha : Nat.ble (lg_sl (.ref k :: ar)).length (xmL Y') = true) (hst : st = ar.reverse ++ .ref k :: rest) (hcat : Nat.ble (rest.map fun v => v.category).sum 8 = true) (hfr : Nat.ble (xmF Y' + 1) (xmF Y) = true) (hlo : Nat.ble (8 + (xmL Y' + 11) + xmW Y') (xmW Y) = true) (hkc : kc = kc0 + a) (hks : ks = ks0 + b)
    (kk : xW G Y Qx pc' ls (v :: rest) h1 x kc0 ks0) : xW G Y Qx pc ls st hp x kc ks :=
  xw_lVQ pc' hd hpc hok hw hM xRet_nt hob hci hn ha hst hcat hfr hlo hkc hks (fun ov hp' h => by obtain ⟨e1, e2⟩ := h; cases e1; subst e2; exact kk)
theorem xw_lS (pc' : Nat) (hd : decode (xmB Y) pc = .ok (.invokestatic idx, 3)) (hpc : pc + 3 = pc') (hok : xMok Y' n) (hw : Cond.methodLink (xmN Y).cls idx (xmN Y') ∈ lw_tbl ∧ Cond.static (xmN Y') ∈ lw_tbl) (hM : xMet G Y' ar hp x a b (xRetV v h1)) (hn : ar.length = n) (ha : Nat.ble (lg_sl ar).length (xmL Y') = true) (hst : st = ar.reverse ++ rest) (hcat : Nat.ble (rest.map fun v => v.category).sum 8 = true) (hfr : Nat.ble (xmF Y' + 1) (xmF Y) = true) (hlo : Nat.ble (8 + (xmL Y' + 11) + xmW Y') (xmW Y) = true) (hkc : kc = kc0 + a) (hks : ks = ks0 + b)
    (kk : xW G Y Qx pc' ls (v :: rest) h1 x kc0 ks0) : xW G Y Qx pc ls st hp x kc ks :=
  xw_lSQ pc' hd hpc hok hw hM xRet_nt hn ha hst hcat hfr hlo hkc hks (fun ov hp' h => by obtain ⟨e1, e2⟩ := h; cases e1; subst e2; exact kk)
/-- a call that only tells and doesn't throw, as one with one answer -/
theorem xQr_ok {r : Nat × Int32} {E1 E2 : String} {u : Int32} (h : xMet G Y ar hp x a b (xQr h1 r E1 E2)) (e : r = (0, u)) : xMet G Y ar hp x a b (xRetV (.int u) h1) :=
  xW.post h (fun o hp' q => by subst e; exact ⟨q.1, q.2⟩)
/-- a call that changes and doesn't throw -/
def xQ3 (T : List xE) (u : Int32) (s : xCS) : xO → List xE → Prop := fun o hp' => o = .inl (some (.int u)) ∧ ∃ (w' : Nat → Int32) (sx : xSx), xag w' s.1 ∧ hp' = cHp (w', s.2) sx T
theorem xQ3_ok {T : List xE} {r : Nat × Int32} {s : xCS} {E1 E2 : String} {u : Int32} (h : xMet G Y ar hp x a b (xQc3 T r s E1 E2)) (e : r = (0, u)) : xMet G Y ar hp x a b (xQ3 T u s) :=
  xW.post h (fun o hp' q => by subst e; exact ⟨q.1, q.2⟩)
theorem lq_nt {T : List xE} {u : Int32} {s : xCS} : ∀ (E : String) (hp' : List xE), ¬ xQ3 T u s (.inr E) hp' := fun E hp' h => by cases h.1
end P40
/-- what the law has: its numbers, its chart, its beads, the beginnings of its strings; the rows of wanted beads behind them -/
def lT (n ch be st : Nat → Int32) (J : List xE) : List xE := .inl (0, 28, .inl n) :: .inl (0, 12, .inl ch) :: .inl (0, 24, .inl be) :: .inl (0, 50, .inl st) :: J
def lH (s : xCS) (sx : xSx) (n ch be st : Nat → Int32) (J : List xE) : List xE := cHp s sx (lT n ch be st J)

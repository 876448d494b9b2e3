/-! ===== the workshop: the best slant, the best turn, the digest ===== -/
section P26a
variable {G : xG} {Y : xM} {Qx : xO → List xE → Prop} {pc : Nat} {ls : List (Nat × Value)} {st : List Value} {hp : List xE} {x kc ks : Nat}
variable {Y' : xM} {Qx' : xO → List xE → Prop} {n idx : Nat} {ar : List Value} {rest : List Value} {k ci : Nat} {fs : List Value} {host : String}
/-- a call whose end is told by a property of the heap; nothing is thrown, nothing made -/
theorem xw_qV (pc' : Nat) (hd : decode (xmB Y) pc = .ok (.invokevirtual idx, 3)) (hpc : pc + 3 = pc') (hok : xMok Y' n) (hw : Cond.methodLink (xmN Y).cls idx (xmN Y') ∈ lw_tbl ∧ Cond.instanceMethod (xmN Y') ∈ lw_tbl ∧ Cond.selects (xmN Y').cls (xmN Y') (xmN Y') ∈ lw_tbl) (hM : xMet G Y' (.ref k :: ar) hp x 0 0 Qx') (hnt : ∀ E hp', ¬ Qx' (.inr E) hp') (hl : ∀ o hp', Qx' o hp' → hp.length = hp'.length) (hob : hp[k]? = some (.inr (ci, fs))) (hci : (xCl[ci]?).map (fun r => r.1) = some (xmN Y').cls) (hn : ar.length = n) (ha : Nat.ble (lg_sl (.ref k :: ar)).length (xmL Y') = true) (hst : st = ar.reverse ++ .ref k :: rest) (hcat : Nat.ble (rest.map fun v => v.category).sum 8 = true) (hfr : Nat.ble (xmF Y' + 1) (xmF Y) = true) (hlo : Nat.ble (8 + (xmL Y' + 11) + xmW Y') (xmW Y) = true) (kk : ∀ ov hp', Qx' (.inl ov) hp' → xW G Y Qx pc' ls (ov.toList ++ rest) hp' x kc ks) : xW G Y Qx pc ls st hp x kc ks := by
  subst hpc
  exact xw_callV hd hok hw hM hob hci hn ha hst hcat hfr hlo (Nat.zero_add _).symm (Nat.zero_add _).symm (fun o hp' h => by rw [hl o hp' h]; exact Nat.le_refl _) kk (fun E hp' h => (hnt E hp' h).elim)
theorem xw_qVN (pc' : Nat) (hd : decode (xmB Y) pc = .ok (.invokevirtual idx, 3)) (hpc : pc + 3 = pc') (hok : xMok Y' n) (hw : Cond.methodLinkNest (xmN Y).cls idx (xmN Y') host ∈ lw_tbl ∧ Cond.instanceMethod (xmN Y') ∈ lw_tbl ∧ Cond.selects (xmN Y').cls (xmN Y') (xmN Y') ∈ lw_tbl) (hM : xMet G Y' (.ref k :: ar) hp x 0 0 Qx') (hnt : ∀ E hp', ¬ Qx' (.inr E) hp') (hl : ∀ o hp', Qx' o hp' → hp.length = hp'.length) (hob : hp[k]? = some (.inr (ci, fs))) (hci : (xCl[ci]?).map (fun r => r.1) = some (xmN Y').cls) (hn : ar.length = n) (ha : Nat.ble (lg_sl (.ref k :: ar)).length (xmL Y') = true) (hst : st = ar.reverse ++ .ref k :: rest) (hcat : Nat.ble (rest.map fun v => v.category).sum 8 = true) (hfr : Nat.ble (xmF Y' + 1) (xmF Y) = true) (hlo : Nat.ble (8 + (xmL Y' + 11) + xmW Y') (xmW Y) = true) (kk : ∀ ov hp', Qx' (.inl ov) hp' → xW G Y Qx pc' ls (ov.toList ++ rest) hp' x kc ks) : xW G Y Qx pc ls st hp x kc ks := by
  subst hpc
  exact xw_callVN hd hok hw hM hnt hob hci hn ha hst hcat hfr hlo (Nat.zero_add _).symm (Nat.zero_add _).symm (fun o hp' h => by rw [hl o hp' h]; exact Nat.le_refl _) kk
end P26a
/-- what the class's three rows of numbers hold -/
def xSta (G : xG) : Prop :=
  ((xgr G 1).1 = 4 ∧ (xgr G 1).2 0 = nI 6 ∧ (xgr G 1).2 1 = nI 1 ∧ (xgr G 1).2 2 = nI 40 ∧ (xgr G 1).2 3 = nI 0) ∧
  ((xgr G 2).1 = 4 ∧ (xgr G 2).2 0 = nI 3 ∧ (xgr G 2).2 1 = nI 0 ∧ (xgr G 2).2 2 = nI 5 ∧ (xgr G 2).2 3 = nI 0) ∧
  ((xgr G 3).1 = 4 ∧ (xgr G 3).2 0 = nI 15 ∧ (xgr G 3).2 1 = nI 11 ∧ (xgr G 3).2 2 = nI 240 ∧ (xgr G 3).2 3 = nI 5)
theorem S_B_at_rov {G : xG} {hp : List xE} {x r j : Nat} {i v : Int32} (hr : r < 4) (hn : (xgr G r).1 = 4) (hi : i = nI j) (hj : j < 4) (hv : (xgr G r).2 j = v) : xMet G B_at [.retAddr r, .int i] hp x 0 0 (xRetV (.int v) hp) := by
  subst hv
  exact S_B_at_ro hr (by rw [hn]; decide) hi (by rw [hn]; exact hj)
section P26
variable {G : xG} {hp : List xE} {x : Nat} {w : Nat → Int32} {sv : Nat → Nat → Int32} {qo qm : Int32} {ql : Int32} {co : Nat → Int32} {sx : xSx} {T : List xE}
end P26

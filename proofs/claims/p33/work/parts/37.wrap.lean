/-! ===== the law: its wrappers ===== -/
section P58a
variable {G : xG} {Y : xM} {Qx : xO → List xE → Prop} {pc : Nat} {ls : List (Nat × Value)} {st : List Value} {hp : List xE} {x kc ks : Nat}
theorem xt_catchA {E : String} (pre : List (Nat × Nat × Nat × Nat)) {sa ea hpc ct : Nat} {suf : List (Nat × Nat × Nat × Nat)} {n : Nat} {ls' : List (Nat × Value)} (pc' : Nat) (hh : xmH Y = pre ++ (sa, ea, hpc, ct) :: suf)
    (hpass : ∀ z ∈ pre, z.2.2.2 ≠ 0 ∧ ∃ nm : String, Cond.classLink (xmN Y).cls z.2.2.2 nm ∈ lw_tbl ∧ (E, nm) ∈ xNoc) (h0 : ct ≠ 0) (hcov : covers ⟨sa, ea, hpc, ct⟩ pc = true) (hw : Cond.classLink (xmN Y).cls ct E ∈ lw_tbl ∧ Cond.castable E E ∈ lw_tbl)
    (hd : decode (xmB Y) hpc = .ok (.astore n, 2)) (hn : hpc + 2 = pc') (hi : Nat.blt n (xmL Y) = true) (hls : xdel ls n = ls') (k9 : xW G Y Qx pc' ls' [] hp x kc ks) : xT G Y Qx pc ls hp x E kc ks := by
  subst hn; subst hls
  intro p l e R s m args below meth c lsA H locs cells slots q ce rest F hl hH hS hc hs hce hcv hcl
  refine vx_catch (own := (xmN Y).cls) (name := E) F.own (tableOf pre) ⟨sa, ea, hpc, ct⟩ (tableOf suf) (by rw [F.2.2.2.2.2.2.1, hh]; simp [tableOf]) (fun z hz => ?_) hcov h0 (F.env.w hw.1 (Or.inl ⟨rfl, rfl⟩)) (F.env.w hw.2 (Or.inl ⟨rfl, rfl⟩)) hce hcv hcl ?_
  · obtain ⟨z0, hz0, rfl⟩ := List.mem_map.mp hz
    obtain ⟨g1, nm, g2, g3⟩ := hpass z0 hz0
    exact Or.inr ⟨g1, nm, F.env.w g2 (Or.inl ⟨rfl, rfl⟩), F.env.2.2.2.2.2 _ g3⟩
  · refine lv_astore (lv' := (n, .ref q) :: xLs G (xdel ls n)) F.1 F.2.1 hd hl (Nat.blt_eq.mp hi) (by rw [xdel_eq]) (fun lsB hlB => ?_)
    exact k9 p l e R s m args below meth c lsB H locs cells slots F ⟨hlB.1, hlB.2.1, fun z hz => hlB.2.2 z (List.mem_cons_of_mem _ hz)⟩ hH hS hc hs
variable {Y' : xM} {n idx : Nat} {ar : List Value} {rest : List Value} {r : Nat × Int32} {s s' : xCS} {sx : xSx} {T : List xE} {E1 E2 : String}
/-- a call of the workshop, by its kind -/
theorem xw_kV (pc' : Nat) (hd : decode (xmB Y) pc = .ok (.invokevirtual idx, 3)) (hpc : pc + 3 = pc') (hok : xMok Y' n) (hw : Cond.methodLink (xmN Y).cls idx (xmN Y') ∈ lw_tbl ∧ Cond.instanceMethod (xmN Y') ∈ lw_tbl ∧ Cond.selects (xmN Y').cls (xmN Y') (xmN Y') ∈ lw_tbl) (hM : xMet G Y' (.ref 0 :: ar) (cHp s sx T) x 1 6 (xQc3 T r s' E1 E2)) (hci : some RX4 = some (xmN Y').cls) (hn : ar.length = n) (ha : Nat.ble (lg_sl (.ref 0 :: ar)).length (xmL Y') = true) (hst : st = ar.reverse ++ .ref 0 :: rest) (hcat : Nat.ble (rest.map fun v => v.category).sum 8 = true) (hfr : Nat.ble (xmF Y' + 1) (xmF Y) = true) (hlo : Nat.ble (8 + (xmL Y' + 11) + xmW Y') (xmW Y) = true)
    (k0 : r.1 = 0 → ∀ w' sx', xag w' s'.1 → xW G Y Qx pc' ls (.int r.2 :: rest) (cHp (w', s'.2) sx' T) (x + 1) 0 0)
    (k1 : r.1 = 1 → ∀ w' sx', xag w' s'.1 → xT G Y Qx pc ls (cHp (w', s'.2) sx' T) (x + 1) E1 0 0)
    (k2 : ¬ r.1 = 0 → ¬ r.1 = 1 → ∀ w' sx', xag w' s'.1 → xT G Y Qx pc ls (cHp (w', s'.2) sx' T) (x + 1) E2 0 0) : xW G Y Qx pc ls st (cHp s sx T) x 1 6 := by
  subst hpc
  refine xw_callV (x' := x + 1) (kc0 := 0) (ks0 := 0) hd hok hw hM (show (cHp s sx T)[0]? = some _ from rfl) hci hn ha hst hcat hfr hlo rfl rfl (fun o hp' h => ?_) (fun ov hp' h => ?_) (fun E hp' h => ?_)
  · obtain ⟨_, w', sx', _, rfl⟩ := h
    exact Nat.le_refl _
  · obtain ⟨h1, w', sx', h2, rfl⟩ := h
    by_cases e : r.1 = 0
    · unfold xo3 at h1
      rw [if_pos e] at h1
      cases h1
      exact k0 e w' sx' h2
    · unfold xo3 at h1
      rw [if_neg e] at h1
      split at h1 <;> cases h1
  · obtain ⟨h1, w', sx', h2, rfl⟩ := h
    unfold xo3 at h1
    by_cases e : r.1 = 0
    · rw [if_pos e] at h1; cases h1
    · rw [if_neg e] at h1
      by_cases e1 : r.1 = 1
      · rw [if_pos e1] at h1
        cases h1
        exact k1 e1 w' sx' h2
      · rw [if_neg e1] at h1
        cases h1
        exact k2 e e1 w' sx' h2
end P58a
/-- what lies behind the workshop: the model's things M, and the row that the law's wrappers write -/
abbrev lTO (M : List xE) (f : Nat → Int64) : List xE := M ++ [.inl (2, 1, .inr (.inl f))]
theorem cHp_app {s : xCS} {sx : xSx} {T : List xE} : cHp s sx T = cHp s sx [] ++ T := rfl
theorem lTO_at {s : xCS} {sx : xSx} {M : List xE} {f : Nat → Int64} (hm : M.length = 11) : (cHp s sx (lTO M f))[82]? = some (.inl (2, 1, .inr (.inl f))) := by
  rw [cHp_app, List.getElem?_append_right (by show 71 ≤ 82; decide), show 82 - (cHp s sx []).length = 11 from rfl, List.getElem?_append_right (by omega), hm]
  rfl
theorem lTO_set {s : xCS} {sx : xSx} {M : List xE} {f g : Nat → Int64} (hm : M.length = 11) : (cHp s sx (lTO M f)).set 82 (.inl (2, 1, .inr (.inl g))) = cHp s sx (lTO M g) := by
  rw [cHp_app, List.set_append_right _ _ (by show 71 ≤ 82; decide), show 82 - (cHp s sx []).length = 11 from rfl, List.set_append_right _ _ (by omega), hm]
  rfl
/-- what a wrapper leaves -/
def xQw (M : List xE) (r : Nat × Int32) (s' : xCS) (f : Nat → Int64) : xO → List xE → Prop := fun o hp' => o = .inl (some (.int (nI r.1))) ∧ ∃ (w' : Nat → Int32) (sx' : xSx), xag w' s'.1 ∧ hp' = cHp (w', s'.2) sx' (lTO M (if r.1 = 0 then vp_updL f 0 r.2.toInt64 else f))
theorem xQw_0 {M : List xE} {r : Nat × Int32} {s' : xCS} {f : Nat → Int64} {w' : Nat → Int32} {sx' : xSx} (h : r.1 = 0) (hag : xag w' s'.1) : xQw M r s' f (.inl (some (.int (nI 0)))) (cHp (w', s'.2) sx' (lTO M (vp_updL f 0 r.2.toInt64))) := ⟨by rw [h], w', sx', hag, by rw [if_pos h]⟩
theorem xQw_n {M : List xE} {r : Nat × Int32} {s' : xCS} {f : Nat → Int64} {w' : Nat → Int32} {sx' : xSx} {k : Nat} (h : r.1 = k) (hk : ¬ k = 0) (hag : xag w' s'.1) : xQw M r s' f (.inl (some (.int (nI k)))) (cHp (w', s'.2) sx' (lTO M f)) := ⟨by rw [h], w', sx', hag, by rw [if_neg (by rw [h]; exact hk)]⟩
section P58
variable {G : xG} {x : Nat} {M : List xE} {f : Nat → Int64} {r : Nat × Int32} {s s' : xCS} {sx : xSx}
end P58

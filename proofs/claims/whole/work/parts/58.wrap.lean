/-! ===== the law: its wrappers ===== -/
section P58a
variable {G : xG} {Y : xM} {Qx : xO → List xE → Prop} {pc : Nat} {ls : List (Nat × Value)} {st : List Value} {hp : List xE} {x kc ks : Nat}
theorem xt_catchA {E : String} (pre : List (Nat × Nat × Nat × Nat)) {sa ea hpc ct : Nat} {suf : List (Nat × Nat × Nat × Nat)} {n : Nat} {ls' : List (Nat × Value)} (pc' : Nat) (hh : xmH Y = pre ++ (sa, ea, hpc, ct) :: suf)
    (hpass : ∀ z ∈ pre, z.2.2.2 ≠ 0 ∧ ∃ nm : String, Cond.classLink (xmN Y).cls z.2.2.2 nm ∈ lw_tbl ∧ (E, nm) ∈ xNoc) (h0 : ct ≠ 0) (hcov : covers ⟨sa, ea, hpc, ct⟩ pc = true) (hw : Cond.classLink (xmN Y).cls ct E ∈ lw_tbl ∧ Cond.castable E E ∈ lw_tbl)
    (hd : decode (xmB Y) hpc = .ok (.astore n, 2)) (hn : hpc + 2 = pc') (hi : Nat.blt n (xmL Y) = true) (hls : xdel ls n = ls') (k9 : xW G Y Qx pc' ls' [] hp x kc ks) : xT G Y Qx pc ls hp x E kc ks := by
  subst hn; subst hls
  intro p l e R s m args below meth c lsA H locs cells slots q ce rest F hl hH hS hc hs hce hcv hcl
  refine vx_catch (own := (xmN Y).cls) (name := E) F.own (tableOf pre) ⟨sa, ea, hpc, ct⟩ (tableOf suf) (by rw [F.2.2.2.2.2.2.1, hh]; simp [tableOf]) (fun z hz => ?_) hcov h0 (F.env.w hw.1 (Or.inl ⟨rfl, rfl⟩)) (F.env.w hw.2 (Or.inl ⟨rfl, rfl⟩)) hce hcv hcl ?_
  · obtain ⟨z0, hz0, rfl⟩ := List.mem_map.mp hz
    obtain ⟨g1, nm, g2, g3⟩ := hpass z0 hz0
    exact Or.inr ⟨g1, nm, F.env.w g2 (Or.inl ⟨rfl, rfl⟩), F.env.2.2.2.2.2 _ g3⟩
  · refine lv_astore (lv' := (n, .ref q) :: xLs G (xdel ls n)) F.1 F.2.1 hd hl (Nat.blt_eq.mp hi) (by rw [xdel_eq]) (fun lsB hlB => ?_)
    exact k9 p l e R s m args below meth c lsB H locs cells slots F ⟨hlB.1, hlB.2.1, fun z hz => hlB.2.2 z (List.mem_cons_of_mem _ hz)⟩ hH hS hc hs
variable {Y' : xM} {n idx : Nat} {ar : List Value} {rest : List Value} {r : Nat × Int32} {s s' : xCS} {sx : xSx} {T : List xE} {E1 E2 : String}
/-- a call of the workshop, by its kind -/
theorem xw_kV (pc' : Nat) (hd : decode (xmB Y) pc = .ok (.invokevirtual idx, 3)) (hpc : pc + 3 = pc') (hok : xMok Y' n) (hw : Cond.methodLink (xmN Y).cls idx (xmN Y') ∈ lw_tbl ∧ Cond.instanceMethod (xmN Y') ∈ lw_tbl ∧ Cond.selects (xmN Y').cls (xmN Y') (xmN Y') ∈ lw_tbl) (hM : xMet G Y' (.ref 0 :: ar) (cHp s sx T) x 1 6 (xQc3 T r s' E1 E2)) (hci : some RX4 = some (xmN Y').cls) (hn : ar.length = n) (ha : Nat.ble (lg_sl (.ref 0 :: ar)).length (xmL Y') = true) (hst : st = ar.reverse ++ .ref 0 :: rest) (hcat : Nat.ble (rest.map fun v => v.category).sum 8 = true) (hfr : Nat.ble (xmF Y' + 1) (xmF Y) = true) (hlo : Nat.ble (8 + (xmL Y' + 11) + xmW Y') (xmW Y) = true)
    (k0 : r.1 = 0 → ∀ w' sx', xag w' s'.1 → xW G Y Qx pc' ls (.int r.2 :: rest) (cHp (w', s'.2) sx' T) (x + 1) 0 0)
    (k1 : r.1 = 1 → ∀ w' sx', xag w' s'.1 → xT G Y Qx pc ls (cHp (w', s'.2) sx' T) (x + 1) E1 0 0)
    (k2 : ¬ r.1 = 0 → ¬ r.1 = 1 → ∀ w' sx', xag w' s'.1 → xT G Y Qx pc ls (cHp (w', s'.2) sx' T) (x + 1) E2 0 0) : xW G Y Qx pc ls st (cHp s sx T) x 1 6 := by
  subst hpc
  refine xw_callV (x' := x + 1) (kc0 := 0) (ks0 := 0) hd hok hw hM (show (cHp s sx T)[0]? = some _ from rfl) hci hn ha hst hcat hfr hlo rfl rfl (fun o hp' h => ?_) (fun ov hp' h => ?_) (fun E hp' h => ?_)
  · obtain ⟨_, w', sx', _, rfl⟩ := h
    exact Nat.le_refl _
  · obtain ⟨h1, w', sx', h2, rfl⟩ := h
    by_cases e : r.1 = 0
    · unfold xo3 at h1
      rw [if_pos e] at h1
      cases h1
      exact k0 e w' sx' h2
    · unfold xo3 at h1
      rw [if_neg e] at h1
      split at h1 <;> cases h1
  · obtain ⟨h1, w', sx', h2, rfl⟩ := h
    unfold xo3 at h1
    by_cases e : r.1 = 0
    · rw [if_pos e] at h1; cases h1
    · rw [if_neg e] at h1
      by_cases e1 : r.1 = 1
      · rw [if_pos e1] at h1
        cases h1
        exact k1 e1 w' sx' h2
      · rw [if_neg e1] at h1
        cases h1
        exact k2 e e1 w' sx' h2
end P58a
/-- what lies behind the workshop: the model's things M, and the row that the law's wrappers write -/
abbrev lTO (M : List xE) (f : Nat → Int64) : List xE := M ++ [.inl (2, 1, .inr (.inl f))]
theorem cHp_app {s : xCS} {sx : xSx} {T : List xE} : cHp s sx T = cHp s sx [] ++ T := rfl
theorem lTO_at {s : xCS} {sx : xSx} {M : List xE} {f : Nat → Int64} (hm : M.length = 11) : (cHp s sx (lTO M f))[82]? = some (.inl (2, 1, .inr (.inl f))) := by
  rw [cHp_app, List.getElem?_append_right (by show 71 ≤ 82; decide), show 82 - (cHp s sx []).length = 11 from rfl, List.getElem?_append_right (by omega), hm]
  rfl
theorem lTO_set {s : xCS} {sx : xSx} {M : List xE} {f g : Nat → Int64} (hm : M.length = 11) : (cHp s sx (lTO M f)).set 82 (.inl (2, 1, .inr (.inl g))) = cHp s sx (lTO M g) := by
  rw [cHp_app, List.set_append_right _ _ (by show 71 ≤ 82; decide), show 82 - (cHp s sx []).length = 11 from rfl, List.set_append_right _ _ (by omega), hm]
  rfl
/-- what a wrapper leaves -/
def xQw (M : List xE) (r : Nat × Int32) (s' : xCS) (f : Nat → Int64) : xO → List xE → Prop := fun o hp' => o = .inl (some (.int (nI r.1))) ∧ ∃ (w' : Nat → Int32) (sx' : xSx), xag w' s'.1 ∧ hp' = cHp (w', s'.2) sx' (lTO M (if r.1 = 0 then vp_updL f 0 r.2.toInt64 else f))
theorem xQw_0 {M : List xE} {r : Nat × Int32} {s' : xCS} {f : Nat → Int64} {w' : Nat → Int32} {sx' : xSx} (h : r.1 = 0) (hag : xag w' s'.1) : xQw M r s' f (.inl (some (.int (nI 0)))) (cHp (w', s'.2) sx' (lTO M (vp_updL f 0 r.2.toInt64))) := ⟨by rw [h], w', sx', hag, by rw [if_pos h]⟩
theorem xQw_n {M : List xE} {r : Nat × Int32} {s' : xCS} {f : Nat → Int64} {w' : Nat → Int32} {sx' : xSx} {k : Nat} (h : r.1 = k) (hk : ¬ k = 0) (hag : xag w' s'.1) : xQw M r s' f (.inl (some (.int (nI k)))) (cHp (w', s'.2) sx' (lTO M f)) := ⟨by rw [h], w', sx', hag, by rw [if_neg (by rw [h]; exact hk)]⟩
section P58
variable {G : xG} {x : Nat} {M : List xE} {f : Nat → Int64} {r : Nat × Int32} {s s' : xCS} {sx : xSx}
theorem S_L_append {p : Int32} (hm : M.length = 11) (hr : r.1 ≤ 2) (hM : xMet G B_append [.ref 0, .int p] (cHp s sx (lTO M f)) x 1 6 (xQc3 (lTO M f) r s' xIA xIS)) : xMet G L_append [.ref 0, .int p, .ref 82] (cHp s sx (lTO M f)) x 1 6 (xQw M r s' f) := by
  refine xw_aload_n 1 dL_append_0 rfl rfl rfl ?_
  refine xw_iconst 2 (nI 0) dL_append_1 rfl (xofI 0) ?_
  refine xw_aload_n 3 dL_append_2 rfl rfl rfl ?_
  refine xw_iload_n 4 dL_append_3 rfl rfl ?_
  refine xw_kV (ar := [.int p]) 7 dL_append_4 rfl ok_B_append s_L_51 hM rfl rfl rfl rfl rfl rfl rfl (fun e w' sx' hag => ?_) (fun e w' sx' hag => ?_) (fun e e' w' sx' hag => ?_)
  · skip
    refine xw_i2l 8 dL_append_7 rfl ?_
    refine xw_lastore (j := 0) (hp' := (cHp (w', s'.2) sx' (lTO M (vp_updL f 0 r.2.toInt64)))) 9 dL_append_8 rfl (lTO_at hm) (rfl) (by decide) (by omega) (lTO_set hm) ?_
    refine xw_goto 18 dL_append_9 rfl ?_
    refine xw_iconst 19 (nI 0) dL_append_18 rfl (xofI 0) ?_
    exact xw_ireturn dL_append_19 rfl (xQw_0 e hag)
  · skip
    refine xt_catch (sa := 0) (ea := 9) (hpc := 12) (ct := 13) [] 13 rfl (fun z hz => by cases hz) (by decide) (by decide) h_L_13 dL_append_12 rfl rfl rfl ?_
    refine xw_iconst 14 (nI 1) dL_append_13 rfl (xofI 1) ?_
    exact xw_ireturn dL_append_14 rfl (xQw_n (e) (by decide) hag)
  · skip
    refine xt_catch (sa := 0) (ea := 9) (hpc := 15) (ct := 15) [(0, 9, 12, 13)] 16 rfl (fun z hz => by rw [List.mem_singleton.mp hz]; exact ⟨by decide, _, h_L_13.1, by decide⟩) (by decide) (by decide) h_L_15 dL_append_15 rfl rfl rfl ?_
    refine xw_iconst 17 (nI 2) dL_append_16 rfl (xofI 2) ?_
    exact xw_ireturn dL_append_17 rfl (xQw_n ((by omega)) (by decide) hag)
theorem S_L_bead {p q : Int32} (hm : M.length = 11) (hr : r.1 ≤ 2) (hM : xMet G B_bead [.ref 0, .int p, .int q] (cHp s sx (lTO M f)) x 1 6 (xQc3 (lTO M f) r s' xIX xIA)) : xMet G L_bead [.ref 0, .int p, .int q, .ref 82] (cHp s sx (lTO M f)) x 1 6 (xQw M r s' f) := by
  refine xw_aload_n 1 dL_bead_0 rfl rfl rfl ?_
  refine xw_iconst 2 (nI 0) dL_bead_1 rfl (xofI 0) ?_
  refine xw_aload_n 3 dL_bead_2 rfl rfl rfl ?_
  refine xw_iload_n 4 dL_bead_3 rfl rfl ?_
  refine xw_iload_n 5 dL_bead_4 rfl rfl ?_
  refine xw_kV (ar := [.int p, .int q]) 8 dL_bead_5 rfl ok_B_bead s_L_63 hM rfl rfl rfl rfl rfl rfl rfl (fun e w' sx' hag => ?_) (fun e w' sx' hag => ?_) (fun e e' w' sx' hag => ?_)
  · skip
    refine xw_i2l 9 dL_bead_8 rfl ?_
    refine xw_lastore (j := 0) (hp' := (cHp (w', s'.2) sx' (lTO M (vp_updL f 0 r.2.toInt64)))) 10 dL_bead_9 rfl (lTO_at hm) (rfl) (by decide) (by omega) (lTO_set hm) ?_
    refine xw_goto 21 dL_bead_10 rfl ?_
    refine xw_iconst 22 (nI 0) dL_bead_21 rfl (xofI 0) ?_
    exact xw_ireturn dL_bead_22 rfl (xQw_0 e hag)
  · skip
    refine xt_catchA (sa := 0) (ea := 10) (hpc := 13) (ct := 28) [] 15 rfl (fun z hz => by cases hz) (by decide) (by decide) h_L_28 dL_bead_13 rfl rfl rfl ?_
    refine xw_iconst 16 (nI 1) dL_bead_15 rfl (xofI 1) ?_
    exact xw_ireturn dL_bead_16 rfl (xQw_n (e) (by decide) hag)
  · skip
    refine xt_catchA (sa := 0) (ea := 10) (hpc := 17) (ct := 13) [(0, 10, 13, 28)] 19 rfl (fun z hz => by rw [List.mem_singleton.mp hz]; exact ⟨by decide, _, h_L_28.1, by decide⟩) (by decide) (by decide) h_L_13 dL_bead_17 rfl rfl rfl ?_
    refine xw_iconst 20 (nI 2) dL_bead_19 rfl (xofI 2) ?_
    exact xw_ireturn dL_bead_20 rfl (xQw_n ((by omega)) (by decide) hag)
theorem S_L_buy {p q : Int32} (hm : M.length = 11) (hr : r.1 ≤ 2) (hM : xMet G B_buy [.ref 0, .int p, .int q] (cHp s sx (lTO M f)) x 1 6 (xQc3 (lTO M f) r s' xIA xIS)) : xMet G L_buy [.ref 0, .int p, .int q, .ref 82] (cHp s sx (lTO M f)) x 1 6 (xQw M r s' f) := by
  refine xw_aload_n 1 dL_buy_0 rfl rfl rfl ?_
  refine xw_iconst 2 (nI 0) dL_buy_1 rfl (xofI 0) ?_
  refine xw_aload_n 3 dL_buy_2 rfl rfl rfl ?_
  refine xw_iload_n 4 dL_buy_3 rfl rfl ?_
  refine xw_iload_n 5 dL_buy_4 rfl rfl ?_
  refine xw_kV (ar := [.int p, .int q]) 8 dL_buy_5 rfl ok_B_buy s_L_30 hM rfl rfl rfl rfl rfl rfl rfl (fun e w' sx' hag => ?_) (fun e w' sx' hag => ?_) (fun e e' w' sx' hag => ?_)
  · skip
    refine xw_i2l 9 dL_buy_8 rfl ?_
    refine xw_lastore (j := 0) (hp' := (cHp (w', s'.2) sx' (lTO M (vp_updL f 0 r.2.toInt64)))) 10 dL_buy_9 rfl (lTO_at hm) (rfl) (by decide) (by omega) (lTO_set hm) ?_
    refine xw_goto 21 dL_buy_10 rfl ?_
    refine xw_iconst 22 (nI 0) dL_buy_21 rfl (xofI 0) ?_
    exact xw_ireturn dL_buy_22 rfl (xQw_0 e hag)
  · skip
    refine xt_catchA (sa := 0) (ea := 10) (hpc := 13) (ct := 13) [] 15 rfl (fun z hz => by cases hz) (by decide) (by decide) h_L_13 dL_buy_13 rfl rfl rfl ?_
    refine xw_iconst 16 (nI 1) dL_buy_15 rfl (xofI 1) ?_
    exact xw_ireturn dL_buy_16 rfl (xQw_n (e) (by decide) hag)
  · skip
    refine xt_catchA (sa := 0) (ea := 10) (hpc := 17) (ct := 15) [(0, 10, 13, 13)] 19 rfl (fun z hz => by rw [List.mem_singleton.mp hz]; exact ⟨by decide, _, h_L_13.1, by decide⟩) (by decide) (by decide) h_L_15 dL_buy_17 rfl rfl rfl ?_
    refine xw_iconst 20 (nI 2) dL_buy_19 rfl (xofI 2) ?_
    exact xw_ireturn dL_buy_20 rfl (xQw_n ((by omega)) (by decide) hag)
theorem S_L_cell {p q : Int32} (hm : M.length = 11) (hr : r.1 ≤ 1) (hM : xMet G B_cell [.ref 0, .int p, .int q] (cHp s sx (lTO M f)) x 1 6 (xQc3 (lTO M f) r s' xIX xIX)) : xMet G L_cell [.ref 0, .int p, .int q, .ref 82] (cHp s sx (lTO M f)) x 1 6 (xQw M r s' f) := by
  refine xw_aload_n 1 dL_cell_0 rfl rfl rfl ?_
  refine xw_iconst 2 (nI 0) dL_cell_1 rfl (xofI 0) ?_
  refine xw_aload_n 3 dL_cell_2 rfl rfl rfl ?_
  refine xw_iload_n 4 dL_cell_3 rfl rfl ?_
  refine xw_iload_n 5 dL_cell_4 rfl rfl ?_
  refine xw_kV (ar := [.int p, .int q]) 8 dL_cell_5 rfl ok_B_cell s_L_57 hM rfl rfl rfl rfl rfl rfl rfl (fun e w' sx' hag => ?_) (fun e w' sx' hag => ?_) (fun e e' w' sx' hag => ?_)
  · skip
    refine xw_i2l 9 dL_cell_8 rfl ?_
    refine xw_lastore (j := 0) (hp' := (cHp (w', s'.2) sx' (lTO M (vp_updL f 0 r.2.toInt64)))) 10 dL_cell_9 rfl (lTO_at hm) (rfl) (by decide) (by omega) (lTO_set hm) ?_
    refine xw_goto 17 dL_cell_10 rfl ?_
    refine xw_iconst 18 (nI 0) dL_cell_17 rfl (xofI 0) ?_
    exact xw_ireturn dL_cell_18 rfl (xQw_0 e hag)
  · skip
    refine xt_catchA (sa := 0) (ea := 10) (hpc := 13) (ct := 28) [] 15 rfl (fun z hz => by cases hz) (by decide) (by decide) h_L_28 dL_cell_13 rfl rfl rfl ?_
    refine xw_iconst 16 (nI 1) dL_cell_15 rfl (xofI 1) ?_
    exact xw_ireturn dL_cell_16 rfl (xQw_n (e) (by decide) hag)
  · exact absurd hr (by omega)
theorem S_L_colour {p q : Int32} (hm : M.length = 11) (hr : r.1 ≤ 1) (hM : xMet G B_colour [.ref 0, .int p, .int q] (cHp s sx (lTO M f)) x 1 6 (xQc3 (lTO M f) r s' xIA xIA)) : xMet G L_colour [.ref 0, .int p, .int q, .ref 82] (cHp s sx (lTO M f)) x 1 6 (xQw M r s' f) := by
  refine xw_aload_n 1 dL_colour_0 rfl rfl rfl ?_
  refine xw_iconst 2 (nI 0) dL_colour_1 rfl (xofI 0) ?_
  refine xw_aload_n 3 dL_colour_2 rfl rfl rfl ?_
  refine xw_iload_n 4 dL_colour_3 rfl rfl ?_
  refine xw_iload_n 5 dL_colour_4 rfl rfl ?_
  refine xw_kV (ar := [.int p, .int q]) 8 dL_colour_5 rfl ok_B_colour s_L_69 hM rfl rfl rfl rfl rfl rfl rfl (fun e w' sx' hag => ?_) (fun e w' sx' hag => ?_) (fun e e' w' sx' hag => ?_)
  · skip
    refine xw_i2l 9 dL_colour_8 rfl ?_
    refine xw_lastore (j := 0) (hp' := (cHp (w', s'.2) sx' (lTO M (vp_updL f 0 r.2.toInt64)))) 10 dL_colour_9 rfl (lTO_at hm) (rfl) (by decide) (by omega) (lTO_set hm) ?_
    refine xw_goto 17 dL_colour_10 rfl ?_
    refine xw_iconst 18 (nI 0) dL_colour_17 rfl (xofI 0) ?_
    exact xw_ireturn dL_colour_18 rfl (xQw_0 e hag)
  · skip
    refine xt_catchA (sa := 0) (ea := 10) (hpc := 13) (ct := 13) [] 15 rfl (fun z hz => by cases hz) (by decide) (by decide) h_L_13 dL_colour_13 rfl rfl rfl ?_
    refine xw_iconst 16 (nI 1) dL_colour_15 rfl (xofI 1) ?_
    exact xw_ireturn dL_colour_16 rfl (xQw_n (e) (by decide) hag)
  · exact absurd hr (by omega)
theorem S_L_count {p : Int32} (hm : M.length = 11) (hr : r.1 ≤ 1) (hM : xMet G B_count [.ref 0, .int p] (cHp s sx (lTO M f)) x 1 6 (xQc3 (lTO M f) r s' xIA xIA)) : xMet G L_count [.ref 0, .int p, .ref 82] (cHp s sx (lTO M f)) x 1 6 (xQw M r s' f) := by
  refine xw_aload_n 1 dL_count_0 rfl rfl rfl ?_
  refine xw_iconst 2 (nI 0) dL_count_1 rfl (xofI 0) ?_
  refine xw_aload_n 3 dL_count_2 rfl rfl rfl ?_
  refine xw_iload_n 4 dL_count_3 rfl rfl ?_
  refine xw_kV (ar := [.int p]) 7 dL_count_4 rfl ok_B_count s_L_72 hM rfl rfl rfl rfl rfl rfl rfl (fun e w' sx' hag => ?_) (fun e w' sx' hag => ?_) (fun e e' w' sx' hag => ?_)
  · skip
    refine xw_i2l 8 dL_count_7 rfl ?_
    refine xw_lastore (j := 0) (hp' := (cHp (w', s'.2) sx' (lTO M (vp_updL f 0 r.2.toInt64)))) 9 dL_count_8 rfl (lTO_at hm) (rfl) (by decide) (by omega) (lTO_set hm) ?_
    refine xw_goto 15 dL_count_9 rfl ?_
    refine xw_iconst 16 (nI 0) dL_count_15 rfl (xofI 0) ?_
    exact xw_ireturn dL_count_16 rfl (xQw_0 e hag)
  · skip
    refine xt_catch (sa := 0) (ea := 9) (hpc := 12) (ct := 13) [] 13 rfl (fun z hz => by cases hz) (by decide) (by decide) h_L_13 dL_count_12 rfl rfl rfl ?_
    refine xw_iconst 14 (nI 1) dL_count_13 rfl (xofI 1) ?_
    exact xw_ireturn dL_count_14 rfl (xQw_n (e) (by decide) hag)
  · exact absurd hr (by omega)
theorem S_L_crush {p : Int32} (hm : M.length = 11) (hr : r.1 ≤ 1) (hM : xMet G B_crush [.ref 0, .int p] (cHp s sx (lTO M f)) x 1 6 (xQc3 (lTO M f) r s' xIX xIX)) : xMet G L_crush [.ref 0, .int p, .ref 82] (cHp s sx (lTO M f)) x 1 6 (xQw M r s' f) := by
  refine xw_aload_n 1 dL_crush_0 rfl rfl rfl ?_
  refine xw_iconst 2 (nI 0) dL_crush_1 rfl (xofI 0) ?_
  refine xw_aload_n 3 dL_crush_2 rfl rfl rfl ?_
  refine xw_iload_n 4 dL_crush_3 rfl rfl ?_
  refine xw_kV (ar := [.int p]) 7 dL_crush_4 rfl ok_B_crush s_L_45 hM rfl rfl rfl rfl rfl rfl rfl (fun e w' sx' hag => ?_) (fun e w' sx' hag => ?_) (fun e e' w' sx' hag => ?_)
  · skip
    refine xw_i2l 8 dL_crush_7 rfl ?_
    refine xw_lastore (j := 0) (hp' := (cHp (w', s'.2) sx' (lTO M (vp_updL f 0 r.2.toInt64)))) 9 dL_crush_8 rfl (lTO_at hm) (rfl) (by decide) (by omega) (lTO_set hm) ?_
    refine xw_goto 15 dL_crush_9 rfl ?_
    refine xw_iconst 16 (nI 0) dL_crush_15 rfl (xofI 0) ?_
    exact xw_ireturn dL_crush_16 rfl (xQw_0 e hag)
  · skip
    refine xt_catch (sa := 0) (ea := 9) (hpc := 12) (ct := 28) [] 13 rfl (fun z hz => by cases hz) (by decide) (by decide) h_L_28 dL_crush_12 rfl rfl rfl ?_
    refine xw_iconst 14 (nI 1) dL_crush_13 rfl (xofI 1) ?_
    exact xw_ireturn dL_crush_14 rfl (xQw_n (e) (by decide) hag)
  · exact absurd hr (by omega)
theorem S_L_join (hm : M.length = 11) (hr : r.1 ≤ 1) (hM : xMet G B_join [.ref 0] (cHp s sx (lTO M f)) x 1 6 (xQc3 (lTO M f) r s' xIS xIS)) : xMet G L_join [.ref 0, .ref 82] (cHp s sx (lTO M f)) x 1 6 (xQw M r s' f) := by
  refine xw_aload_n 1 dL_join_0 rfl rfl rfl ?_
  refine xw_iconst 2 (nI 0) dL_join_1 rfl (xofI 0) ?_
  refine xw_aload_n 3 dL_join_2 rfl rfl rfl ?_
  refine xw_kV (ar := []) 6 dL_join_3 rfl ok_B_join s_L_42 hM rfl rfl rfl rfl rfl rfl rfl (fun e w' sx' hag => ?_) (fun e w' sx' hag => ?_) (fun e e' w' sx' hag => ?_)
  · skip
    refine xw_i2l 7 dL_join_6 rfl ?_
    refine xw_lastore (j := 0) (hp' := (cHp (w', s'.2) sx' (lTO M (vp_updL f 0 r.2.toInt64)))) 8 dL_join_7 rfl (lTO_at hm) (rfl) (by decide) (by omega) (lTO_set hm) ?_
    refine xw_goto 14 dL_join_8 rfl ?_
    refine xw_iconst 15 (nI 0) dL_join_14 rfl (xofI 0) ?_
    exact xw_ireturn dL_join_15 rfl (xQw_0 e hag)
  · skip
    refine xt_catch (sa := 0) (ea := 8) (hpc := 11) (ct := 15) [] 12 rfl (fun z hz => by cases hz) (by decide) (by decide) h_L_15 dL_join_11 rfl rfl rfl ?_
    refine xw_iconst 13 (nI 1) dL_join_12 rfl (xofI 1) ?_
    exact xw_ireturn dL_join_13 rfl (xQw_n (e) (by decide) hag)
  · exact absurd hr (by omega)
theorem S_L_load (hm : M.length = 11) (hr : r.1 ≤ 2) (hM : xMet G B_load [.ref 0] (cHp s sx (lTO M f)) x 1 6 (xQc3 (lTO M f) r s' xIA xIS)) : xMet G L_load [.ref 0, .ref 82] (cHp s sx (lTO M f)) x 1 6 (xQw M r s' f) := by
  refine xw_aload_n 1 dL_load_0 rfl rfl rfl ?_
  refine xw_iconst 2 (nI 0) dL_load_1 rfl (xofI 0) ?_
  refine xw_aload_n 3 dL_load_2 rfl rfl rfl ?_
  refine xw_kV (ar := []) 6 dL_load_3 rfl ok_B_load s_L_7 hM rfl rfl rfl rfl rfl rfl rfl (fun e w' sx' hag => ?_) (fun e w' sx' hag => ?_) (fun e e' w' sx' hag => ?_)
  · skip
    refine xw_i2l 7 dL_load_6 rfl ?_
    refine xw_lastore (j := 0) (hp' := (cHp (w', s'.2) sx' (lTO M (vp_updL f 0 r.2.toInt64)))) 8 dL_load_7 rfl (lTO_at hm) (rfl) (by decide) (by omega) (lTO_set hm) ?_
    refine xw_goto 17 dL_load_8 rfl ?_
    refine xw_iconst 18 (nI 0) dL_load_17 rfl (xofI 0) ?_
    exact xw_ireturn dL_load_18 rfl (xQw_0 e hag)
  · skip
    refine xt_catch (sa := 0) (ea := 8) (hpc := 11) (ct := 13) [] 12 rfl (fun z hz => by cases hz) (by decide) (by decide) h_L_13 dL_load_11 rfl rfl rfl ?_
    refine xw_iconst 13 (nI 1) dL_load_12 rfl (xofI 1) ?_
    exact xw_ireturn dL_load_13 rfl (xQw_n (e) (by decide) hag)
  · skip
    refine xt_catch (sa := 0) (ea := 8) (hpc := 14) (ct := 15) [(0, 8, 11, 13)] 15 rfl (fun z hz => by rw [List.mem_singleton.mp hz]; exact ⟨by decide, _, h_L_13.1, by decide⟩) (by decide) (by decide) h_L_15 dL_load_14 rfl rfl rfl ?_
    refine xw_iconst 16 (nI 2) dL_load_15 rfl (xofI 2) ?_
    exact xw_ireturn dL_load_16 rfl (xQw_n ((by omega)) (by decide) hag)
theorem S_L_needed {p q : Int32} (hm : M.length = 11) (hr : r.1 ≤ 1) (hM : xMet G B_needed [.ref 0, .int p, .int q] (cHp s sx (lTO M f)) x 1 6 (xQc3 (lTO M f) r s' xIA xIA)) : xMet G L_needed [.ref 0, .int p, .int q, .ref 82] (cHp s sx (lTO M f)) x 1 6 (xQw M r s' f) := by
  refine xw_aload_n 1 dL_needed_0 rfl rfl rfl ?_
  refine xw_iconst 2 (nI 0) dL_needed_1 rfl (xofI 0) ?_
  refine xw_aload_n 3 dL_needed_2 rfl rfl rfl ?_
  refine xw_iload_n 4 dL_needed_3 rfl rfl ?_
  refine xw_iload_n 5 dL_needed_4 rfl rfl ?_
  refine xw_kV (ar := [.int p, .int q]) 8 dL_needed_5 rfl ok_B_needed s_L_78 hM rfl rfl rfl rfl rfl rfl rfl (fun e w' sx' hag => ?_) (fun e w' sx' hag => ?_) (fun e e' w' sx' hag => ?_)
  · skip
    refine xw_i2l 9 dL_needed_8 rfl ?_
    refine xw_lastore (j := 0) (hp' := (cHp (w', s'.2) sx' (lTO M (vp_updL f 0 r.2.toInt64)))) 10 dL_needed_9 rfl (lTO_at hm) (rfl) (by decide) (by omega) (lTO_set hm) ?_
    refine xw_goto 17 dL_needed_10 rfl ?_
    refine xw_iconst 18 (nI 0) dL_needed_17 rfl (xofI 0) ?_
    exact xw_ireturn dL_needed_18 rfl (xQw_0 e hag)
  · skip
    refine xt_catchA (sa := 0) (ea := 10) (hpc := 13) (ct := 13) [] 15 rfl (fun z hz => by cases hz) (by decide) (by decide) h_L_13 dL_needed_13 rfl rfl rfl ?_
    refine xw_iconst 16 (nI 1) dL_needed_15 rfl (xofI 1) ?_
    exact xw_ireturn dL_needed_16 rfl (xQw_n (e) (by decide) hag)
  · exact absurd hr (by omega)
theorem S_L_pattern {p q : Int32} (hm : M.length = 11) (hr : r.1 ≤ 1) (hM : xMet G B_pattern [.ref 0, .int p, .int q] (cHp s sx (lTO M f)) x 1 6 (xQc3 (lTO M f) r s' xIA xIA)) : xMet G L_pattern [.ref 0, .int p, .int q, .ref 82] (cHp s sx (lTO M f)) x 1 6 (xQw M r s' f) := by
  refine xw_aload_n 1 dL_pattern_0 rfl rfl rfl ?_
  refine xw_iconst 2 (nI 0) dL_pattern_1 rfl (xofI 0) ?_
  refine xw_aload_n 3 dL_pattern_2 rfl rfl rfl ?_
  refine xw_iload_n 4 dL_pattern_3 rfl rfl ?_
  refine xw_iload_n 5 dL_pattern_4 rfl rfl ?_
  refine xw_kV (ar := [.int p, .int q]) 8 dL_pattern_5 rfl ok_B_pattern s_L_60 hM rfl rfl rfl rfl rfl rfl rfl (fun e w' sx' hag => ?_) (fun e w' sx' hag => ?_) (fun e e' w' sx' hag => ?_)
  · skip
    refine xw_i2l 9 dL_pattern_8 rfl ?_
    refine xw_lastore (j := 0) (hp' := (cHp (w', s'.2) sx' (lTO M (vp_updL f 0 r.2.toInt64)))) 10 dL_pattern_9 rfl (lTO_at hm) (rfl) (by decide) (by omega) (lTO_set hm) ?_
    refine xw_goto 17 dL_pattern_10 rfl ?_
    refine xw_iconst 18 (nI 0) dL_pattern_17 rfl (xofI 0) ?_
    exact xw_ireturn dL_pattern_18 rfl (xQw_0 e hag)
  · skip
    refine xt_catchA (sa := 0) (ea := 10) (hpc := 13) (ct := 13) [] 15 rfl (fun z hz => by cases hz) (by decide) (by decide) h_L_13 dL_pattern_13 rfl rfl rfl ?_
    refine xw_iconst 16 (nI 1) dL_pattern_15 rfl (xofI 1) ?_
    exact xw_ireturn dL_pattern_16 rfl (xQw_n (e) (by decide) hag)
  · exact absurd hr (by omega)
theorem S_L_plan {p q : Int32} (hm : M.length = 11) (hr : r.1 ≤ 1) (hM : xMet G B_plan [.ref 0, .int p, .int q] (cHp s sx (lTO M f)) x 1 6 (xQc3 (lTO M f) r s' xIA xIA)) : xMet G L_plan [.ref 0, .int p, .int q, .ref 82] (cHp s sx (lTO M f)) x 1 6 (xQw M r s' f) := by
  refine xw_aload_n 1 dL_plan_0 rfl rfl rfl ?_
  refine xw_iconst 2 (nI 0) dL_plan_1 rfl (xofI 0) ?_
  refine xw_aload_n 3 dL_plan_2 rfl rfl rfl ?_
  refine xw_iload_n 4 dL_plan_3 rfl rfl ?_
  refine xw_iload_n 5 dL_plan_4 rfl rfl ?_
  refine xw_kV (ar := [.int p, .int q]) 8 dL_plan_5 rfl ok_B_plan s_L_81 hM rfl rfl rfl rfl rfl rfl rfl (fun e w' sx' hag => ?_) (fun e w' sx' hag => ?_) (fun e e' w' sx' hag => ?_)
  · skip
    refine xw_i2l 9 dL_plan_8 rfl ?_
    refine xw_lastore (j := 0) (hp' := (cHp (w', s'.2) sx' (lTO M (vp_updL f 0 r.2.toInt64)))) 10 dL_plan_9 rfl (lTO_at hm) (rfl) (by decide) (by omega) (lTO_set hm) ?_
    refine xw_goto 17 dL_plan_10 rfl ?_
    refine xw_iconst 18 (nI 0) dL_plan_17 rfl (xofI 0) ?_
    exact xw_ireturn dL_plan_18 rfl (xQw_0 e hag)
  · skip
    refine xt_catchA (sa := 0) (ea := 10) (hpc := 13) (ct := 13) [] 15 rfl (fun z hz => by cases hz) (by decide) (by decide) h_L_13 dL_plan_13 rfl rfl rfl ?_
    refine xw_iconst 16 (nI 1) dL_plan_15 rfl (xofI 1) ?_
    exact xw_ireturn dL_plan_16 rfl (xQw_n (e) (by decide) hag)
  · exact absurd hr (by omega)
theorem S_L_recolour {p q : Int32} (hm : M.length = 11) (hr : r.1 ≤ 1) (hM : xMet G B_recolour [.ref 0, .int p, .int q] (cHp s sx (lTO M f)) x 1 6 (xQc3 (lTO M f) r s' xIA xIA)) : xMet G L_recolour [.ref 0, .int p, .int q, .ref 82] (cHp s sx (lTO M f)) x 1 6 (xQw M r s' f) := by
  refine xw_aload_n 1 dL_recolour_0 rfl rfl rfl ?_
  refine xw_iconst 2 (nI 0) dL_recolour_1 rfl (xofI 0) ?_
  refine xw_aload_n 3 dL_recolour_2 rfl rfl rfl ?_
  refine xw_iload_n 4 dL_recolour_3 rfl rfl ?_
  refine xw_iload_n 5 dL_recolour_4 rfl rfl ?_
  refine xw_kV (ar := [.int p, .int q]) 8 dL_recolour_5 rfl ok_B_recolour s_L_21 hM rfl rfl rfl rfl rfl rfl rfl (fun e w' sx' hag => ?_) (fun e w' sx' hag => ?_) (fun e e' w' sx' hag => ?_)
  · skip
    refine xw_i2l 9 dL_recolour_8 rfl ?_
    refine xw_lastore (j := 0) (hp' := (cHp (w', s'.2) sx' (lTO M (vp_updL f 0 r.2.toInt64)))) 10 dL_recolour_9 rfl (lTO_at hm) (rfl) (by decide) (by omega) (lTO_set hm) ?_
    refine xw_goto 17 dL_recolour_10 rfl ?_
    refine xw_iconst 18 (nI 0) dL_recolour_17 rfl (xofI 0) ?_
    exact xw_ireturn dL_recolour_18 rfl (xQw_0 e hag)
  · skip
    refine xt_catchA (sa := 0) (ea := 10) (hpc := 13) (ct := 13) [] 15 rfl (fun z hz => by cases hz) (by decide) (by decide) h_L_13 dL_recolour_13 rfl rfl rfl ?_
    refine xw_iconst 16 (nI 1) dL_recolour_15 rfl (xofI 1) ?_
    exact xw_ireturn dL_recolour_16 rfl (xQw_n (e) (by decide) hag)
  · exact absurd hr (by omega)
theorem S_L_set {p q : Int32} (hm : M.length = 11) (hr : r.1 ≤ 2) (hM : xMet G B_set [.ref 0, .int p, .int q] (cHp s sx (lTO M f)) x 1 6 (xQc3 (lTO M f) r s' xIX xIA)) : xMet G L_set [.ref 0, .int p, .int q, .ref 82] (cHp s sx (lTO M f)) x 1 6 (xQw M r s' f) := by
  refine xw_aload_n 1 dL_set_0 rfl rfl rfl ?_
  refine xw_iconst 2 (nI 0) dL_set_1 rfl (xofI 0) ?_
  refine xw_aload_n 3 dL_set_2 rfl rfl rfl ?_
  refine xw_iload_n 4 dL_set_3 rfl rfl ?_
  refine xw_iload_n 5 dL_set_4 rfl rfl ?_
  refine xw_kV (ar := [.int p, .int q]) 8 dL_set_5 rfl ok_B_set s_L_25 hM rfl rfl rfl rfl rfl rfl rfl (fun e w' sx' hag => ?_) (fun e w' sx' hag => ?_) (fun e e' w' sx' hag => ?_)
  · skip
    refine xw_i2l 9 dL_set_8 rfl ?_
    refine xw_lastore (j := 0) (hp' := (cHp (w', s'.2) sx' (lTO M (vp_updL f 0 r.2.toInt64)))) 10 dL_set_9 rfl (lTO_at hm) (rfl) (by decide) (by omega) (lTO_set hm) ?_
    refine xw_goto 21 dL_set_10 rfl ?_
    refine xw_iconst 22 (nI 0) dL_set_21 rfl (xofI 0) ?_
    exact xw_ireturn dL_set_22 rfl (xQw_0 e hag)
  · skip
    refine xt_catchA (sa := 0) (ea := 10) (hpc := 13) (ct := 28) [] 15 rfl (fun z hz => by cases hz) (by decide) (by decide) h_L_28 dL_set_13 rfl rfl rfl ?_
    refine xw_iconst 16 (nI 1) dL_set_15 rfl (xofI 1) ?_
    exact xw_ireturn dL_set_16 rfl (xQw_n (e) (by decide) hag)
  · skip
    refine xt_catchA (sa := 0) (ea := 10) (hpc := 17) (ct := 13) [(0, 10, 13, 28)] 19 rfl (fun z hz => by rw [List.mem_singleton.mp hz]; exact ⟨by decide, _, h_L_28.1, by decide⟩) (by decide) (by decide) h_L_13 dL_set_17 rfl rfl rfl ?_
    refine xw_iconst 20 (nI 2) dL_set_19 rfl (xofI 2) ?_
    exact xw_ireturn dL_set_20 rfl (xQw_n ((by omega)) (by decide) hag)
theorem S_L_setting {p : Int32} (hm : M.length = 11) (hr : r.1 ≤ 1) (hM : xMet G B_setting [.ref 0, .int p] (cHp s sx (lTO M f)) x 1 6 (xQc3 (lTO M f) r s' xIX xIX)) : xMet G L_setting [.ref 0, .int p, .ref 82] (cHp s sx (lTO M f)) x 1 6 (xQw M r s' f) := by
  refine xw_aload_n 1 dL_setting_0 rfl rfl rfl ?_
  refine xw_iconst 2 (nI 0) dL_setting_1 rfl (xofI 0) ?_
  refine xw_aload_n 3 dL_setting_2 rfl rfl rfl ?_
  refine xw_iload_n 4 dL_setting_3 rfl rfl ?_
  refine xw_kV (ar := [.int p]) 7 dL_setting_4 rfl ok_B_setting s_L_75 hM rfl rfl rfl rfl rfl rfl rfl (fun e w' sx' hag => ?_) (fun e w' sx' hag => ?_) (fun e e' w' sx' hag => ?_)
  · skip
    refine xw_i2l 8 dL_setting_7 rfl ?_
    refine xw_lastore (j := 0) (hp' := (cHp (w', s'.2) sx' (lTO M (vp_updL f 0 r.2.toInt64)))) 9 dL_setting_8 rfl (lTO_at hm) (rfl) (by decide) (by omega) (lTO_set hm) ?_
    refine xw_goto 15 dL_setting_9 rfl ?_
    refine xw_iconst 16 (nI 0) dL_setting_15 rfl (xofI 0) ?_
    exact xw_ireturn dL_setting_16 rfl (xQw_0 e hag)
  · skip
    refine xt_catch (sa := 0) (ea := 9) (hpc := 12) (ct := 28) [] 13 rfl (fun z hz => by cases hz) (by decide) (by decide) h_L_28 dL_setting_12 rfl rfl rfl ?_
    refine xw_iconst 14 (nI 1) dL_setting_13 rfl (xofI 1) ?_
    exact xw_ireturn dL_setting_14 rfl (xQw_n (e) (by decide) hag)
  · exact absurd hr (by omega)
theorem S_L_strand {p q : Int32} (hm : M.length = 11) (hr : r.1 ≤ 2) (hM : xMet G B_strand [.ref 0, .int p, .int q] (cHp s sx (lTO M f)) x 1 6 (xQc3 (lTO M f) r s' xIX xIA)) : xMet G L_strand [.ref 0, .int p, .int q, .ref 82] (cHp s sx (lTO M f)) x 1 6 (xQw M r s' f) := by
  refine xw_aload_n 1 dL_strand_0 rfl rfl rfl ?_
  refine xw_iconst 2 (nI 0) dL_strand_1 rfl (xofI 0) ?_
  refine xw_aload_n 3 dL_strand_2 rfl rfl rfl ?_
  refine xw_iload_n 4 dL_strand_3 rfl rfl ?_
  refine xw_iload_n 5 dL_strand_4 rfl rfl ?_
  refine xw_kV (ar := [.int p, .int q]) 8 dL_strand_5 rfl ok_B_strand s_L_66 hM rfl rfl rfl rfl rfl rfl rfl (fun e w' sx' hag => ?_) (fun e w' sx' hag => ?_) (fun e e' w' sx' hag => ?_)
  · skip
    refine xw_i2l 9 dL_strand_8 rfl ?_
    refine xw_lastore (j := 0) (hp' := (cHp (w', s'.2) sx' (lTO M (vp_updL f 0 r.2.toInt64)))) 10 dL_strand_9 rfl (lTO_at hm) (rfl) (by decide) (by omega) (lTO_set hm) ?_
    refine xw_goto 21 dL_strand_10 rfl ?_
    refine xw_iconst 22 (nI 0) dL_strand_21 rfl (xofI 0) ?_
    exact xw_ireturn dL_strand_22 rfl (xQw_0 e hag)
  · skip
    refine xt_catchA (sa := 0) (ea := 10) (hpc := 13) (ct := 28) [] 15 rfl (fun z hz => by cases hz) (by decide) (by decide) h_L_28 dL_strand_13 rfl rfl rfl ?_
    refine xw_iconst 16 (nI 1) dL_strand_15 rfl (xofI 1) ?_
    exact xw_ireturn dL_strand_16 rfl (xQw_n (e) (by decide) hag)
  · skip
    refine xt_catchA (sa := 0) (ea := 10) (hpc := 17) (ct := 13) [(0, 10, 13, 28)] 19 rfl (fun z hz => by rw [List.mem_singleton.mp hz]; exact ⟨by decide, _, h_L_28.1, by decide⟩) (by decide) (by decide) h_L_13 dL_strand_17 rfl rfl rfl ?_
    refine xw_iconst 20 (nI 2) dL_strand_19 rfl (xofI 2) ?_
    exact xw_ireturn dL_strand_20 rfl (xQw_n ((by omega)) (by decide) hag)
theorem S_L_string {p q : Int32} (hm : M.length = 11) (hr : r.1 ≤ 2) (hM : xMet G B_string [.ref 0, .int p, .int q] (cHp s sx (lTO M f)) x 1 6 (xQc3 (lTO M f) r s' xIA xIS)) : xMet G L_string [.ref 0, .int p, .int q, .ref 82] (cHp s sx (lTO M f)) x 1 6 (xQw M r s' f) := by
  refine xw_aload_n 1 dL_string_0 rfl rfl rfl ?_
  refine xw_iconst 2 (nI 0) dL_string_1 rfl (xofI 0) ?_
  refine xw_aload_n 3 dL_string_2 rfl rfl rfl ?_
  refine xw_iload_n 4 dL_string_3 rfl rfl ?_
  refine xw_iload_n 5 dL_string_4 rfl rfl ?_
  refine xw_kV (ar := [.int p, .int q]) 8 dL_string_5 rfl ok_B_string s_L_33 hM rfl rfl rfl rfl rfl rfl rfl (fun e w' sx' hag => ?_) (fun e w' sx' hag => ?_) (fun e e' w' sx' hag => ?_)
  · skip
    refine xw_i2l 9 dL_string_8 rfl ?_
    refine xw_lastore (j := 0) (hp' := (cHp (w', s'.2) sx' (lTO M (vp_updL f 0 r.2.toInt64)))) 10 dL_string_9 rfl (lTO_at hm) (rfl) (by decide) (by omega) (lTO_set hm) ?_
    refine xw_goto 21 dL_string_10 rfl ?_
    refine xw_iconst 22 (nI 0) dL_string_21 rfl (xofI 0) ?_
    exact xw_ireturn dL_string_22 rfl (xQw_0 e hag)
  · skip
    refine xt_catchA (sa := 0) (ea := 10) (hpc := 13) (ct := 13) [] 15 rfl (fun z hz => by cases hz) (by decide) (by decide) h_L_13 dL_string_13 rfl rfl rfl ?_
    refine xw_iconst 16 (nI 1) dL_string_15 rfl (xofI 1) ?_
    exact xw_ireturn dL_string_16 rfl (xQw_n (e) (by decide) hag)
  · skip
    refine xt_catchA (sa := 0) (ea := 10) (hpc := 17) (ct := 15) [(0, 10, 13, 13)] 19 rfl (fun z hz => by rw [List.mem_singleton.mp hz]; exact ⟨by decide, _, h_L_13.1, by decide⟩) (by decide) (by decide) h_L_15 dL_string_17 rfl rfl rfl ?_
    refine xw_iconst 20 (nI 2) dL_string_19 rfl (xofI 2) ?_
    exact xw_ireturn dL_string_20 rfl (xQw_n ((by omega)) (by decide) hag)
theorem S_L_stringNext {p : Int32} (hm : M.length = 11) (hr : r.1 ≤ 2) (hM : xMet G B_stringNext [.ref 0, .int p] (cHp s sx (lTO M f)) x 1 6 (xQc3 (lTO M f) r s' xIA xIS)) : xMet G L_stringNext [.ref 0, .int p, .ref 82] (cHp s sx (lTO M f)) x 1 6 (xQw M r s' f) := by
  refine xw_aload_n 1 dL_stringNext_0 rfl rfl rfl ?_
  refine xw_iconst 2 (nI 0) dL_stringNext_1 rfl (xofI 0) ?_
  refine xw_aload_n 3 dL_stringNext_2 rfl rfl rfl ?_
  refine xw_iload_n 4 dL_stringNext_3 rfl rfl ?_
  refine xw_kV (ar := [.int p]) 7 dL_stringNext_4 rfl ok_B_stringNext s_L_36 hM rfl rfl rfl rfl rfl rfl rfl (fun e w' sx' hag => ?_) (fun e w' sx' hag => ?_) (fun e e' w' sx' hag => ?_)
  · skip
    refine xw_i2l 8 dL_stringNext_7 rfl ?_
    refine xw_lastore (j := 0) (hp' := (cHp (w', s'.2) sx' (lTO M (vp_updL f 0 r.2.toInt64)))) 9 dL_stringNext_8 rfl (lTO_at hm) (rfl) (by decide) (by omega) (lTO_set hm) ?_
    refine xw_goto 18 dL_stringNext_9 rfl ?_
    refine xw_iconst 19 (nI 0) dL_stringNext_18 rfl (xofI 0) ?_
    exact xw_ireturn dL_stringNext_19 rfl (xQw_0 e hag)
  · skip
    refine xt_catch (sa := 0) (ea := 9) (hpc := 12) (ct := 13) [] 13 rfl (fun z hz => by cases hz) (by decide) (by decide) h_L_13 dL_stringNext_12 rfl rfl rfl ?_
    refine xw_iconst 14 (nI 1) dL_stringNext_13 rfl (xofI 1) ?_
    exact xw_ireturn dL_stringNext_14 rfl (xQw_n (e) (by decide) hag)
  · skip
    refine xt_catch (sa := 0) (ea := 9) (hpc := 15) (ct := 15) [(0, 9, 12, 13)] 16 rfl (fun z hz => by rw [List.mem_singleton.mp hz]; exact ⟨by decide, _, h_L_13.1, by decide⟩) (by decide) (by decide) h_L_15 dL_stringNext_15 rfl rfl rfl ?_
    refine xw_iconst 17 (nI 2) dL_stringNext_16 rfl (xofI 2) ?_
    exact xw_ireturn dL_stringNext_17 rfl (xQw_n ((by omega)) (by decide) hag)
theorem S_L_stringRow (hm : M.length = 11) (hr : r.1 ≤ 2) (hM : xMet G B_stringRow [.ref 0] (cHp s sx (lTO M f)) x 1 6 (xQc3 (lTO M f) r s' xIA xIS)) : xMet G L_stringRow [.ref 0, .ref 82] (cHp s sx (lTO M f)) x 1 6 (xQw M r s' f) := by
  refine xw_aload_n 1 dL_stringRow_0 rfl rfl rfl ?_
  refine xw_iconst 2 (nI 0) dL_stringRow_1 rfl (xofI 0) ?_
  refine xw_aload_n 3 dL_stringRow_2 rfl rfl rfl ?_
  refine xw_kV (ar := []) 6 dL_stringRow_3 rfl ok_B_stringRow s_L_39 hM rfl rfl rfl rfl rfl rfl rfl (fun e w' sx' hag => ?_) (fun e w' sx' hag => ?_) (fun e e' w' sx' hag => ?_)
  · skip
    refine xw_i2l 7 dL_stringRow_6 rfl ?_
    refine xw_lastore (j := 0) (hp' := (cHp (w', s'.2) sx' (lTO M (vp_updL f 0 r.2.toInt64)))) 8 dL_stringRow_7 rfl (lTO_at hm) (rfl) (by decide) (by omega) (lTO_set hm) ?_
    refine xw_goto 17 dL_stringRow_8 rfl ?_
    refine xw_iconst 18 (nI 0) dL_stringRow_17 rfl (xofI 0) ?_
    exact xw_ireturn dL_stringRow_18 rfl (xQw_0 e hag)
  · skip
    refine xt_catch (sa := 0) (ea := 8) (hpc := 11) (ct := 13) [] 12 rfl (fun z hz => by cases hz) (by decide) (by decide) h_L_13 dL_stringRow_11 rfl rfl rfl ?_
    refine xw_iconst 13 (nI 1) dL_stringRow_12 rfl (xofI 1) ?_
    exact xw_ireturn dL_stringRow_13 rfl (xQw_n (e) (by decide) hag)
  · skip
    refine xt_catch (sa := 0) (ea := 8) (hpc := 14) (ct := 15) [(0, 8, 11, 13)] 15 rfl (fun z hz => by rw [List.mem_singleton.mp hz]; exact ⟨by decide, _, h_L_13.1, by decide⟩) (by decide) (by decide) h_L_15 dL_stringRow_14 rfl rfl rfl ?_
    refine xw_iconst 16 (nI 2) dL_stringRow_15 rfl (xofI 2) ?_
    exact xw_ireturn dL_stringRow_16 rfl (xQw_n ((by omega)) (by decide) hag)
theorem S_L_turn {p : Int32} (hm : M.length = 11) (hr : r.1 ≤ 2) (hM : xMet G B_turn [.ref 0, .int p] (cHp s sx (lTO M f)) x 1 6 (xQc3 (lTO M f) r s' xIA xIS)) : xMet G L_turn [.ref 0, .int p, .ref 82] (cHp s sx (lTO M f)) x 1 6 (xQw M r s' f) := by
  refine xw_aload_n 1 dL_turn_0 rfl rfl rfl ?_
  refine xw_iconst 2 (nI 0) dL_turn_1 rfl (xofI 0) ?_
  refine xw_aload_n 3 dL_turn_2 rfl rfl rfl ?_
  refine xw_iload_n 4 dL_turn_3 rfl rfl ?_
  refine xw_kV (ar := [.int p]) 7 dL_turn_4 rfl ok_B_turn s_L_17 hM rfl rfl rfl rfl rfl rfl rfl (fun e w' sx' hag => ?_) (fun e w' sx' hag => ?_) (fun e e' w' sx' hag => ?_)
  · skip
    refine xw_i2l 8 dL_turn_7 rfl ?_
    refine xw_lastore (j := 0) (hp' := (cHp (w', s'.2) sx' (lTO M (vp_updL f 0 r.2.toInt64)))) 9 dL_turn_8 rfl (lTO_at hm) (rfl) (by decide) (by omega) (lTO_set hm) ?_
    refine xw_goto 18 dL_turn_9 rfl ?_
    refine xw_iconst 19 (nI 0) dL_turn_18 rfl (xofI 0) ?_
    exact xw_ireturn dL_turn_19 rfl (xQw_0 e hag)
  · skip
    refine xt_catch (sa := 0) (ea := 9) (hpc := 12) (ct := 13) [] 13 rfl (fun z hz => by cases hz) (by decide) (by decide) h_L_13 dL_turn_12 rfl rfl rfl ?_
    refine xw_iconst 14 (nI 1) dL_turn_13 rfl (xofI 1) ?_
    exact xw_ireturn dL_turn_14 rfl (xQw_n (e) (by decide) hag)
  · skip
    refine xt_catch (sa := 0) (ea := 9) (hpc := 15) (ct := 15) [(0, 9, 12, 13)] 16 rfl (fun z hz => by rw [List.mem_singleton.mp hz]; exact ⟨by decide, _, h_L_13.1, by decide⟩) (by decide) (by decide) h_L_15 dL_turn_15 rfl rfl rfl ?_
    refine xw_iconst 17 (nI 2) dL_turn_16 rfl (xofI 2) ?_
    exact xw_ireturn dL_turn_17 rfl (xQw_n ((by omega)) (by decide) hag)
theorem S_L_undo (hm : M.length = 11) (hr : r.1 ≤ 1) (hM : xMet G B_undo [.ref 0] (cHp s sx (lTO M f)) x 1 6 (xQc3 (lTO M f) r s' xIS xIS)) : xMet G L_undo [.ref 0, .ref 82] (cHp s sx (lTO M f)) x 1 6 (xQw M r s' f) := by
  refine xw_aload_n 1 dL_undo_0 rfl rfl rfl ?_
  refine xw_iconst 2 (nI 0) dL_undo_1 rfl (xofI 0) ?_
  refine xw_aload_n 3 dL_undo_2 rfl rfl rfl ?_
  refine xw_kV (ar := []) 6 dL_undo_3 rfl ok_B_undo s_L_54 hM rfl rfl rfl rfl rfl rfl rfl (fun e w' sx' hag => ?_) (fun e w' sx' hag => ?_) (fun e e' w' sx' hag => ?_)
  · skip
    refine xw_i2l 7 dL_undo_6 rfl ?_
    refine xw_lastore (j := 0) (hp' := (cHp (w', s'.2) sx' (lTO M (vp_updL f 0 r.2.toInt64)))) 8 dL_undo_7 rfl (lTO_at hm) (rfl) (by decide) (by omega) (lTO_set hm) ?_
    refine xw_goto 14 dL_undo_8 rfl ?_
    refine xw_iconst 15 (nI 0) dL_undo_14 rfl (xofI 0) ?_
    exact xw_ireturn dL_undo_15 rfl (xQw_0 e hag)
  · skip
    refine xt_catch (sa := 0) (ea := 8) (hpc := 11) (ct := 15) [] 12 rfl (fun z hz => by cases hz) (by decide) (by decide) h_L_15 dL_undo_11 rfl rfl rfl ?_
    refine xw_iconst 13 (nI 1) dL_undo_12 rfl (xofI 1) ?_
    exact xw_ireturn dL_undo_13 rfl (xQw_n (e) (by decide) hag)
  · exact absurd hr (by omega)
theorem S_L_unpick {p : Int32} (hm : M.length = 11) (hr : r.1 ≤ 2) (hM : xMet G B_unpick [.ref 0, .int p] (cHp s sx (lTO M f)) x 1 6 (xQc3 (lTO M f) r s' xIA xIS)) : xMet G L_unpick [.ref 0, .int p, .ref 82] (cHp s sx (lTO M f)) x 1 6 (xQw M r s' f) := by
  refine xw_aload_n 1 dL_unpick_0 rfl rfl rfl ?_
  refine xw_iconst 2 (nI 0) dL_unpick_1 rfl (xofI 0) ?_
  refine xw_aload_n 3 dL_unpick_2 rfl rfl rfl ?_
  refine xw_iload_n 4 dL_unpick_3 rfl rfl ?_
  refine xw_kV (ar := [.int p]) 7 dL_unpick_4 rfl ok_B_unpick s_L_48 hM rfl rfl rfl rfl rfl rfl rfl (fun e w' sx' hag => ?_) (fun e w' sx' hag => ?_) (fun e e' w' sx' hag => ?_)
  · skip
    refine xw_i2l 8 dL_unpick_7 rfl ?_
    refine xw_lastore (j := 0) (hp' := (cHp (w', s'.2) sx' (lTO M (vp_updL f 0 r.2.toInt64)))) 9 dL_unpick_8 rfl (lTO_at hm) (rfl) (by decide) (by omega) (lTO_set hm) ?_
    refine xw_goto 18 dL_unpick_9 rfl ?_
    refine xw_iconst 19 (nI 0) dL_unpick_18 rfl (xofI 0) ?_
    exact xw_ireturn dL_unpick_19 rfl (xQw_0 e hag)
  · skip
    refine xt_catch (sa := 0) (ea := 9) (hpc := 12) (ct := 13) [] 13 rfl (fun z hz => by cases hz) (by decide) (by decide) h_L_13 dL_unpick_12 rfl rfl rfl ?_
    refine xw_iconst 14 (nI 1) dL_unpick_13 rfl (xofI 1) ?_
    exact xw_ireturn dL_unpick_14 rfl (xQw_n (e) (by decide) hag)
  · skip
    refine xt_catch (sa := 0) (ea := 9) (hpc := 15) (ct := 15) [(0, 9, 12, 13)] 16 rfl (fun z hz => by rw [List.mem_singleton.mp hz]; exact ⟨by decide, _, h_L_13.1, by decide⟩) (by decide) (by decide) h_L_15 dL_unpick_15 rfl rfl rfl ?_
    refine xw_iconst 17 (nI 2) dL_unpick_16 rfl (xofI 2) ?_
    exact xw_ireturn dL_unpick_17 rfl (xQw_n ((by omega)) (by decide) hag)
end P58

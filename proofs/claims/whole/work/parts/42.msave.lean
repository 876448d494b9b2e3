/-! ===== the model: its heap; what it saves and brings back; charts ===== -/
abbrev mS : Type := (Nat → Int32) × Int32 × Int32 × (Nat → Int32) × (Nat → Int32) × (Nat → Int32) × (Nat → Int32) × Int32 × Int32 × Int32 × Int32 × (Nat → Int32) × (Nat → Int32) × Int64
/-- the model's things, the first of them at the place 71 -/
def mC (z : Nat → Int32) (st : Int32) (hi : Nat → Int32) (ln : Int32) (tx : Nat → Int32) (th : Int32) (ot : Nat → Int32) (oR oC : Int32) (wa pR pC pM : Nat → Int32) (ps rr ha nu : Int32) (fe kc : Nat → Int32) (hs : Int64) (T : List xE) : List xE :=
  .inr (5, [.ref 72, .int st, .ref 73, .int ln, .ref 74, .int th, .ref 75, .int oR, .int oC, .ref 76, .ref 77, .ref 78, .ref 79, .int ps, .int rr, .int ha, .int nu, .ref 80, .ref 81, .long hs]) ::
  .inl (0, 435, .inl z) :: .inl (0, 2610, .inl hi) :: .inl (0, 60, .inl tx) :: .inl (0, 120, .inl ot) :: .inl (0, 6, .inl wa) :: .inl (0, 60, .inl pR) :: .inl (0, 60, .inl pC) :: .inl (0, 60, .inl pM) :: .inl (0, 241, .inl fe) :: .inl (0, 120, .inl kc) :: T
/-- A: what lies ahead of them, 71 things -/
abbrev mH (A : List xE) (z : Nat → Int32) (st : Int32) (hi : Nat → Int32) (ln : Int32) (tx : Nat → Int32) (th : Int32) (ot : Nat → Int32) (oR oC : Int32) (wa pR pC pM : Nat → Int32) (ps rr ha nu : Int32) (fe kc : Nat → Int32) (hs : Int64) (T : List xE) : List xE :=
  A ++ mC z st hi ln tx th ot oR oC wa pR pC pM ps rr ha nu fe kc hs T
/-- the same, by its scratch -/
abbrev mHq (A : List xE) (z : Nat → Int32) (st : Int32) (hi : Nat → Int32) (ln : Int32) (tx : Nat → Int32) (th : Int32) (c : mS) (T : List xE) : List xE :=
  mH A z st hi ln tx th c.1 c.2.1 c.2.2.1 c.2.2.2.1 c.2.2.2.2.1 c.2.2.2.2.2.1 c.2.2.2.2.2.2.1 c.2.2.2.2.2.2.2.1 c.2.2.2.2.2.2.2.2.1 c.2.2.2.2.2.2.2.2.2.1 c.2.2.2.2.2.2.2.2.2.2.1 c.2.2.2.2.2.2.2.2.2.2.2.1 c.2.2.2.2.2.2.2.2.2.2.2.2.1 c.2.2.2.2.2.2.2.2.2.2.2.2.2 T
theorem xA {A L : List xE} {j : Nat} {e : xE} (hA : A.length = 71) (h : L[j]? = some e) : (A ++ L)[j + 71]? = some e := by
  rw [List.getElem?_append_right (by omega), hA, Nat.add_sub_cancel]
  exact h
theorem xAs {A L L' : List xE} {j : Nat} {e : xE} (hA : A.length = 71) (h : L.set j e = L') : (A ++ L).set (j + 71) e = A ++ L' := by
  rw [List.set_append_right _ _ (by omega), hA, Nat.add_sub_cancel, h]
theorem mH_len {A : List xE} {z z' hi hi' tx tx' ot ot' wa wa' pR pR' pC pC' pM pM' fe fe' kc kc' : Nat → Int32} {st st' ln ln' th th' oR oR' oC oC' ps ps' rr rr' ha ha' nu nu' : Int32} {hs hs' : Int64} {T : List xE} : (mH A z st hi ln tx th ot oR oC wa pR pC pM ps rr ha nu fe kc hs T).length = (mH A z' st' hi' ln' tx' th' ot' oR' oC' wa' pR' pC' pM' ps' rr' ha' nu' fe' kc' hs' T).length := by
  rw [List.length_append, List.length_append]
  rfl
/-- the model's state: its row, its history, how many states, the buffer's length and characters -/
abbrev xMS : Type := (Nat → Int32) × (Nat → Int32) × Nat × Nat × (Nat → Int32)
/-- i numbers moved 435 places ahead -/
def msh (hi : Nat → Int32) (i : Nat) : Nat → Int32 := fun k => if k < i then hi (k + 435) else hi k
/-- i numbers of z laid at the place b -/
def mcp (z hi : Nat → Int32) (b i : Nat) : Nat → Int32 := fun k => if b ≤ k ∧ k < b + i then z (k - b) else hi k
def mhis (z hi : Nat → Int32) (s : Nat) : Nat → Int32 := if 6 ≤ s then mcp z (msh hi 2175) 2175 435 else mcp z hi (435 * s) 435
def mSav (m : xMS) (z' : Nat → Int32) (ln' : Nat) : xMS := (z', mhis m.1 m.2.1 m.2.2.1, zrM m.2.2.1, ln', m.2.2.2.2)
theorem msh_s (hi : Nat → Int32) (i : Nat) : upd (msh hi i) i (msh hi i (i + 435)) = msh hi (i + 1) := by
  funext k
  simp only [upd, msh]
  by_cases h : k = i
  · subst h; rw [if_pos rfl, if_neg (by omega), if_pos (by omega)]
  · rw [if_neg h]
    by_cases h2 : k < i
    · rw [if_pos h2, if_pos (by omega)]
    · rw [if_neg h2, if_neg (by omega)]
theorem msh_0 (hi : Nat → Int32) : msh hi 0 = hi := by funext k; simp [msh]
theorem mcp_0 (z hi : Nat → Int32) (b : Nat) : mcp z hi b 0 = hi := by
  funext k
  unfold mcp
  rw [if_neg (by omega)]
theorem mcp_s (z hi : Nat → Int32) (b i : Nat) : upd (mcp z hi b i) (b + i) (z i) = mcp z hi b (i + 1) := by
  funext k
  simp only [upd, mcp]
  by_cases h : k = b + i
  · subst h; rw [if_pos rfl, if_pos (by omega), Nat.add_sub_cancel_left]
  · rw [if_neg h]
    by_cases h2 : b ≤ k ∧ k < b + i
    · rw [if_pos h2, if_pos (by omega)]
    · rw [if_neg h2, if_neg (by omega)]
section P42
variable {G : xG} {x : Nat} {A T : List xE} {z hi tx ot wa pR pC pM fe kc : Nat → Int32} {s ln : Nat} {th oR oC ps rr ha nu : Int32} {hs : Int64}
theorem S_M_save (hA : A.length = 71) (hs6 : s ≤ 6) : xMet G M_save [.ref 71] (mH A z (nI s) hi (nI ln) tx th ot oR oC wa pR pC pM ps rr ha nu fe kc hs T) x 0 0 (xRet none (mH A z (nI (zrM s)) (mhis z hi s) (nI ln) tx th ot oR oC wa pR pC pM ps rr ha nu fe kc hs T)) := by
  by_cases h6 : 6 ≤ s
  · have e6 : s = 6 := by omega
    subst e6
    rw [show mhis z hi 6 = mcp z (msh hi 2175) 2175 435 from if_pos (Nat.le_refl 6), show zrM 6 = 5 + 1 from rfl]
    have loop : ∀ (t i : Nat), i + t = 435 → xW G M_save (xRet none (mH A z (nI (5 + 1)) (mcp z (msh hi 2175) 2175 435) (nI ln) tx th ot oR oC wa pR pC pM ps rr ha nu fe kc hs T)) 54 [(1, .int (nI i)), (0, .ref 71)] [] (mH A z (nI 5) (mcp z (msh hi 2175) 2175 i) (nI ln) tx th ot oR oC wa pR pC pM ps rr ha nu fe kc hs T) x 0 0 := by
      intro t
      induction t with
      | zero =>
        intro i hi9
        have e1 : i = 435 := by omega
        subst e1
        refine xw_iload_n 55 dX5_save_54 rfl rfl ?_
        refine xw_sipush 58 (nI 435) dX5_save_55 rfl (by decide) ?_
        refine xw_icmp_ge 88 61 dX5_save_58 rfl rfl (fun h58 => ?_) (fun h58 => absurd (nI_le (Nat.le_refl _) (by decide)) h58)
        refine xw_aload_n 89 dX5_save_88 rfl rfl rfl ?_
        refine xw_dup 90 dX5_save_89 rfl rfl ?_
        refine xw_get 93 dX5_save_90 rfl f_X5_44 (xA hA rfl) rfl ?_
        refine xw_iconst 94 (nI 1) dX5_save_93 rfl (xofI 1) ?_
        refine xw_iadd 95 dX5_save_94 rfl ?_
        rw [nI_add]
        refine xw_put (hp' := (mH A z (nI (5 + 1)) (mcp z (msh hi 2175) 2175 435) (nI ln) tx th ot oR oC wa pR pC pM ps rr ha nu fe kc hs T)) 98 dX5_save_95 rfl f_X5_44 (xA hA rfl) ⟨rfl, rfl⟩ rfl rfl (xAs hA rfl) ?_
        exact xw_return dX5_save_98 rfl (⟨rfl, rfl⟩)
      | succ t ih =>
        intro i hi9
        refine xw_iload_n 55 dX5_save_54 rfl rfl ?_
        refine xw_sipush 58 (nI 435) dX5_save_55 rfl (by decide) ?_
        refine xw_icmp_ge 88 61 dX5_save_58 rfl rfl (fun h58 => absurd h58 (nI_ge (by omega) (by omega))) (fun h58 => ?_)
        refine xw_aload_n 62 dX5_save_61 rfl rfl rfl ?_
        refine xw_get 65 dX5_save_62 rfl f_X5_13 (xA hA rfl) rfl ?_
        refine xw_sipush 68 (nI 435) dX5_save_65 rfl (by decide) ?_
        refine xw_aload_n 69 dX5_save_68 rfl rfl rfl ?_
        refine xw_get 72 dX5_save_69 rfl f_X5_44 (xA hA rfl) rfl ?_
        refine xw_imul 73 dX5_save_72 rfl ?_
        refine xw_iload_n 74 dX5_save_73 rfl rfl ?_
        refine xw_iadd 75 dX5_save_74 rfl ?_
        rw [pk_mul, nI_add]
        refine xw_aload_n 76 dX5_save_75 rfl rfl rfl ?_
        refine xw_get 79 dX5_save_76 rfl f_X5_7 (xA hA rfl) rfl ?_
        refine xw_iload_n 80 dX5_save_79 rfl rfl ?_
        refine xw_iaload (j := _) 81 dX5_save_80 rfl (xA hA rfl) (rfl) (by omega) (by omega) ?_
        refine xw_iastore (j := 2175 + i) (hp' := (mH A z (nI 5) (mcp z (msh hi 2175) 2175 (i + 1)) (nI ln) tx th ot oR oC wa pR pC pM ps rr ha nu fe kc hs T)) 82 dX5_save_81 rfl (xA hA rfl) (congrArg nI (by omega)) (by omega) (by omega) (by rw [mcp_s]; exact xAs hA rfl) ?_
        refine xw_iinc (ls' := [(1, _), (0, _)]) 85 _ dX5_save_82 rfl rfl (xnI_inc _) rfl rfl ?_
        refine xw_goto 54 dX5_save_85 rfl ?_
        exact xW.pick [0, 1] rfl (ih (i + 1) (by omega))
    have sh : ∀ (t i : Nat), i + t = 2175 → xW G M_save (xRet none (mH A z (nI (5 + 1)) (mcp z (msh hi 2175) 2175 435) (nI ln) tx th ot oR oC wa pR pC pM ps rr ha nu fe kc hs T)) 13 [(1, .int (nI (i + 435))), (0, .ref 71)] [] (mH A z (nI 6) (msh hi i) (nI ln) tx th ot oR oC wa pR pC pM ps rr ha nu fe kc hs T) x 0 0 := by
      intro t
      induction t with
      | zero =>
        intro i hi9
        have e1 : i = 2175 := by omega
        subst e1
        refine xw_iload_n 14 dX5_save_13 rfl rfl ?_
        refine xw_sipush 17 (nI 2610) dX5_save_14 rfl (by decide) ?_
        refine xw_icmp_ge 42 20 dX5_save_17 rfl rfl (fun h17 => ?_) (fun h17 => absurd (nI_le (by omega) (by omega)) h17)
        refine xw_aload_n 43 dX5_save_42 rfl rfl rfl ?_
        refine xw_dup 44 dX5_save_43 rfl rfl ?_
        refine xw_get 47 dX5_save_44 rfl f_X5_44 (xA hA rfl) rfl ?_
        refine xw_iconst 48 (nI 1) dX5_save_47 rfl (xofI 1) ?_
        refine xw_isub 49 dX5_save_48 rfl ?_
        refine xw_put (hp' := (mH A z (nI 5) (msh hi 2175) (nI ln) tx th ot oR oC wa pR pC pM ps rr ha nu fe kc hs T)) 52 dX5_save_49 rfl f_X5_44 (xA hA rfl) ⟨rfl, rfl⟩ rfl rfl (xAs hA rfl) ?_
        refine xw_iconst 53 (nI 0) dX5_save_52 rfl (xofI 0) ?_
        refine xw_istore_n (ls' := [(1, _), (0, _)]) 54 dX5_save_53 rfl rfl rfl ?_
        have h9 := loop 435 0 (by omega)
        rw [mcp_0] at h9
        exact xW.pick [0, 1] rfl h9
      | succ t ih =>
        intro i hi9
        have ih := ih (i + 1) (by omega)
        refine xw_iload_n 14 dX5_save_13 rfl rfl ?_
        refine xw_sipush 17 (nI 2610) dX5_save_14 rfl (by decide) ?_
        refine xw_icmp_ge 42 20 dX5_save_17 rfl rfl (fun h17 => absurd h17 (nI_ge (by omega) (by omega))) (fun h17 => ?_)
        refine xw_aload_n 21 dX5_save_20 rfl rfl rfl ?_
        refine xw_get 24 dX5_save_21 rfl f_X5_13 (xA hA rfl) rfl ?_
        refine xw_iload_n 25 dX5_save_24 rfl rfl ?_
        refine xw_sipush 28 (nI 435) dX5_save_25 rfl (by decide) ?_
        refine xw_isub 29 dX5_save_28 rfl ?_
        rw [pk_sub (by omega), Nat.add_sub_cancel]
        refine xw_aload_n 30 dX5_save_29 rfl rfl rfl ?_
        refine xw_get 33 dX5_save_30 rfl f_X5_13 (xA hA rfl) rfl ?_
        refine xw_iload_n 34 dX5_save_33 rfl rfl ?_
        refine xw_iaload (j := _) 35 dX5_save_34 rfl (xA hA rfl) (rfl) (by omega) (by omega) ?_
        refine xw_iastore (j := _) (hp' := (mH A z (nI 6) (msh hi (i + 1)) (nI ln) tx th ot oR oC wa pR pC pM ps rr ha nu fe kc hs T)) 36 dX5_save_35 rfl (xA hA rfl) (rfl) (by omega) (by omega) (by rw [msh_s]; exact xAs hA rfl) ?_
        refine xw_iinc (ls' := [(1, _), (0, _)]) 39 (nI (i + 1 + 435)) dX5_save_36 rfl rfl ((xnI_inc _).trans (congrArg nI (by omega))) rfl rfl ?_
        refine xw_goto 13 dX5_save_39 rfl ?_
        exact xW.pick [0, 1] rfl (ih)
    refine xw_aload_n 1 dX5_save_0 rfl rfl rfl ?_
    refine xw_get 4 dX5_save_1 rfl f_X5_44 (xA hA rfl) rfl ?_
    refine xw_bipush 6 (nI 6) dX5_save_4 rfl (by decide) ?_
    refine xw_icmp_ne 52 9 dX5_save_6 rfl rfl (fun h6 => absurd (rfl) h6) (fun h6 => ?_)
    refine xw_sipush 12 (nI 435) dX5_save_9 rfl (by decide) ?_
    refine xw_istore_n (ls' := [(1, _), (0, _)]) 13 dX5_save_12 rfl rfl rfl ?_
    have h9 := sh 2175 0 (by omega)
    rw [msh_0] at h9
    exact h9
  · rw [show mhis z hi s = mcp z hi (435 * s) 435 from if_neg h6, show zrM s = s + 1 from if_neg h6]
    have loop : ∀ (t i : Nat), i + t = 435 → xW G M_save (xRet none (mH A z (nI (s + 1)) (mcp z hi (435 * s) 435) (nI ln) tx th ot oR oC wa pR pC pM ps rr ha nu fe kc hs T)) 54 [(1, .int (nI i)), (0, .ref 71)] [] (mH A z (nI s) (mcp z hi (435 * s) i) (nI ln) tx th ot oR oC wa pR pC pM ps rr ha nu fe kc hs T) x 0 0 := by
      intro t
      induction t with
      | zero =>
        intro i hi9
        have e1 : i = 435 := by omega
        subst e1
        refine xw_iload_n 55 dX5_save_54 rfl rfl ?_
        refine xw_sipush 58 (nI 435) dX5_save_55 rfl (by decide) ?_
        refine xw_icmp_ge 88 61 dX5_save_58 rfl rfl (fun h58 => ?_) (fun h58 => absurd (nI_le (Nat.le_refl _) (by decide)) h58)
        refine xw_aload_n 89 dX5_save_88 rfl rfl rfl ?_
        refine xw_dup 90 dX5_save_89 rfl rfl ?_
        refine xw_get 93 dX5_save_90 rfl f_X5_44 (xA hA rfl) rfl ?_
        refine xw_iconst 94 (nI 1) dX5_save_93 rfl (xofI 1) ?_
        refine xw_iadd 95 dX5_save_94 rfl ?_
        rw [nI_add]
        refine xw_put (hp' := (mH A z (nI (s + 1)) (mcp z hi (435 * s) 435) (nI ln) tx th ot oR oC wa pR pC pM ps rr ha nu fe kc hs T)) 98 dX5_save_95 rfl f_X5_44 (xA hA rfl) ⟨rfl, rfl⟩ rfl rfl (xAs hA rfl) ?_
        exact xw_return dX5_save_98 rfl (⟨rfl, rfl⟩)
      | succ t ih =>
        intro i hi9
        refine xw_iload_n 55 dX5_save_54 rfl rfl ?_
        refine xw_sipush 58 (nI 435) dX5_save_55 rfl (by decide) ?_
        refine xw_icmp_ge 88 61 dX5_save_58 rfl rfl (fun h58 => absurd h58 (nI_ge (by omega) (by omega))) (fun h58 => ?_)
        refine xw_aload_n 62 dX5_save_61 rfl rfl rfl ?_
        refine xw_get 65 dX5_save_62 rfl f_X5_13 (xA hA rfl) rfl ?_
        refine xw_sipush 68 (nI 435) dX5_save_65 rfl (by decide) ?_
        refine xw_aload_n 69 dX5_save_68 rfl rfl rfl ?_
        refine xw_get 72 dX5_save_69 rfl f_X5_44 (xA hA rfl) rfl ?_
        refine xw_imul 73 dX5_save_72 rfl ?_
        refine xw_iload_n 74 dX5_save_73 rfl rfl ?_
        refine xw_iadd 75 dX5_save_74 rfl ?_
        rw [pk_mul, nI_add]
        refine xw_aload_n 76 dX5_save_75 rfl rfl rfl ?_
        refine xw_get 79 dX5_save_76 rfl f_X5_7 (xA hA rfl) rfl ?_
        refine xw_iload_n 80 dX5_save_79 rfl rfl ?_
        refine xw_iaload (j := _) 81 dX5_save_80 rfl (xA hA rfl) (rfl) (by omega) (by omega) ?_
        refine xw_iastore (j := (435 * s) + i) (hp' := (mH A z (nI s) (mcp z hi (435 * s) (i + 1)) (nI ln) tx th ot oR oC wa pR pC pM ps rr ha nu fe kc hs T)) 82 dX5_save_81 rfl (xA hA rfl) (congrArg nI (by omega)) (by omega) (by omega) (by rw [mcp_s]; exact xAs hA rfl) ?_
        refine xw_iinc (ls' := [(1, _), (0, _)]) 85 _ dX5_save_82 rfl rfl (xnI_inc _) rfl rfl ?_
        refine xw_goto 54 dX5_save_85 rfl ?_
        exact xW.pick [0, 1] rfl (ih (i + 1) (by omega))
    refine xw_aload_n 1 dX5_save_0 rfl rfl rfl ?_
    refine xw_get 4 dX5_save_1 rfl f_X5_44 (xA hA rfl) rfl ?_
    refine xw_bipush 6 (nI 6) dX5_save_4 rfl (by decide) ?_
    refine xw_icmp_ne 52 9 dX5_save_6 rfl rfl (fun h6 => ?_) (fun h6 => absurd h6 (fun q => by rw [nI_eq (by omega) (by omega)] at q; omega))
    refine xw_iconst 53 (nI 0) dX5_save_52 rfl (xofI 0) ?_
    refine xw_istore_n (ls' := [(1, _), (0, _)]) 54 dX5_save_53 rfl rfl rfl ?_
    have h9 := loop 435 0 (by omega)
    rw [mcp_0] at h9
    exact h9
/-- a public method's end: the kind and answer r, the state m, any scratch -/
def xQm (A T : List xE) (r : Nat × Int32) (m : xMS) : xO → List xE → Prop := fun o hp' => o = .inl (some (.int r.2)) ∧ ∃ c : mS, hp' = mHq A m.1 (nI m.2.2.1) m.2.1 (nI m.2.2.2.1) m.2.2.2.2 (nI r.1) c T
def oUndM (m : xMS) : (Nat × Int32) × xMS := if m.2.2.1 = 0 then ((1, 0), m) else ((0, nI (m.2.2.1 - 1)), (xmix (fun k => m.2.1 (435 * (m.2.2.1 - 1) + k)) m.1 435, m.2.1, m.2.2.1 - 1, m.2.2.2))
theorem S_M_undo (hA : A.length = 71) (hs6 : s ≤ 6) : xMet G M_undo [.ref 71] (mH A z (nI s) hi (nI ln) tx th ot oR oC wa pR pC pM ps rr ha nu fe kc hs T) x 0 0 (xQm A T (oUndM (z, hi, s, ln, tx)).1 (oUndM (z, hi, s, ln, tx)).2) := by
  unfold oUndM
  dsimp only
  by_cases h0 : s = 0
  · rw [if_pos h0]
    subst h0
    refine xw_aload_n 1 dX5_undo_0 rfl rfl rfl ?_
    refine xw_aload_n 2 dX5_undo_1 rfl rfl rfl ?_
    refine xw_get 5 dX5_undo_2 rfl f_X5_44 (xA hA rfl) rfl ?_
    refine xw_if_le 12 8 dX5_undo_5 rfl rfl (fun h5 => ?_) (fun h5 => absurd (by decide) h5)
    refine xw_iconst 13 (nI 1) dX5_undo_12 rfl (xofI 1) ?_
    refine xw_put (hp' := (mH A z (nI 0) hi (nI ln) tx (nI 1) ot oR oC wa pR pC pM ps rr ha nu fe kc hs T)) 16 dX5_undo_13 rfl f_X5_40 (xA hA rfl) ⟨rfl, rfl⟩ rfl rfl (xAs hA rfl) ?_
    refine xw_aload_n 17 dX5_undo_16 rfl rfl rfl ?_
    refine xw_get 20 dX5_undo_17 rfl f_X5_40 (xA hA rfl) rfl ?_
    refine xw_if_le 25 23 dX5_undo_20 rfl rfl (fun h20 => absurd h20 (by decide)) (fun h20 => ?_)
    refine xw_iconst 24 (nI 0) dX5_undo_23 rfl (xofI 0) ?_
    exact xw_ireturn dX5_undo_24 rfl (⟨rfl, (ot, oR, oC, wa, pR, pC, pM, ps, rr, ha, nu, fe, kc, hs), rfl⟩)
  · rw [if_neg h0]
    have loop : ∀ (t i : Nat), i + t = 435 → xW G M_undo (xQm A T (0, nI (s - 1)) (xmix (fun k => hi (435 * (s - 1) + k)) z 435, hi, s - 1, ln, tx)) 37 [(1, .int (nI i)), (0, .ref 71)] [] (mH A (xmix (fun k => hi (435 * (s - 1) + k)) z i) (nI (s - 1)) hi (nI ln) tx (nI 0) ot oR oC wa pR pC pM ps rr ha nu fe kc hs T) x 0 0 := by
      intro t
      induction t with
      | zero =>
        intro i hi9
        have e1 : i = 435 := by omega
        subst e1
        refine xw_iload_n 38 dX5_undo_37 rfl rfl ?_
        refine xw_sipush 41 (nI 435) dX5_undo_38 rfl (by decide) ?_
        refine xw_icmp_ge 71 44 dX5_undo_41 rfl rfl (fun h41 => ?_) (fun h41 => absurd (nI_le (Nat.le_refl _) (by decide)) h41)
        refine xw_aload_n 72 dX5_undo_71 rfl rfl rfl ?_
        refine xw_get 75 dX5_undo_72 rfl f_X5_44 (xA hA rfl) rfl ?_
        exact xw_ireturn dX5_undo_75 rfl (⟨rfl, (ot, oR, oC, wa, pR, pC, pM, ps, rr, ha, nu, fe, kc, hs), rfl⟩)
      | succ t ih =>
        intro i hi9
        refine xw_iload_n 38 dX5_undo_37 rfl rfl ?_
        refine xw_sipush 41 (nI 435) dX5_undo_38 rfl (by decide) ?_
        refine xw_icmp_ge 71 44 dX5_undo_41 rfl rfl (fun h41 => absurd h41 (nI_ge (by omega) (by omega))) (fun h41 => ?_)
        refine xw_aload_n 45 dX5_undo_44 rfl rfl rfl ?_
        refine xw_get 48 dX5_undo_45 rfl f_X5_7 (xA hA rfl) rfl ?_
        refine xw_iload_n 49 dX5_undo_48 rfl rfl ?_
        refine xw_aload_n 50 dX5_undo_49 rfl rfl rfl ?_
        refine xw_get 53 dX5_undo_50 rfl f_X5_13 (xA hA rfl) rfl ?_
        refine xw_sipush 56 (nI 435) dX5_undo_53 rfl (by decide) ?_
        refine xw_aload_n 57 dX5_undo_56 rfl rfl rfl ?_
        refine xw_get 60 dX5_undo_57 rfl f_X5_44 (xA hA rfl) rfl ?_
        refine xw_imul 61 dX5_undo_60 rfl ?_
        rw [pk_mul]
        refine xw_iload_n 62 dX5_undo_61 rfl rfl ?_
        refine xw_iadd 63 dX5_undo_62 rfl ?_
        refine xw_iaload (j := _) 64 dX5_undo_63 rfl (xA hA rfl) (nI_add _ _) (by omega) (by omega) ?_
        refine xw_iastore (j := i) (hp' := (mH A (xmix (fun k => hi (435 * (s - 1) + k)) z (i + 1)) (nI (s - 1)) hi (nI ln) tx (nI 0) ot oR oC wa pR pC pM ps rr ha nu fe kc hs T)) 65 dX5_undo_64 rfl (xA hA rfl) (rfl) (by omega) (by omega) (by rw [xmix_s (fun k => hi (435 * (s - 1) + k))]; exact xAs hA rfl) ?_
        refine xw_iinc (ls' := [(1, _), (0, _)]) 68 _ dX5_undo_65 rfl rfl (xnI_inc _) rfl rfl ?_
        refine xw_goto 37 dX5_undo_68 rfl ?_
        exact xW.pick [0, 1] rfl (ih (i + 1) (by omega))
    refine xw_aload_n 1 dX5_undo_0 rfl rfl rfl ?_
    refine xw_aload_n 2 dX5_undo_1 rfl rfl rfl ?_
    refine xw_get 5 dX5_undo_2 rfl f_X5_44 (xA hA rfl) rfl ?_
    refine xw_if_le 12 8 dX5_undo_5 rfl rfl (fun h5 => absurd h5 (xle0 (by omega) (by omega))) (fun h5 => ?_)
    refine xw_iconst 9 (nI 0) dX5_undo_8 rfl (xofI 0) ?_
    refine xw_goto 13 dX5_undo_9 rfl ?_
    refine xw_put (hp' := (mH A z (nI s) hi (nI ln) tx (nI 0) ot oR oC wa pR pC pM ps rr ha nu fe kc hs T)) 16 dX5_undo_13 rfl f_X5_40 (xA hA rfl) ⟨rfl, rfl⟩ rfl rfl (xAs hA rfl) ?_
    refine xw_aload_n 17 dX5_undo_16 rfl rfl rfl ?_
    refine xw_get 20 dX5_undo_17 rfl f_X5_40 (xA hA rfl) rfl ?_
    refine xw_if_le 25 23 dX5_undo_20 rfl rfl (fun h20 => ?_) (fun h20 => absurd (by decide) h20)
    refine xw_aload_n 26 dX5_undo_25 rfl rfl rfl ?_
    refine xw_dup 27 dX5_undo_26 rfl rfl ?_
    refine xw_get 30 dX5_undo_27 rfl f_X5_44 (xA hA rfl) rfl ?_
    refine xw_iconst 31 (nI 1) dX5_undo_30 rfl (xofI 1) ?_
    refine xw_isub 32 dX5_undo_31 rfl ?_
    rw [nI_1s (by omega)]
    refine xw_put (hp' := (mH A z (nI (s - 1)) hi (nI ln) tx (nI 0) ot oR oC wa pR pC pM ps rr ha nu fe kc hs T)) 35 dX5_undo_32 rfl f_X5_44 (xA hA rfl) ⟨rfl, rfl⟩ rfl rfl (xAs hA rfl) ?_
    refine xw_iconst 36 (nI 0) dX5_undo_35 rfl (xofI 0) ?_
    refine xw_istore_n (ls' := [(1, _), (0, _)]) 37 dX5_undo_36 rfl rfl rfl ?_
    have h9 := loop 435 0 (by omega)
    rw [xmix_0] at h9
    exact h9
/-- the first i cells taken -/
def mtk (z ot : Nat → Int32) (R C i : Nat) : Nat → Int32 := fun k => if 27 ≤ k ∧ k < 27 + i then (if (k - 27) / 12 < R ∧ (k - 27) % 12 < C then ot (k - 27) else 0) else upd (upd z 4 (nI R)) 5 (nI C) k
theorem mtk_0 (z ot : Nat → Int32) (R C : Nat) : mtk z ot R C 0 = upd (upd z 4 (nI R)) 5 (nI C) := by
  funext k
  unfold mtk
  rw [if_neg (by omega)]
theorem mtk_s (z ot : Nat → Int32) (R C i : Nat) {v : Int32} (hv : v = if i / 12 < R ∧ i % 12 < C then ot i else 0) : upd (mtk z ot R C i) (27 + i) v = mtk z ot R C (i + 1) := by
  funext k
  by_cases h : k = 27 + i
  · subst h
    rw [upd_at]
    unfold mtk
    rw [if_pos (by omega), Nat.add_sub_cancel_left, hv]
  · rw [upd_ne h]
    unfold mtk
    by_cases h2 : 27 ≤ k ∧ k < 27 + i
    · rw [if_pos h2, if_pos (show 27 ≤ k ∧ k < 27 + (i + 1) by omega)]
    · rw [if_neg h2, if_neg (show ¬ (27 ≤ k ∧ k < 27 + (i + 1)) by omega)]
theorem mtk_e (z ot : Nat → Int32) (R C : Nat) : mtk z ot R C 120 = zlaid z R C (fun r c => ot (r * 12 + c)) := by
  funext k
  unfold mtk zlaid
  by_cases h2 : 27 ≤ k ∧ k < 147
  · rw [if_pos (show 27 ≤ k ∧ k < 27 + 120 by omega), if_neg (show ¬ k = 4 by omega), if_neg (show ¬ k = 5 by omega), if_pos h2]
    have e : (k - 27) / 12 * 12 + (k - 27) % 12 = k - 27 := by omega
    dsimp only
    rw [e]
  · rw [if_neg (show ¬ (27 ≤ k ∧ k < 27 + 120) by omega)]
    by_cases h5 : k = 5
    · subst h5; rfl
    · rw [upd_ne h5]
      by_cases h4 : k = 4
      · subst h4; rfl
      · rw [upd_ne h4, if_neg h4, if_neg h5, if_neg h2]
theorem zlaid_congr {z : Nat → Int32} {R C : Nat} {f g : Nat → Nat → Int32} (h : ∀ r c, r < R → c < C → f r c = g r c) : zlaid z R C f = zlaid z R C g := by
  funext k
  unfold zlaid
  by_cases h4 : k = 4
  · rw [if_pos h4, if_pos h4]
  · rw [if_neg h4, if_neg h4]
    by_cases h5 : k = 5
    · rw [if_pos h5, if_pos h5]
    · rw [if_neg h5, if_neg h5]
      by_cases h2 : 27 ≤ k ∧ k < 147
      · rw [if_pos h2, if_pos h2]
        by_cases h3 : (k - 27) / 12 < R ∧ (k - 27) % 12 < C
        · rw [if_pos h3, if_pos h3, h _ _ h3.1 h3.2]
        · rw [if_neg h3, if_neg h3]
      · rw [if_neg h2, if_neg h2]
theorem S_M_takeOther {R C : Nat} (hA : A.length = 71) (hR : R ≤ 100) (hC : C ≤ 100) : xMet G M_takeOther [.ref 71] (mH A z (nI s) hi (nI ln) tx th ot (nI R) (nI C) wa pR pC pM ps rr ha nu fe kc hs T) x 0 0 (xRet none (mH A (zlaid z R C (fun r c => ot (r * 12 + c))) (nI s) hi (nI ln) tx th ot (nI R) (nI C) wa pR pC pM ps rr ha nu fe kc hs T)) := by
  rw [← mtk_e]
  have loop : ∀ (t i : Nat), i + t = 120 → xW G M_takeOther (xRet none (mH A (mtk z ot R C 120) (nI s) hi (nI ln) tx th ot (nI R) (nI C) wa pR pC pM ps rr ha nu fe kc hs T)) 22 [(1, .int (nI i)), (0, .ref 71)] [] (mH A (mtk z ot R C i) (nI s) hi (nI ln) tx th ot (nI R) (nI C) wa pR pC pM ps rr ha nu fe kc hs T) x 0 0 := by
    intro t
    induction t with
    | zero =>
      intro i hi9
      have e1 : i = 120 := by omega
      subst e1
      refine xw_iload_n 23 dX5_takeOther_22 rfl rfl ?_
      refine xw_bipush 25 (nI 120) dX5_takeOther_23 rfl (by decide) ?_
      refine xw_icmp_ge 85 28 dX5_takeOther_25 rfl rfl (fun h25 => ?_) (fun h25 => absurd (nI_le (Nat.le_refl _) (by decide)) h25)
      exact xw_return dX5_takeOther_85 rfl (⟨rfl, rfl⟩)
    | succ t ih =>
      intro i hi9
      have ih := ih (i + 1) (by omega)
      by_cases h1 : i / 12 < R
      · by_cases h2 : i % 12 < C
        · skip
          refine xw_iload_n 23 dX5_takeOther_22 rfl rfl ?_
          refine xw_bipush 25 (nI 120) dX5_takeOther_23 rfl (by decide) ?_
          refine xw_icmp_ge 85 28 dX5_takeOther_25 rfl rfl (fun h25 => absurd h25 (nI_ge (by omega) (by omega))) (fun h25 => ?_)
          refine xw_iload_n 29 dX5_takeOther_28 rfl rfl ?_
          refine xw_bipush 31 (nI 12) dX5_takeOther_29 rfl (by decide) ?_
          refine xw_idiv 32 dX5_takeOther_31 rfl (by decide) ?_
          rw [pk_div (d := 12) (by omega) (by decide) (by decide)]
          refine xw_aload_n 33 dX5_takeOther_32 rfl rfl rfl ?_
          refine xw_get 36 dX5_takeOther_33 rfl f_X5_75 (xA hA rfl) rfl ?_
          refine xw_icmp_ge 54 39 dX5_takeOther_36 rfl rfl (fun h36 => absurd h36 (nI_ge h1 (by omega))) (fun h36 => ?_)
          refine xw_iload_n 40 dX5_takeOther_39 rfl rfl ?_
          refine xw_bipush 42 (nI 12) dX5_takeOther_40 rfl (by decide) ?_
          refine xw_irem 43 dX5_takeOther_42 rfl (by decide) ?_
          rw [pk_rem (d := 12) (by omega) (by decide) (by decide)]
          refine xw_aload_n 44 dX5_takeOther_43 rfl rfl rfl ?_
          refine xw_get 47 dX5_takeOther_44 rfl f_X5_78 (xA hA rfl) rfl ?_
          refine xw_icmp_ge 54 50 dX5_takeOther_47 rfl rfl (fun h47 => absurd h47 (nI_ge h2 (by omega))) (fun h47 => ?_)
          refine xw_iconst 51 (nI 1) dX5_takeOther_50 rfl (xofI 1) ?_
          refine xw_goto 55 dX5_takeOther_51 rfl ?_
          refine xw_istore_n (ls' := [(2, _), (1, _), (0, _)]) 56 dX5_takeOther_55 rfl rfl rfl ?_
          refine xw_aload_n 57 dX5_takeOther_56 rfl rfl rfl ?_
          refine xw_get 60 dX5_takeOther_57 rfl f_X5_7 (xA hA rfl) rfl ?_
          refine xw_bipush 62 (nI 27) dX5_takeOther_60 rfl (by decide) ?_
          refine xw_iload_n 63 dX5_takeOther_62 rfl rfl ?_
          refine xw_iadd 64 dX5_takeOther_63 rfl ?_
          refine xw_iload_n 65 dX5_takeOther_64 rfl rfl ?_
          refine xw_if_eq 77 68 dX5_takeOther_65 rfl rfl (fun h65 => absurd h65 (by decide)) (fun h65 => ?_)
          refine xw_aload_n 69 dX5_takeOther_68 rfl rfl rfl ?_
          refine xw_get 72 dX5_takeOther_69 rfl f_X5_19 (xA hA rfl) rfl ?_
          refine xw_iload_n 73 dX5_takeOther_72 rfl rfl ?_
          refine xw_iaload (j := _) 74 dX5_takeOther_73 rfl (xA hA rfl) (rfl) (by omega) (by omega) ?_
          refine xw_goto 78 dX5_takeOther_74 rfl ?_
          refine xw_iastore (j := 27 + i) (hp' := (mH A (mtk z ot R C (i + 1)) (nI s) hi (nI ln) tx th ot (nI R) (nI C) wa pR pC pM ps rr ha nu fe kc hs T)) 79 dX5_takeOther_78 rfl (xA hA rfl) (nI_add _ _) (by omega) (by omega) (by rw [mtk_s z ot R C i (by rw [if_pos ⟨h1, h2⟩])]; exact xAs hA rfl) ?_
          refine xw_iinc (ls' := [(1, _), (2, _), (0, _)]) 82 _ dX5_takeOther_79 rfl rfl (xnI_inc _) rfl rfl ?_
          refine xw_goto 22 dX5_takeOther_82 rfl ?_
          exact xW.pick [0, 2] rfl (ih)
        · skip
          refine xw_iload_n 23 dX5_takeOther_22 rfl rfl ?_
          refine xw_bipush 25 (nI 120) dX5_takeOther_23 rfl (by decide) ?_
          refine xw_icmp_ge 85 28 dX5_takeOther_25 rfl rfl (fun h25 => absurd h25 (nI_ge (by omega) (by omega))) (fun h25 => ?_)
          refine xw_iload_n 29 dX5_takeOther_28 rfl rfl ?_
          refine xw_bipush 31 (nI 12) dX5_takeOther_29 rfl (by decide) ?_
          refine xw_idiv 32 dX5_takeOther_31 rfl (by decide) ?_
          rw [pk_div (d := 12) (by omega) (by decide) (by decide)]
          refine xw_aload_n 33 dX5_takeOther_32 rfl rfl rfl ?_
          refine xw_get 36 dX5_takeOther_33 rfl f_X5_75 (xA hA rfl) rfl ?_
          refine xw_icmp_ge 54 39 dX5_takeOther_36 rfl rfl (fun h36 => absurd h36 (nI_ge h1 (by omega))) (fun h36 => ?_)
          refine xw_iload_n 40 dX5_takeOther_39 rfl rfl ?_
          refine xw_bipush 42 (nI 12) dX5_takeOther_40 rfl (by decide) ?_
          refine xw_irem 43 dX5_takeOther_42 rfl (by decide) ?_
          rw [pk_rem (d := 12) (by omega) (by decide) (by decide)]
          refine xw_aload_n 44 dX5_takeOther_43 rfl rfl rfl ?_
          refine xw_get 47 dX5_takeOther_44 rfl f_X5_78 (xA hA rfl) rfl ?_
          refine xw_icmp_ge 54 50 dX5_takeOther_47 rfl rfl (fun h47 => ?_) (fun h47 => absurd (nI_le (by omega) (by omega)) h47)
          refine xw_iconst 55 (nI 0) dX5_takeOther_54 rfl (xofI 0) ?_
          refine xw_istore_n (ls' := [(2, _), (1, _), (0, _)]) 56 dX5_takeOther_55 rfl rfl rfl ?_
          refine xw_aload_n 57 dX5_takeOther_56 rfl rfl rfl ?_
          refine xw_get 60 dX5_takeOther_57 rfl f_X5_7 (xA hA rfl) rfl ?_
          refine xw_bipush 62 (nI 27) dX5_takeOther_60 rfl (by decide) ?_
          refine xw_iload_n 63 dX5_takeOther_62 rfl rfl ?_
          refine xw_iadd 64 dX5_takeOther_63 rfl ?_
          refine xw_iload_n 65 dX5_takeOther_64 rfl rfl ?_
          refine xw_if_eq 77 68 dX5_takeOther_65 rfl rfl (fun h65 => ?_) (fun h65 => absurd (rfl) h65)
          refine xw_iconst 78 (nI 0) dX5_takeOther_77 rfl (xofI 0) ?_
          refine xw_iastore (j := 27 + i) (hp' := (mH A (mtk z ot R C (i + 1)) (nI s) hi (nI ln) tx th ot (nI R) (nI C) wa pR pC pM ps rr ha nu fe kc hs T)) 79 dX5_takeOther_78 rfl (xA hA rfl) (nI_add _ _) (by omega) (by omega) (by rw [mtk_s z ot R C i (by rw [if_neg (fun q => h2 q.2)]; rfl)]; exact xAs hA rfl) ?_
          refine xw_iinc (ls' := [(1, _), (2, _), (0, _)]) 82 _ dX5_takeOther_79 rfl rfl (xnI_inc _) rfl rfl ?_
          refine xw_goto 22 dX5_takeOther_82 rfl ?_
          exact xW.pick [0, 2] rfl (ih)
      · skip
        refine xw_iload_n 23 dX5_takeOther_22 rfl rfl ?_
        refine xw_bipush 25 (nI 120) dX5_takeOther_23 rfl (by decide) ?_
        refine xw_icmp_ge 85 28 dX5_takeOther_25 rfl rfl (fun h25 => absurd h25 (nI_ge (by omega) (by omega))) (fun h25 => ?_)
        refine xw_iload_n 29 dX5_takeOther_28 rfl rfl ?_
        refine xw_bipush 31 (nI 12) dX5_takeOther_29 rfl (by decide) ?_
        refine xw_idiv 32 dX5_takeOther_31 rfl (by decide) ?_
        rw [pk_div (d := 12) (by omega) (by decide) (by decide)]
        refine xw_aload_n 33 dX5_takeOther_32 rfl rfl rfl ?_
        refine xw_get 36 dX5_takeOther_33 rfl f_X5_75 (xA hA rfl) rfl ?_
        refine xw_icmp_ge 54 39 dX5_takeOther_36 rfl rfl (fun h36 => ?_) (fun h36 => absurd (nI_le (by omega) (by omega)) h36)
        refine xw_iconst 55 (nI 0) dX5_takeOther_54 rfl (xofI 0) ?_
        refine xw_istore_n (ls' := [(2, _), (1, _), (0, _)]) 56 dX5_takeOther_55 rfl rfl rfl ?_
        refine xw_aload_n 57 dX5_takeOther_56 rfl rfl rfl ?_
        refine xw_get 60 dX5_takeOther_57 rfl f_X5_7 (xA hA rfl) rfl ?_
        refine xw_bipush 62 (nI 27) dX5_takeOther_60 rfl (by decide) ?_
        refine xw_iload_n 63 dX5_takeOther_62 rfl rfl ?_
        refine xw_iadd 64 dX5_takeOther_63 rfl ?_
        refine xw_iload_n 65 dX5_takeOther_64 rfl rfl ?_
        refine xw_if_eq 77 68 dX5_takeOther_65 rfl rfl (fun h65 => ?_) (fun h65 => absurd (rfl) h65)
        refine xw_iconst 78 (nI 0) dX5_takeOther_77 rfl (xofI 0) ?_
        refine xw_iastore (j := 27 + i) (hp' := (mH A (mtk z ot R C (i + 1)) (nI s) hi (nI ln) tx th ot (nI R) (nI C) wa pR pC pM ps rr ha nu fe kc hs T)) 79 dX5_takeOther_78 rfl (xA hA rfl) (nI_add _ _) (by omega) (by omega) (by rw [mtk_s z ot R C i (by rw [if_neg (fun q => h1 q.1)]; rfl)]; exact xAs hA rfl) ?_
        refine xw_iinc (ls' := [(1, _), (2, _), (0, _)]) 82 _ dX5_takeOther_79 rfl rfl (xnI_inc _) rfl rfl ?_
        refine xw_goto 22 dX5_takeOther_82 rfl ?_
        exact xW.pick [0, 2] rfl (ih)
  refine xw_aload_n 1 dX5_takeOther_0 rfl rfl rfl ?_
  refine xw_get 4 dX5_takeOther_1 rfl f_X5_7 (xA hA rfl) rfl ?_
  refine xw_iconst 5 (nI 4) dX5_takeOther_4 rfl (xofI 4) ?_
  refine xw_aload_n 6 dX5_takeOther_5 rfl rfl rfl ?_
  refine xw_get 9 dX5_takeOther_6 rfl f_X5_75 (xA hA rfl) rfl ?_
  refine xw_iastore (j := 4) (hp' := (mH A (upd z 4 (nI R)) (nI s) hi (nI ln) tx th ot (nI R) (nI C) wa pR pC pM ps rr ha nu fe kc hs T)) 10 dX5_takeOther_9 rfl (xA hA rfl) (rfl) (by omega) (by omega) (xAs hA rfl) ?_
  refine xw_aload_n 11 dX5_takeOther_10 rfl rfl rfl ?_
  refine xw_get 14 dX5_takeOther_11 rfl f_X5_7 (xA hA rfl) rfl ?_
  refine xw_iconst 15 (nI 5) dX5_takeOther_14 rfl (xofI 5) ?_
  refine xw_aload_n 16 dX5_takeOther_15 rfl rfl rfl ?_
  refine xw_get 19 dX5_takeOther_16 rfl f_X5_78 (xA hA rfl) rfl ?_
  refine xw_iastore (j := 5) (hp' := (mH A (upd (upd z 4 (nI R)) 5 (nI C)) (nI s) hi (nI ln) tx th ot (nI R) (nI C) wa pR pC pM ps rr ha nu fe kc hs T)) 20 dX5_takeOther_19 rfl (xA hA rfl) (rfl) (by omega) (by omega) (xAs hA rfl) ?_
  refine xw_iconst 21 (nI 0) dX5_takeOther_20 rfl (xofI 0) ?_
  refine xw_istore_n (ls' := [(1, _), (0, _)]) 22 dX5_takeOther_21 rfl rfl rfl ?_
  have h9 := loop 120 0 (by omega)
  rw [mtk_0] at h9
  exact h9
end P42

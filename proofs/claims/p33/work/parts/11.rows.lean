/-! ===== BeadSpirals' rows of numbers: at, put, add, copy, sum, occurrences, quotient, remainder, small tests ===== -/
theorem xSelf {α : Type} {l : List α} {k : Nat} {e : α} (h : l[k]? = some e) : l.set k e = l := by
  apply List.ext_getElem?
  intro i
  rw [List.getElem?_set]
  by_cases hk : k = i
  · subst hk
    rw [if_pos rfl, if_pos (List.getElem?_eq_some_iff.mp h).1, h]
  · rw [if_neg hk]
/-- the first i entries of f over g -/
def xmix (f g : Nat → Int32) (i : Nat) : Nat → Int32 := fun k => if k < i then f k else g k
theorem xmix_0 (f g : Nat → Int32) : xmix f g 0 = g := by funext k; simp [xmix]
theorem xmix_s (f g : Nat → Int32) (i : Nat) : upd (xmix f g i) i (f i) = xmix f g (i + 1) := by
  funext k
  simp only [upd, xmix]
  by_cases h : k = i
  · subst h; simp
  · rw [if_neg h]
    by_cases h2 : k < i
    · rw [if_pos h2, if_pos (by omega)]
    · rw [if_neg h2, if_neg (by omega)]
/-- the sum of the first n numbers -/
def xsum (f : Nat → Int32) : Nat → Int32
  | 0 => 0
  | n + 1 => xsum f n + f n
/-- how many of the first n numbers are v -/
def xocc (f : Nat → Int32) (v : Int32) : Nat → Nat
  | 0 => 0
  | n + 1 => xocc f v n + if f n = v then 1 else 0
theorem xocc_le (f : Nat → Int32) (v : Int32) : ∀ n, xocc f v n ≤ n
  | 0 => Nat.le_refl _
  | n + 1 => by
    have := xocc_le f v n
    unfold xocc
    split <;> omega
section P11
variable {G : xG} {hp : List xE} {x : Nat}
theorem S_B_at {k n j : Nat} {f : Nat → Int32} {i : Int32} (hk : hp[k]? = some (.inl (0, n, .inl f))) (hn : n < 2 ^ 31) (hi : i = nI j) (hj : j < n) : xMet G B_at [.ref k, .int i] hp x 0 0 (xRetV (.int (f j)) hp) := by
  subst hi
  refine xw_aload_n 1 dX4_at_0 rfl rfl rfl ?_
  refine xw_ifnull 4 dX4_at_1 rfl rfl rfl ?_
  refine xw_iload_n 5 dX4_at_4 rfl rfl ?_
  refine xw_if_lt 14 8 dX4_at_5 rfl rfl (fun h5 => absurd h5 (nI_pos (by omega))) (fun h5 => ?_)
  refine xw_iload_n 9 dX4_at_8 rfl rfl ?_
  refine xw_aload_n 10 dX4_at_9 rfl rfl rfl ?_
  refine xw_alen 11 dX4_at_10 rfl (by decide) (hk) ?_
  refine xw_icmp_lt 16 14 dX4_at_11 rfl rfl (fun h11 => ?_) (fun h11 => absurd (nI_lt hj hn) h11)
  refine xw_aload_n 17 dX4_at_16 rfl rfl rfl ?_
  refine xw_iload_n 18 dX4_at_17 rfl rfl ?_
  refine xw_iaload (j := _) 19 dX4_at_18 rfl (hk) (rfl) (by omega) (by omega) ?_
  exact xw_ireturn dX4_at_19 rfl (⟨rfl, rfl⟩)
theorem S_B_at_ro {r j : Nat} {i : Int32} (hr : r < 4) (hn : (xgr G r).1 < 2 ^ 31) (hi : i = nI j) (hj : j < (xgr G r).1) : xMet G B_at [.retAddr r, .int i] hp x 0 0 (xRetV (.int ((xgr G r).2 j)) hp) := by
  subst hi
  refine xw_aload_n 1 dX4_at_0 rfl rfl rfl ?_
  refine xw_ifnull 4 dX4_at_1 rfl rfl rfl ?_
  refine xw_iload_n 5 dX4_at_4 rfl rfl ?_
  refine xw_if_lt 14 8 dX4_at_5 rfl rfl (fun h5 => absurd h5 (nI_pos (by omega))) (fun h5 => ?_)
  refine xw_iload_n 9 dX4_at_8 rfl rfl ?_
  refine xw_aload_n 10 dX4_at_9 rfl rfl rfl ?_
  refine xw_alenR 11 dX4_at_10 rfl (hr) ?_
  refine xw_icmp_lt 16 14 dX4_at_11 rfl rfl (fun h11 => ?_) (fun h11 => absurd (nI_lt hj hn) h11)
  refine xw_aload_n 17 dX4_at_16 rfl rfl rfl ?_
  refine xw_iload_n 18 dX4_at_17 rfl rfl ?_
  refine xw_ialoadR (j := _) 19 dX4_at_18 rfl (hr) (rfl) (by omega) (by omega) ?_
  exact xw_ireturn dX4_at_19 rfl (⟨rfl, rfl⟩)
theorem S_B_put {k n j : Nat} {f : Nat → Int32} {i v : Int32} {h1 : List xE} (hk : hp[k]? = some (.inl (0, n, .inl f))) (hn : n < 2 ^ 31) (hi : i = nI j) (hj : j < n) (h1e : hp.set k (.inl (0, n, .inl (upd f j v))) = h1) : xMet G B_put [.ref k, .int i, .int v] hp x 0 0 (xRet none h1) := by
  subst hi
  refine xw_aload_n 1 dX4_put_0 rfl rfl rfl ?_
  refine xw_ifnull 4 dX4_put_1 rfl rfl rfl ?_
  refine xw_iload_n 5 dX4_put_4 rfl rfl ?_
  refine xw_if_lt 14 8 dX4_put_5 rfl rfl (fun h5 => absurd h5 (nI_pos (by omega))) (fun h5 => ?_)
  refine xw_iload_n 9 dX4_put_8 rfl rfl ?_
  refine xw_aload_n 10 dX4_put_9 rfl rfl rfl ?_
  refine xw_alen 11 dX4_put_10 rfl (by decide) (hk) ?_
  refine xw_icmp_lt 15 14 dX4_put_11 rfl rfl (fun h11 => ?_) (fun h11 => absurd (nI_lt hj hn) h11)
  refine xw_aload_n 16 dX4_put_15 rfl rfl rfl ?_
  refine xw_iload_n 17 dX4_put_16 rfl rfl ?_
  refine xw_iload_n 18 dX4_put_17 rfl rfl ?_
  refine xw_iastore (j := _) 19 dX4_put_18 rfl (hk) (rfl) (by omega) (by omega) (h1e) ?_
  exact xw_return dX4_put_19 rfl (⟨rfl, rfl⟩)
theorem S_B_put_out {k n j : Nat} {f : Nat → Int32} {i v : Int32} (hk : hp[k]? = some (.inl (0, n, .inl f))) (hn : n < 2 ^ 31) (hi : i = nI j) (hj : n ≤ j) (hj2 : j < 2 ^ 31) : xMet G B_put [.ref k, .int i, .int v] hp x 0 0 (xRet none hp) := by
  subst hi
  refine xw_aload_n 1 dX4_put_0 rfl rfl rfl ?_
  refine xw_ifnull 4 dX4_put_1 rfl rfl rfl ?_
  refine xw_iload_n 5 dX4_put_4 rfl rfl ?_
  refine xw_if_lt 14 8 dX4_put_5 rfl rfl (fun h5 => absurd h5 (nI_pos (by omega))) (fun h5 => ?_)
  refine xw_iload_n 9 dX4_put_8 rfl rfl ?_
  refine xw_aload_n 10 dX4_put_9 rfl rfl rfl ?_
  refine xw_alen 11 dX4_put_10 rfl (by decide) (hk) ?_
  refine xw_icmp_lt 15 14 dX4_put_11 rfl rfl (fun h11 => absurd h11 (nI_nlt hj hj2)) (fun h11 => ?_)
  exact xw_return dX4_put_14 rfl (⟨rfl, rfl⟩)
theorem S_B_add {k n j : Nat} {f : Nat → Int32} {i v : Int32} {h1 : List xE} (hk : hp[k]? = some (.inl (0, n, .inl f))) (hn : n < 2 ^ 31) (hi : i = nI j) (hj : j < n) (h1e : hp.set k (.inl (0, n, .inl (upd f j (f j + v)))) = h1) : xMet G B_add [.ref k, .int i, .int v] hp x 0 0 (xRet none h1) := by
  refine xw_aload_n 1 dX4_add_0 rfl rfl rfl ?_
  refine xw_iload_n 2 dX4_add_1 rfl rfl ?_
  refine xw_aload_n 3 dX4_add_2 rfl rfl rfl ?_
  refine xw_iload_n 4 dX4_add_3 rfl rfl ?_
  refine xw_pS 7 dX4_add_4 rfl ok_B_at s_X4_111 (S_B_at hk hn hi hj) (rfl) rfl rfl rfl rfl rfl rfl ?_
  refine xw_iload_n 8 dX4_add_7 rfl rfl ?_
  refine xw_iadd 9 dX4_add_8 rfl ?_
  refine xw_pSv 12 dX4_add_9 rfl ok_B_put s_X4_123 (S_B_put hk hn hi hj h1e) (by rw [← h1e, List.length_set]) rfl rfl rfl rfl rfl rfl ?_
  exact xw_return dX4_add_12 rfl (⟨rfl, rfl⟩)
theorem S_B_copy {k j n : Nat} {f g : Nat → Int32} {h1 : List xE} (hj : hp[j]? = some (.inl (0, n, .inl f))) (hk : hp[k]? = some (.inl (0, n, .inl g))) (hjk : j ≠ k) (hn : n < 2 ^ 31) (h1e : hp.set k (.inl (0, n, .inl (xmix f g n))) = h1) : xMet G B_copy [.ref j, .ref k] hp x 0 0 (xRet none h1) := by
  have hkl : k < hp.length := (List.getElem?_eq_some_iff.mp hk).1
  have loop : ∀ (t i : Nat), i + t = n → xW G B_copy (xRet none h1) 11 [(2, .int (nI i)), (0, .ref j), (1, .ref k)] [] (hp.set k (.inl (0, n, .inl (xmix f g i)))) x 0 0 := by
    intro t
    induction t with
    | zero =>
      intro i hi
      have e : i = n := by omega
      subst e
      have hj' : (hp.set k (.inl (0, i, .inl (xmix f g i))))[j]? = some (.inl (0, i, .inl f)) := by rw [List.getElem?_set_ne (Ne.symm hjk)]; exact hj
      refine xw_iload_n 12 dX4_copy_11 rfl rfl ?_
      refine xw_aload_n 13 dX4_copy_12 rfl rfl rfl ?_
      refine xw_alen 14 dX4_copy_13 rfl (by decide) (hj') ?_
      refine xw_icmp_ge 35 17 dX4_copy_14 rfl rfl (fun h14 => ?_) (fun h14 => absurd (nI_le (Nat.le_refl _) hn) h14)
      exact xw_return dX4_copy_35 rfl (⟨rfl, h1e⟩)
    | succ t ih =>
      intro i hi
      have hj' : (hp.set k (.inl (0, n, .inl (xmix f g i))))[j]? = some (.inl (0, n, .inl f)) := by rw [List.getElem?_set_ne (Ne.symm hjk)]; exact hj
      have hk' : (hp.set k (.inl (0, n, .inl (xmix f g i))))[k]? = some (.inl (0, n, .inl (xmix f g i))) := by rw [List.getElem?_set_self hkl]
      refine xw_iload_n 12 dX4_copy_11 rfl rfl ?_
      refine xw_aload_n 13 dX4_copy_12 rfl rfl rfl ?_
      refine xw_alen 14 dX4_copy_13 rfl (by decide) (hj') ?_
      refine xw_icmp_ge 35 17 dX4_copy_14 rfl rfl (fun h14 => absurd h14 (nI_ge (by omega) (by omega))) (fun h14 => ?_)
      refine xw_iload_n 18 dX4_copy_17 rfl rfl ?_
      refine xw_aload_n 19 dX4_copy_18 rfl rfl rfl ?_
      refine xw_alen 20 dX4_copy_19 rfl (by decide) (hk') ?_
      refine xw_icmp_ge 35 23 dX4_copy_20 rfl rfl (fun h20 => absurd h20 (nI_ge (by omega) hn)) (fun h20 => ?_)
      refine xw_aload_n 24 dX4_copy_23 rfl rfl rfl ?_
      refine xw_iload_n 25 dX4_copy_24 rfl rfl ?_
      refine xw_aload_n 26 dX4_copy_25 rfl rfl rfl ?_
      refine xw_iload_n 27 dX4_copy_26 rfl rfl ?_
      refine xw_iaload (j := i) 28 dX4_copy_27 rfl (hj') (rfl) (by omega) (by omega) ?_
      refine xw_iastore (j := i) 29 dX4_copy_28 rfl (hk') (rfl) (by omega) (by omega) (by rw [List.set_set, xmix_s]) ?_
      refine xw_iinc (ls' := [(2, _), (0, _), (1, _)]) 32 _ dX4_copy_29 rfl rfl (xnI_inc _) rfl rfl ?_
      refine xw_goto 11 dX4_copy_32 rfl ?_
      exact ih (i + 1) (by omega)
  have h0 : hp = hp.set k (.inl (0, n, .inl (xmix f g 0))) := by rw [xmix_0, xSelf hk]
  refine xw_aload_n 1 dX4_copy_0 rfl rfl rfl ?_
  refine xw_ifnull 4 dX4_copy_1 rfl rfl rfl ?_
  refine xw_aload_n 5 dX4_copy_4 rfl rfl rfl ?_
  refine xw_ifnonnull 9 dX4_copy_5 rfl rfl rfl ?_
  refine xw_iconst 10 (nI 0) dX4_copy_9 rfl (xofI 0) ?_
  refine xw_istore_n (ls' := [(2, _), (0, _), (1, _)]) 11 dX4_copy_10 rfl rfl rfl ?_
  refine xW.cast rfl rfl h0 ?_
  exact loop n 0 (by omega)
theorem S_B_copy_ro {k r n : Nat} {g : Nat → Int32} {h1 : List xE} (hr : r < 4) (hrn : (xgr G r).1 = n) (hk : hp[k]? = some (.inl (0, n, .inl g))) (hn : n < 2 ^ 31) (h1e : hp.set k (.inl (0, n, .inl (xmix (xgr G r).2 g n))) = h1) : xMet G B_copy [.retAddr r, .ref k] hp x 0 0 (xRet none h1) := by
  have hkl : k < hp.length := (List.getElem?_eq_some_iff.mp hk).1
  have loop : ∀ (t i : Nat), i + t = n → xW G B_copy (xRet none h1) 11 [(2, .int (nI i)), (0, .retAddr r), (1, .ref k)] [] (hp.set k (.inl (0, n, .inl (xmix (xgr G r).2 g i)))) x 0 0 := by
    intro t
    induction t with
    | zero =>
      intro i hi
      have e : i = n := by omega
      subst e
      refine xw_iload_n 12 dX4_copy_11 rfl rfl ?_
      refine xw_aload_n 13 dX4_copy_12 rfl rfl rfl ?_
      refine xw_alenR 14 dX4_copy_13 rfl (hr) ?_
      refine xw_icmp_ge 35 17 dX4_copy_14 rfl rfl (fun h14 => ?_) (fun h14 => absurd (nI_le (by omega) hn) h14)
      exact xw_return dX4_copy_35 rfl (⟨rfl, h1e⟩)
    | succ t ih =>
      intro i hi
      have hk' : (hp.set k (.inl (0, n, .inl (xmix (xgr G r).2 g i))))[k]? = some (.inl (0, n, .inl (xmix (xgr G r).2 g i))) := by rw [List.getElem?_set_self hkl]
      refine xw_iload_n 12 dX4_copy_11 rfl rfl ?_
      refine xw_aload_n 13 dX4_copy_12 rfl rfl rfl ?_
      refine xw_alenR 14 dX4_copy_13 rfl (hr) ?_
      refine xw_icmp_ge 35 17 dX4_copy_14 rfl rfl (fun h14 => absurd h14 (nI_ge (by omega) (by omega))) (fun h14 => ?_)
      refine xw_iload_n 18 dX4_copy_17 rfl rfl ?_
      refine xw_aload_n 19 dX4_copy_18 rfl rfl rfl ?_
      refine xw_alen 20 dX4_copy_19 rfl (by decide) (hk') ?_
      refine xw_icmp_ge 35 23 dX4_copy_20 rfl rfl (fun h20 => absurd h20 (nI_ge (by omega) hn)) (fun h20 => ?_)
      refine xw_aload_n 24 dX4_copy_23 rfl rfl rfl ?_
      refine xw_iload_n 25 dX4_copy_24 rfl rfl ?_
      refine xw_aload_n 26 dX4_copy_25 rfl rfl rfl ?_
      refine xw_iload_n 27 dX4_copy_26 rfl rfl ?_
      refine xw_ialoadR (j := i) 28 dX4_copy_27 rfl (hr) (rfl) (by omega) (by omega) ?_
      refine xw_iastore (j := i) 29 dX4_copy_28 rfl (hk') (rfl) (by omega) (by omega) (by rw [List.set_set, xmix_s]) ?_
      refine xw_iinc (ls' := [(2, _), (0, _), (1, _)]) 32 _ dX4_copy_29 rfl rfl (xnI_inc _) rfl rfl ?_
      refine xw_goto 11 dX4_copy_32 rfl ?_
      exact ih (i + 1) (by omega)
  have h0 : hp = hp.set k (.inl (0, n, .inl (xmix (xgr G r).2 g 0))) := by rw [xmix_0, xSelf hk]
  refine xw_aload_n 1 dX4_copy_0 rfl rfl rfl ?_
  refine xw_ifnull 4 dX4_copy_1 rfl rfl rfl ?_
  refine xw_aload_n 5 dX4_copy_4 rfl rfl rfl ?_
  refine xw_ifnonnull 9 dX4_copy_5 rfl rfl rfl ?_
  refine xw_iconst 10 (nI 0) dX4_copy_9 rfl (xofI 0) ?_
  refine xw_istore_n (ls' := [(2, _), (0, _), (1, _)]) 11 dX4_copy_10 rfl rfl rfl ?_
  refine xW.cast rfl rfl h0 ?_
  exact loop n 0 (by omega)
theorem S_B_sum {k n : Nat} {f : Nat → Int32} (hk : hp[k]? = some (.inl (0, n, .inl f))) (hn : n < 2 ^ 31) : xMet G B_sum [.ref k] hp x 0 0 (xRetV (.int (xsum f n)) hp) := by
  have loop : ∀ (t i : Nat), i + t = n → xW G B_sum (xRetV (.int (xsum f n)) hp) 10 [(2, .int (nI i)), (1, .int (xsum f i)), (0, .ref k)] [] hp x 0 0 := by
    intro t
    induction t with
    | zero =>
      intro i hi
      have e : i = n := by omega
      subst e
      refine xw_iload_n 11 dX4_sum_10 rfl rfl ?_
      refine xw_aload_n 12 dX4_sum_11 rfl rfl rfl ?_
      refine xw_alen 13 dX4_sum_12 rfl (by decide) (hk) ?_
      refine xw_icmp_ge 28 16 dX4_sum_13 rfl rfl (fun h13 => ?_) (fun h13 => absurd (nI_le (Nat.le_refl _) hn) h13)
      refine xw_iload_n 29 dX4_sum_28 rfl rfl ?_
      exact xw_ireturn dX4_sum_29 rfl (⟨rfl, rfl⟩)
    | succ t ih =>
      intro i hi
      refine xw_iload_n 11 dX4_sum_10 rfl rfl ?_
      refine xw_aload_n 12 dX4_sum_11 rfl rfl rfl ?_
      refine xw_alen 13 dX4_sum_12 rfl (by decide) (hk) ?_
      refine xw_icmp_ge 28 16 dX4_sum_13 rfl rfl (fun h13 => absurd h13 (nI_ge (by omega) hn)) (fun h13 => ?_)
      refine xw_iload_n 17 dX4_sum_16 rfl rfl ?_
      refine xw_aload_n 18 dX4_sum_17 rfl rfl rfl ?_
      refine xw_iload_n 19 dX4_sum_18 rfl rfl ?_
      refine xw_iaload (j := i) 20 dX4_sum_19 rfl (hk) (rfl) (by omega) (by omega) ?_
      refine xw_iadd 21 dX4_sum_20 rfl ?_
      refine xw_istore_n (ls' := [(1, _), (2, _), (0, _)]) 22 dX4_sum_21 rfl rfl rfl ?_
      refine xw_iinc (ls' := [(2, _), (1, _), (0, _)]) 25 _ dX4_sum_22 rfl rfl (xnI_inc _) rfl rfl ?_
      refine xw_goto 10 dX4_sum_25 rfl ?_
      exact ih (i + 1) (by omega)
  refine xw_aload_n 1 dX4_sum_0 rfl rfl rfl ?_
  refine xw_ifnonnull 6 dX4_sum_1 rfl rfl rfl ?_
  refine xw_iconst 7 (nI 0) dX4_sum_6 rfl (xofI 0) ?_
  refine xw_istore_n (ls' := [(1, _), (0, _)]) 8 dX4_sum_7 rfl rfl rfl ?_
  refine xw_iconst 9 (nI 0) dX4_sum_8 rfl (xofI 0) ?_
  refine xw_istore_n (ls' := [(2, _), (1, _), (0, _)]) 10 dX4_sum_9 rfl rfl rfl ?_
  exact loop n 0 (by omega)
theorem S_B_occurrences {k n m : Nat} {f : Nat → Int32} {v : Int32} (hk : hp[k]? = some (.inl (0, n, .inl f))) (hn : n < 2 ^ 31) (hm : m ≤ n) : xMet G B_occurrences [.ref k, .int (nI m), .int v] hp x 0 0 (xRetV (.int (nI (xocc f v m))) hp) := by
  have loop : ∀ (t i : Nat), i + t = m → xW G B_occurrences (xRetV (.int (nI (xocc f v m))) hp) 5 [(4, .int (nI i)), (3, .int (nI (xocc f v i))), (0, .ref k), (1, .int (nI m)), (2, .int v)] [] hp x 0 0 := by
    intro t
    induction t with
    | zero =>
      intro i hi
      have e : i = m := by omega
      subst e
      refine xw_iload 7 dX4_occurrences_5 rfl rfl ?_
      refine xw_iload_n 8 dX4_occurrences_7 rfl rfl ?_
      refine xw_icmp_ge 30 11 dX4_occurrences_8 rfl rfl (fun h8 => ?_) (fun h8 => absurd (nI_le (Nat.le_refl _) (by omega)) h8)
      refine xw_iload_n 31 dX4_occurrences_30 rfl rfl ?_
      exact xw_ireturn dX4_occurrences_31 rfl (⟨rfl, rfl⟩)
    | succ t ih =>
      intro i hi
      refine xw_iload 7 dX4_occurrences_5 rfl rfl ?_
      refine xw_iload_n 8 dX4_occurrences_7 rfl rfl ?_
      refine xw_icmp_ge 30 11 dX4_occurrences_8 rfl rfl (fun h8 => absurd h8 (nI_ge (by omega) (by omega))) (fun h8 => ?_)
      refine xw_aload_n 12 dX4_occurrences_11 rfl rfl rfl ?_
      refine xw_iload 14 dX4_occurrences_12 rfl rfl ?_
      refine xw_pS 17 dX4_occurrences_14 rfl ok_B_at s_X4_111 (S_B_at hk hn rfl (by omega)) (rfl) rfl rfl rfl rfl rfl rfl ?_
      refine xw_iload_n 18 dX4_occurrences_17 rfl rfl ?_
      refine xw_icmp_ne 24 21 dX4_occurrences_18 rfl rfl (fun h18 => ?_) (fun h18 => ?_)
      · refine xw_iinc (ls' := [(4, _), (3, _), (0, _), (1, _), (2, _)]) 27 _ dX4_occurrences_24 rfl rfl (xnI_inc _) rfl rfl ?_
        refine xw_goto 5 dX4_occurrences_27 rfl ?_
        have e : xocc f v (i + 1) = xocc f v i := by simp [xocc, h18]
        have ih := ih (i + 1) (by omega)
        rw [e] at ih
        exact ih
      · refine xw_iinc (ls' := [(3, _), (4, _), (0, _), (1, _), (2, _)]) 24 _ dX4_occurrences_21 rfl rfl (xnI_inc _) rfl rfl ?_
        refine xw_iinc (ls' := [(4, _), (3, _), (0, _), (1, _), (2, _)]) 27 _ dX4_occurrences_24 rfl rfl (xnI_inc _) rfl rfl ?_
        refine xw_goto 5 dX4_occurrences_27 rfl ?_
        have e : xocc f v (i + 1) = xocc f v i + 1 := by simp [xocc, h18]
        have ih := ih (i + 1) (by omega)
        rw [e] at ih
        exact xW.drop _ (by simp) ih
  refine xw_iconst 1 (nI 0) dX4_occurrences_0 rfl (xofI 0) ?_
  refine xw_istore_n (ls' := [(3, _), (0, _), (1, _), (2, _)]) 2 dX4_occurrences_1 rfl rfl rfl ?_
  refine xw_iconst 3 (nI 0) dX4_occurrences_2 rfl (xofI 0) ?_
  refine xw_istore (ls' := [(4, _), (3, _), (0, _), (1, _), (2, _)]) 5 dX4_occurrences_3 rfl rfl rfl ?_
  exact loop m 0 (by omega)
theorem S_B_quotient {a b : Nat} (ha : a < 2 ^ 31) (h0 : 0 < b) (hb : b < 2 ^ 31) : xMet G B_quotient [.int (nI a), .int (nI b)] hp x 0 0 (xRetV (.int (nI (a / b))) hp) := by
  refine xw_iload_n 1 dX4_quotient_0 rfl rfl ?_
  refine xw_iconst 2 (nI 1) dX4_quotient_1 rfl (xofI 1) ?_
  refine xw_icmp_ge 9 5 dX4_quotient_2 rfl rfl (fun h2 => ?_) (fun h2 => absurd (nI_le (a := 1) h0 hb) h2)
  refine xw_iload_n 10 dX4_quotient_9 rfl rfl ?_
  refine xw_iload_n 11 dX4_quotient_10 rfl rfl ?_
  refine xw_idiv 12 dX4_quotient_11 rfl (nI_ne0 h0 hb) ?_
  exact xw_ireturn dX4_quotient_12 rfl (by rw [pk_div ha h0 hb]; exact ⟨rfl, rfl⟩)
theorem S_B_isColour_y {j : Nat} (hj : j < 6) : xMet G B_isColour [.int (nI j)] hp x 0 0 (xRetV (.int (nI 1)) hp) := by
  refine xw_iload_n 1 dX4_isColour_0 rfl rfl ?_
  refine xw_if_lt 14 4 dX4_isColour_1 rfl rfl (fun h1 => absurd h1 (nI_pos (by omega))) (fun h1 => ?_)
  refine xw_iload_n 5 dX4_isColour_4 rfl rfl ?_
  refine xw_bipush 7 (nI 6) dX4_isColour_5 rfl (by decide) ?_
  refine xw_icmp_ge 14 10 dX4_isColour_7 rfl rfl (fun h7 => absurd h7 (nI_ge hj (by decide))) (fun h7 => ?_)
  refine xw_iconst 11 (nI 1) dX4_isColour_10 rfl (xofI 1) ?_
  refine xw_goto 15 dX4_isColour_11 rfl ?_
  exact xw_zreturn dX4_isColour_15 rfl (by decide) (⟨rfl, rfl⟩)
theorem S_B_isColour_n {i : Int32} (h : i < 0 ∨ nI 6 ≤ i) : xMet G B_isColour [.int i] hp x 0 0 (xRetV (.int (nI 0)) hp) := by
  refine xw_iload_n 1 dX4_isColour_0 rfl rfl ?_
  refine xw_if_lt 14 4 dX4_isColour_1 rfl rfl (fun h1 => ?_) (fun h1 => ?_)
  · refine xw_iconst 15 (nI 0) dX4_isColour_14 rfl (xofI 0) ?_
    exact xw_zreturn dX4_isColour_15 rfl (by decide) (⟨rfl, rfl⟩)
  · refine xw_iload_n 5 dX4_isColour_4 rfl rfl ?_
    refine xw_bipush 7 (nI 6) dX4_isColour_5 rfl (by decide) ?_
    refine xw_icmp_ge 14 10 dX4_isColour_7 rfl rfl (fun h7 => ?_) (fun h7 => absurd (h.resolve_left h1) h7)
    refine xw_iconst 15 (nI 0) dX4_isColour_14 rfl (xofI 0) ?_
    exact xw_zreturn dX4_isColour_15 rfl (by decide) (⟨rfl, rfl⟩)
theorem S_B_isSetting_y {j : Nat} (hj : j < 4) : xMet G B_isSetting [.int (nI j)] hp x 0 0 (xRetV (.int (nI 1)) hp) := by
  refine xw_iload_n 1 dX4_isSetting_0 rfl rfl ?_
  refine xw_if_lt 13 4 dX4_isSetting_1 rfl rfl (fun h1 => absurd h1 (nI_pos (by omega))) (fun h1 => ?_)
  refine xw_iload_n 5 dX4_isSetting_4 rfl rfl ?_
  refine xw_iconst 6 (nI 4) dX4_isSetting_5 rfl (xofI 4) ?_
  refine xw_icmp_ge 13 9 dX4_isSetting_6 rfl rfl (fun h6 => absurd h6 (nI_ge hj (by decide))) (fun h6 => ?_)
  refine xw_iconst 10 (nI 1) dX4_isSetting_9 rfl (xofI 1) ?_
  refine xw_goto 14 dX4_isSetting_10 rfl ?_
  exact xw_zreturn dX4_isSetting_14 rfl (by decide) (⟨rfl, rfl⟩)
theorem S_B_isSetting_n {i : Int32} (h : i < 0 ∨ nI 4 ≤ i) : xMet G B_isSetting [.int i] hp x 0 0 (xRetV (.int (nI 0)) hp) := by
  refine xw_iload_n 1 dX4_isSetting_0 rfl rfl ?_
  refine xw_if_lt 13 4 dX4_isSetting_1 rfl rfl (fun h1 => ?_) (fun h1 => ?_)
  · refine xw_iconst 14 (nI 0) dX4_isSetting_13 rfl (xofI 0) ?_
    exact xw_zreturn dX4_isSetting_14 rfl (by decide) (⟨rfl, rfl⟩)
  · refine xw_iload_n 5 dX4_isSetting_4 rfl rfl ?_
    refine xw_iconst 6 (nI 4) dX4_isSetting_5 rfl (xofI 4) ?_
    refine xw_icmp_ge 13 9 dX4_isSetting_6 rfl rfl (fun h6 => ?_) (fun h6 => absurd (h.resolve_left h1) h6)
    refine xw_iconst 14 (nI 0) dX4_isSetting_13 rfl (xofI 0) ?_
    exact xw_zreturn dX4_isSetting_14 rfl (by decide) (⟨rfl, rfl⟩)
theorem S_B_canBeStrungAtOnce_y {j : Nat} (h1 : 1 ≤ j) (hj : j ≤ 60) : xMet G B_canBeStrungAtOnce [.int (nI j)] hp x 0 0 (xRetV (.int (nI 1)) hp) := by
  refine xw_iload_n 1 dX4_canBeStrungAtOnce_0 rfl rfl ?_
  refine xw_iconst 2 (nI 1) dX4_canBeStrungAtOnce_1 rfl (xofI 1) ?_
  refine xw_icmp_lt 15 5 dX4_canBeStrungAtOnce_2 rfl rfl (fun h2 => absurd h2 (nI_nlt h1 (by omega))) (fun h2 => ?_)
  refine xw_iload_n 6 dX4_canBeStrungAtOnce_5 rfl rfl ?_
  refine xw_bipush 8 (nI 60) dX4_canBeStrungAtOnce_6 rfl (by decide) ?_
  refine xw_icmp_gt 15 11 dX4_canBeStrungAtOnce_8 rfl rfl (fun h8 => absurd h8 (nI_nlt hj (by decide))) (fun h8 => ?_)
  refine xw_iconst 12 (nI 1) dX4_canBeStrungAtOnce_11 rfl (xofI 1) ?_
  refine xw_goto 16 dX4_canBeStrungAtOnce_12 rfl ?_
  exact xw_zreturn dX4_canBeStrungAtOnce_16 rfl (by decide) (⟨rfl, rfl⟩)
theorem S_B_canBeStrungAtOnce_n {i : Int32} (h : i < nI 1 ∨ nI 60 < i) : xMet G B_canBeStrungAtOnce [.int i] hp x 0 0 (xRetV (.int (nI 0)) hp) := by
  refine xw_iload_n 1 dX4_canBeStrungAtOnce_0 rfl rfl ?_
  refine xw_iconst 2 (nI 1) dX4_canBeStrungAtOnce_1 rfl (xofI 1) ?_
  refine xw_icmp_lt 15 5 dX4_canBeStrungAtOnce_2 rfl rfl (fun h2 => ?_) (fun h2 => ?_)
  · refine xw_iconst 16 (nI 0) dX4_canBeStrungAtOnce_15 rfl (xofI 0) ?_
    exact xw_zreturn dX4_canBeStrungAtOnce_16 rfl (by decide) (⟨rfl, rfl⟩)
  · refine xw_iload_n 6 dX4_canBeStrungAtOnce_5 rfl rfl ?_
    refine xw_bipush 8 (nI 60) dX4_canBeStrungAtOnce_6 rfl (by decide) ?_
    refine xw_icmp_gt 15 11 dX4_canBeStrungAtOnce_8 rfl rfl (fun h8 => ?_) (fun h8 => absurd (h.resolve_left h2) h8)
    refine xw_iconst 16 (nI 0) dX4_canBeStrungAtOnce_15 rfl (xofI 0) ?_
    exact xw_zreturn dX4_canBeStrungAtOnce_16 rfl (by decide) (⟨rfl, rfl⟩)
end P11

/-! ===== the law, from its start ===== -/
theorem xInv_ini : xInv zini := by
  unfold xInv xnn zI
  refine ⟨by decide +kernel, by decide +kernel, by decide +kernel, by decide +kernel, by decide +kernel, by decide +kernel, by decide +kernel, by decide +kernel, ?_, by decide +kernel, ?_, ?_, ?_⟩
  · intro k hk
    have h1 : (zini 7).toNatClampNeg = 1 := by decide +kernel
    rw [h1] at hk
    obtain rfl : k = 0 := by omega
    decide +kernel
  · intro k hk
    have h1 : (zini 7).toNatClampNeg = 1 := by decide +kernel
    omega
  · intro k hk
    have h1 : (zini 6).toNatClampNeg = 0 := by decide +kernel
    omega
  · intro r c hr hc
    have h1 : (zini 4).toNatClampNeg = 1 := by decide +kernel
    have h2 : (zini 5).toNatClampNeg = 1 := by decide +kernel
    rw [h1] at hr
    rw [h2] at hc
    obtain rfl : r = 0 := by omega
    obtain rfl : c = 0 := by omega
    decide +kernel
theorem xRel_ini : xRel (zini, fun _ => zini, 0, 0, 0, (fun _ => 0)) (zini, (fun _ => 0), 0, 0, (fun _ => 0)) := ⟨xInv_ini, xag_refl _, by decide, by decide, rfl, rfl, rfl, xTxt_0, fun i hi => absurd hi (Nat.not_lt_zero _)⟩
section P64
variable {G : xG}
theorem lw_ini (S : xSta G) (h15 : (xgr G 0).1 ≤ 1536) : ∀ t, t = (xgr G 0).1 / 3 → xW G L_law lQ 0 [(0, .retAddr 0)] [] [] 0 (83 + t) (7333 + 6 * t) := by
  intro t ht
  refine xw_new (kc0 := 82 + t) (ks0 := 7328 + 6 * t) 3 dL_law_0 rfl n_L_8 (fun _ => rfl) (by omega) (by omega) ?_
  refine xw_dup 4 dL_law_3 rfl rfl ?_
  refine xw_iI (kc0 := 12 + t) (ks0 := 3793 + 6 * t) 7 dL_law_4 rfl ok_B_init rfl rfl s_L_84 (S_B_init S) (by decide) rfl rfl rfl rfl (by omega) (by omega) ?_
  refine xw_astore_n (ls' := [(1, _), (0, _)]) 8 dL_law_7 rfl rfl rfl rfl ?_
  refine xw_new (kc0 := 11 + t) (ks0 := 3773 + 6 * t) 11 dL_law_8 rfl n_L_85 (fun _ => rfl) (by omega) (by omega) ?_
  refine xw_dup 12 dL_law_11 rfl rfl ?_
  refine xw_iI (kc0 := 1 + t) (ks0 := 1 + 6 * t) 15 dL_law_12 rfl ok_M_init rfl rfl s_L_87 (S_M_init rfl) (by decide) rfl rfl rfl rfl (by omega) (by omega) ?_
  refine xw_astore_n (ls' := [(2, _), (1, _), (0, _)]) 16 dL_law_15 rfl rfl rfl rfl ?_
  refine xw_iconst 17 (nI 1) dL_law_16 rfl (xofI 1) ?_
  refine xw_newarray_long (kc0 := t) (ks0 := 6 * t) 19 dL_law_17 rfl (rfl) (by decide) (by omega) (by omega) ?_
  refine xw_astore_n (ls' := [(3, _), (2, _), (1, _), (0, _)]) 20 dL_law_19 rfl rfl rfl rfl ?_
  refine xw_iconst 21 (nI 0) dL_law_20 rfl (xofI 0) ?_
  refine xw_istore (ls' := [(4, _), (3, _), (2, _), (1, _), (0, _)]) 23 dL_law_21 rfl rfl rfl ?_
  refine xW.pick [0, 4, 3, 2, 1] rfl ?_
  refine xW.cast (hp' := (lHp (zini, fun _ => zini, 0, 0, 0, (fun _ => 0)) (nI 1, nI 1, (fun _ => 0), (fun _ => 0)) (zini, (fun _ => 0), 0, 0, (fun _ => 0)) (nI 0) ((fun _ => 0), nI 0, nI 0, (fun _ => 0), (fun _ => 0), (fun _ => 0), (fun _ => 0), nI 0, nI 0, nI 0, nI 0, (fun _ => 0), (fun _ => 0), 0) (fun _ => 0))) rfl rfl rfl ?_
  exact lw_loop S h15 t 0 0 (zini, fun _ => zini, 0, 0, 0, (fun _ => 0)) (nI 1, nI 1, (fun _ => 0), (fun _ => 0)) (zini, (fun _ => 0), 0, 0, (fun _ => 0)) (nI 0) ((fun _ => 0), nI 0, nI 0, (fun _ => 0), (fun _ => 0), (fun _ => 0), (fun _ => 0), nI 0, nI 0, nI 0, nI 0, (fun _ => 0), (fun _ => 0), 0) (fun _ => 0) xRel_ini (by omega) (by omega)
end P64

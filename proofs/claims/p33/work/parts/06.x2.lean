/-! ===== xw: one lemma an instruction ===== -/
section X2
variable {G : xG} {Y : xM} {Qx : xO → List xE → Prop} {pc : Nat} {ls : List (Nat × Value)} {st : List Value} {hp : List xE} {x kc ks : Nat}
theorem xw_iconst (pc' : Nat) {n : Int} (v : Int32) (hd : decode (xmB Y) pc = .ok (.iconst n, 1)) (hn : pc + 1 = pc') (hv : Int32.ofInt n = v) (k : xW G Y Qx pc' ls (.int v :: st) hp x kc ks) : xW G Y Qx pc ls (st) hp x kc ks := by
  subst hn
  intro p l e R s m args below meth c lsA H locs cells slots F hl hH hS hc hs
  exact lv_iconst F.1 F.2.1 hd hv (k p l e R s m args below meth c lsA H locs cells slots F hl hH hS hc hs)
theorem xw_bipush (pc' : Nat) {n : Int} (v : Int32) (hd : decode (xmB Y) pc = .ok (.bipush n, 2)) (hn : pc + 2 = pc') (hv : (Int8.ofInt n).toInt32 = v) (k : xW G Y Qx pc' ls (.int v :: st) hp x kc ks) : xW G Y Qx pc ls (st) hp x kc ks := by
  subst hn
  intro p l e R s m args below meth c lsA H locs cells slots F hl hH hS hc hs
  exact lv_bipush F.1 F.2.1 hd hv (k p l e R s m args below meth c lsA H locs cells slots F hl hH hS hc hs)
theorem xw_sipush (pc' : Nat) {n : Int} (v : Int32) (hd : decode (xmB Y) pc = .ok (.sipush n, 3)) (hn : pc + 3 = pc') (hv : (Int16.ofInt n).toInt32 = v) (k : xW G Y Qx pc' ls (.int v :: st) hp x kc ks) : xW G Y Qx pc ls (st) hp x kc ks := by
  subst hn
  intro p l e R s m args below meth c lsA H locs cells slots F hl hH hS hc hs
  exact lv_sipush F.1 F.2.1 hd hv (k p l e R s m args below meth c lsA H locs cells slots F hl hH hS hc hs)
theorem xw_lconst (pc' : Nat) {n : Fin 2} (v : Int64) (hd : decode (xmB Y) pc = .ok (.lconst n, 1)) (hn : pc + 1 = pc') (hv : Int64.ofNat (n : Nat) = v) (k : xW G Y Qx pc' ls (.long v :: st) hp x kc ks) : xW G Y Qx pc ls (st) hp x kc ks := by
  subst hn
  intro p l e R s m args below meth c lsA H locs cells slots F hl hH hS hc hs
  exact lv_lconst F.1 F.2.1 hd hv (k p l e R s m args below meth c lsA H locs cells slots F hl hH hS hc hs)
theorem xw_iload_n (pc' : Nat) {n : Fin 4} {v : Int32} (hd : decode (xmB Y) pc = .ok (.iload_n n, 1)) (hn : pc + 1 = pc') (h : xlook ls (n : Nat) = some (.int v)) (k : xW G Y Qx pc' ls (.int v :: st) hp x kc ks) : xW G Y Qx pc ls (st) hp x kc ks := by
  subst hn
  intro p l e R s m args below meth c lsA H locs cells slots F hl hH hS hc hs
  exact lv_iload_n F.1 F.2.1 hd rfl (xl_get hl h) (k p l e R s m args below meth c lsA H locs cells slots F hl hH hS hc hs)
theorem xw_iload (pc' : Nat) {i : Nat} {v : Int32} (hd : decode (xmB Y) pc = .ok (.iload i, 2)) (hn : pc + 2 = pc') (h : xlook ls i = some (.int v)) (k : xW G Y Qx pc' ls (.int v :: st) hp x kc ks) : xW G Y Qx pc ls (st) hp x kc ks := by
  subst hn
  intro p l e R s m args below meth c lsA H locs cells slots F hl hH hS hc hs
  exact lv_iload F.1 F.2.1 hd (xl_get hl h) (k p l e R s m args below meth c lsA H locs cells slots F hl hH hS hc hs)
theorem xw_lload_n (pc' : Nat) {n : Fin 4} {v : Int64} (hd : decode (xmB Y) pc = .ok (.lload_n n, 1)) (hn : pc + 1 = pc') (h : xlook ls (n : Nat) = some (.long v)) (k : xW G Y Qx pc' ls (.long v :: st) hp x kc ks) : xW G Y Qx pc ls (st) hp x kc ks := by
  subst hn
  intro p l e R s m args below meth c lsA H locs cells slots F hl hH hS hc hs
  exact lv_lload_n F.1 F.2.1 hd rfl (xl_get hl h) (k p l e R s m args below meth c lsA H locs cells slots F hl hH hS hc hs)
theorem xw_lload (pc' : Nat) {i : Nat} {v : Int64} (hd : decode (xmB Y) pc = .ok (.lload i, 2)) (hn : pc + 2 = pc') (h : xlook ls i = some (.long v)) (k : xW G Y Qx pc' ls (.long v :: st) hp x kc ks) : xW G Y Qx pc ls (st) hp x kc ks := by
  subst hn
  intro p l e R s m args below meth c lsA H locs cells slots F hl hH hS hc hs
  exact lv_lload F.1 F.2.1 hd (xl_get hl h) (k p l e R s m args below meth c lsA H locs cells slots F hl hH hS hc hs)
theorem xw_dload_n (pc' : Nat) {n : Fin 4} {v : UInt64} (hd : decode (xmB Y) pc = .ok (.dload_n n, 1)) (hn : pc + 1 = pc') (h : xlook ls (n : Nat) = some (.double v)) (k : xW G Y Qx pc' ls (.double v :: st) hp x kc ks) : xW G Y Qx pc ls (st) hp x kc ks := by
  subst hn
  intro p l e R s m args below meth c lsA H locs cells slots F hl hH hS hc hs
  exact lv_dload_n F.1 F.2.1 hd rfl (xl_get hl h) (k p l e R s m args below meth c lsA H locs cells slots F hl hH hS hc hs)
theorem xw_dload (pc' : Nat) {i : Nat} {v : UInt64} (hd : decode (xmB Y) pc = .ok (.dload i, 2)) (hn : pc + 2 = pc') (h : xlook ls i = some (.double v)) (k : xW G Y Qx pc' ls (.double v :: st) hp x kc ks) : xW G Y Qx pc ls (st) hp x kc ks := by
  subst hn
  intro p l e R s m args below meth c lsA H locs cells slots F hl hH hS hc hs
  exact lv_dload F.1 F.2.1 hd (xl_get hl h) (k p l e R s m args below meth c lsA H locs cells slots F hl hH hS hc hs)
def xref : Value → Bool
  | .ref _ => true
  | .retAddr _ => true
  | .null => true
  | _ => false
theorem xw_aload_n (pc' : Nat) {n : Fin 4} {v : Value} (hd : decode (xmB Y) pc = .ok (.aload_n n, 1)) (hn : pc + 1 = pc') (h : xlook ls (n : Nat) = some v) (hv : xref v = true) (k : xW G Y Qx pc' ls (v :: st) hp x kc ks) : xW G Y Qx pc ls st hp x kc ks := by
  subst hn
  intro p l e R s m args below meth c lsA H locs cells slots F hl hH hS hc hs
  have hg := xl_get hl h
  have k := k p l e R s m args below meth c lsA H locs cells slots F hl hH hS hc hs
  cases v with
  | ref a => exact lv_aload_n F.1 F.2.1 hd rfl hg k
  | retAddr a => exact lv_aload_n F.1 F.2.1 hd rfl hg k
  | null => exact lv_aload_nN F.1 F.2.1 hd rfl hg k
  | _ => cases hv
theorem xw_aload (pc' : Nat) {i : Nat} {v : Value} (hd : decode (xmB Y) pc = .ok (.aload i, 2)) (hn : pc + 2 = pc') (h : xlook ls i = some v) (hv : xref v = true) (k : xW G Y Qx pc' ls (v :: st) hp x kc ks) : xW G Y Qx pc ls st hp x kc ks := by
  subst hn
  intro p l e R s m args below meth c lsA H locs cells slots F hl hH hS hc hs
  have hg := xl_get hl h
  have k := k p l e R s m args below meth c lsA H locs cells slots F hl hH hS hc hs
  cases v with
  | ref a => exact lv_aload F.1 F.2.1 hd hg k
  | retAddr a => exact lv_aload F.1 F.2.1 hd hg k
  | null => exact lv_aloadN F.1 F.2.1 hd hg k
  | _ => cases hv
theorem xw_istore_n (pc' : Nat) {n : Fin 4} {v : Int32} {ls' : List (Nat × Value)} (hd : decode (xmB Y) pc = .ok (.istore_n n, 1)) (hn : pc + 1 = pc') (hi : Nat.blt (n : Nat) (xmL Y) = true) (hls : ((n : Nat), Value.int v) :: xdel ls (n : Nat) = ls') (k : xW G Y Qx pc' ls' st hp x kc ks) : xW G Y Qx pc ls (.int v :: st) hp x kc ks := by
  subst hn; subst hls
  intro p l e R s m args below meth c lsA H locs cells slots F hl hH hS hc hs
  exact lv_istore_n (lv' := xLs G (((n : Nat), Value.int v) :: xdel ls (n : Nat))) F.1 F.2.1 hd rfl hl (Nat.blt_eq.mp hi) (by rw [xdel_eq]; rfl) (fun lsB hlB => k p l e R s m args below meth c lsB H locs cells slots F hlB hH hS hc hs)
theorem xw_istore (pc' : Nat) {i : Nat} {v : Int32} {ls' : List (Nat × Value)} (hd : decode (xmB Y) pc = .ok (.istore i, 2)) (hn : pc + 2 = pc') (hi : Nat.blt i (xmL Y) = true) (hls : (i, Value.int v) :: xdel ls i = ls') (k : xW G Y Qx pc' ls' st hp x kc ks) : xW G Y Qx pc ls (.int v :: st) hp x kc ks := by
  subst hn; subst hls
  intro p l e R s m args below meth c lsA H locs cells slots F hl hH hS hc hs
  exact lv_istore (lv' := xLs G ((i, Value.int v) :: xdel ls i)) F.1 F.2.1 hd hl (Nat.blt_eq.mp hi) (by rw [xdel_eq]; rfl) (fun lsB hlB => k p l e R s m args below meth c lsB H locs cells slots F hlB hH hS hc hs)
theorem xw_lstore_n (pc' : Nat) {n : Fin 4} {v : Int64} {ls' : List (Nat × Value)} (hd : decode (xmB Y) pc = .ok (.lstore_n n, 1)) (hn : pc + 1 = pc') (hi : Nat.blt ((n : Nat) + 1) (xmL Y) = true) (hls : ((n : Nat), Value.long v) :: xdel2 ls (n : Nat) = ls') (k : xW G Y Qx pc' ls' st hp x kc ks) : xW G Y Qx pc ls (.long v :: st) hp x kc ks := by
  subst hn; subst hls
  intro p l e R s m args below meth c lsA H locs cells slots F hl hH hS hc hs
  exact lv_lstore_n (lv' := xLs G (((n : Nat), Value.long v) :: xdel2 ls (n : Nat))) F.1 F.2.1 hd rfl hl (Nat.blt_eq.mp hi) (by rw [xdel2_eq]; rfl) (fun lsB hlB => k p l e R s m args below meth c lsB H locs cells slots F hlB hH hS hc hs)
theorem xw_lstore (pc' : Nat) {i : Nat} {v : Int64} {ls' : List (Nat × Value)} (hd : decode (xmB Y) pc = .ok (.lstore i, 2)) (hn : pc + 2 = pc') (hi : Nat.blt (i + 1) (xmL Y) = true) (hls : (i, Value.long v) :: xdel2 ls i = ls') (k : xW G Y Qx pc' ls' st hp x kc ks) : xW G Y Qx pc ls (.long v :: st) hp x kc ks := by
  subst hn; subst hls
  intro p l e R s m args below meth c lsA H locs cells slots F hl hH hS hc hs
  exact lv_lstore (lv' := xLs G ((i, Value.long v) :: xdel2 ls i)) F.1 F.2.1 hd hl (Nat.blt_eq.mp hi) (by rw [xdel2_eq]; rfl) (fun lsB hlB => k p l e R s m args below meth c lsB H locs cells slots F hlB hH hS hc hs)
theorem xw_dstore_n (pc' : Nat) {n : Fin 4} {v : UInt64} {ls' : List (Nat × Value)} (hd : decode (xmB Y) pc = .ok (.dstore_n n, 1)) (hn : pc + 1 = pc') (hi : Nat.blt ((n : Nat) + 1) (xmL Y) = true) (hls : ((n : Nat), Value.double v) :: xdel2 ls (n : Nat) = ls') (k : xW G Y Qx pc' ls' st hp x kc ks) : xW G Y Qx pc ls (.double v :: st) hp x kc ks := by
  subst hn; subst hls
  intro p l e R s m args below meth c lsA H locs cells slots F hl hH hS hc hs
  exact lv_dstore_n (lv' := xLs G (((n : Nat), Value.double v) :: xdel2 ls (n : Nat))) F.1 F.2.1 hd rfl hl (Nat.blt_eq.mp hi) (by rw [xdel2_eq]; rfl) (fun lsB hlB => k p l e R s m args below meth c lsB H locs cells slots F hlB hH hS hc hs)
theorem xw_dstore (pc' : Nat) {i : Nat} {v : UInt64} {ls' : List (Nat × Value)} (hd : decode (xmB Y) pc = .ok (.dstore i, 2)) (hn : pc + 2 = pc') (hi : Nat.blt (i + 1) (xmL Y) = true) (hls : (i, Value.double v) :: xdel2 ls i = ls') (k : xW G Y Qx pc' ls' st hp x kc ks) : xW G Y Qx pc ls (.double v :: st) hp x kc ks := by
  subst hn; subst hls
  intro p l e R s m args below meth c lsA H locs cells slots F hl hH hS hc hs
  exact lv_dstore (lv' := xLs G ((i, Value.double v) :: xdel2 ls i)) F.1 F.2.1 hd hl (Nat.blt_eq.mp hi) (by rw [xdel2_eq]; rfl) (fun lsB hlB => k p l e R s m args below meth c lsB H locs cells slots F hlB hH hS hc hs)
theorem xw_astore_n (pc' : Nat) {n : Fin 4} {v : Value} {ls' : List (Nat × Value)} (hd : decode (xmB Y) pc = .ok (.astore_n n, 1)) (hn : pc + 1 = pc') (hi : Nat.blt (n : Nat) (xmL Y) = true) (hv : xref v = true) (hls : ((n : Nat), v) :: xdel ls (n : Nat) = ls') (k : xW G Y Qx pc' ls' st hp x kc ks) : xW G Y Qx pc ls (v :: st) hp x kc ks := by
  subst hn; subst hls
  intro p l e R s m args below meth c lsA H locs cells slots F hl hH hS hc hs
  cases v with
  | ref a => exact lv_astore_n F.1 F.2.1 hd rfl hl (Nat.blt_eq.mp hi) (by rw [xdel_eq]; rfl) (fun lsB hlB => k p l e R s m args below meth c lsB H locs cells slots F hlB hH hS hc hs)
  | retAddr a => exact lv_astore_n F.1 F.2.1 hd rfl hl (Nat.blt_eq.mp hi) (by rw [xdel_eq]; rfl) (fun lsB hlB => k p l e R s m args below meth c lsB H locs cells slots F hlB hH hS hc hs)
  | null => exact lv_astore_nN F.1 F.2.1 hd rfl hl (Nat.blt_eq.mp hi) (by rw [xdel_eq]; rfl) (fun lsB hlB => k p l e R s m args below meth c lsB H locs cells slots F hlB hH hS hc hs)
  | _ => cases hv
theorem xw_astore (pc' : Nat) {i : Nat} {v : Value} {ls' : List (Nat × Value)} (hd : decode (xmB Y) pc = .ok (.astore i, 2)) (hn : pc + 2 = pc') (hi : Nat.blt i (xmL Y) = true) (hv : xref v = true) (hls : (i, v) :: xdel ls i = ls') (k : xW G Y Qx pc' ls' st hp x kc ks) : xW G Y Qx pc ls (v :: st) hp x kc ks := by
  subst hn; subst hls
  intro p l e R s m args below meth c lsA H locs cells slots F hl hH hS hc hs
  cases v with
  | ref a => exact lv_astore F.1 F.2.1 hd hl (Nat.blt_eq.mp hi) (by rw [xdel_eq]; rfl) (fun lsB hlB => k p l e R s m args below meth c lsB H locs cells slots F hlB hH hS hc hs)
  | retAddr a => exact lv_astore F.1 F.2.1 hd hl (Nat.blt_eq.mp hi) (by rw [xdel_eq]; rfl) (fun lsB hlB => k p l e R s m args below meth c lsB H locs cells slots F hlB hH hS hc hs)
  | null => exact lv_astoreN F.1 F.2.1 hd hl (Nat.blt_eq.mp hi) (by rw [xdel_eq]; rfl) (fun lsB hlB => k p l e R s m args below meth c lsB H locs cells slots F hlB hH hS hc hs)
  | _ => cases hv
theorem xw_iinc (pc' : Nat) {i : Nat} {n : Int} {v : Int32} (v' : Int32) {ls' : List (Nat × Value)} (hd : decode (xmB Y) pc = .ok (.iinc i n, 3)) (hn : pc + 3 = pc') (h : xlook ls i = some (.int v)) (hv : v + Int32.ofInt n = v') (hi : Nat.blt i (xmL Y) = true) (hls : (i, Value.int v') :: xdel ls i = ls') (k : xW G Y Qx pc' ls' st hp x kc ks) : xW G Y Qx pc ls st hp x kc ks := by
  subst hn; subst hls
  intro p l e R s m args below meth c lsA H locs cells slots F hl hH hS hc hs
  obtain ⟨k0, hk0⟩ := List.getElem?_of_mem (List.mem_map.mpr ⟨(i, Value.int v), xlook_mem h, rfl⟩ : (i, Value.int v) ∈ xLs G ls)
  exact lv_iinc (k := k0) F.1 F.2.1 hd hl hk0 hv (Nat.blt_eq.mp hi) (by rw [xdel_eq]; rfl) (fun lsB hlB => k p l e R s m args below meth c lsB H locs cells slots F hlB hH hS hc hs)
theorem xw_iadd (pc' : Nat) {a b : Int32} (hd : decode (xmB Y) pc = .ok (.iadd, 1)) (hn : pc + 1 = pc') (k : xW G Y Qx pc' ls (.int (a + b) :: st) hp x kc ks) : xW G Y Qx pc ls (.int b :: .int a :: st) hp x kc ks := by
  subst hn
  intro p l e R s m args below meth c lsA H locs cells slots F hl hH hS hc hs
  exact lv_iadd F.1 F.2.1 hd (k p l e R s m args below meth c lsA H locs cells slots F hl hH hS hc hs)
theorem xw_isub (pc' : Nat) {a b : Int32} (hd : decode (xmB Y) pc = .ok (.isub, 1)) (hn : pc + 1 = pc') (k : xW G Y Qx pc' ls (.int (a - b) :: st) hp x kc ks) : xW G Y Qx pc ls (.int b :: .int a :: st) hp x kc ks := by
  subst hn
  intro p l e R s m args below meth c lsA H locs cells slots F hl hH hS hc hs
  exact lv_isub F.1 F.2.1 hd (k p l e R s m args below meth c lsA H locs cells slots F hl hH hS hc hs)
theorem xw_imul (pc' : Nat) {a b : Int32} (hd : decode (xmB Y) pc = .ok (.imul, 1)) (hn : pc + 1 = pc') (k : xW G Y Qx pc' ls (.int (a * b) :: st) hp x kc ks) : xW G Y Qx pc ls (.int b :: .int a :: st) hp x kc ks := by
  subst hn
  intro p l e R s m args below meth c lsA H locs cells slots F hl hH hS hc hs
  exact lv_imul F.1 F.2.1 hd (k p l e R s m args below meth c lsA H locs cells slots F hl hH hS hc hs)
theorem xw_iand (pc' : Nat) {a b : Int32} (hd : decode (xmB Y) pc = .ok (.iand, 1)) (hn : pc + 1 = pc') (k : xW G Y Qx pc' ls (.int (a &&& b) :: st) hp x kc ks) : xW G Y Qx pc ls (.int b :: .int a :: st) hp x kc ks := by
  subst hn
  intro p l e R s m args below meth c lsA H locs cells slots F hl hH hS hc hs
  exact lv_iand F.1 F.2.1 hd (k p l e R s m args below meth c lsA H locs cells slots F hl hH hS hc hs)
theorem xw_ladd (pc' : Nat) {a b : Int64} (hd : decode (xmB Y) pc = .ok (.ladd, 1)) (hn : pc + 1 = pc') (k : xW G Y Qx pc' ls (.long (a + b) :: st) hp x kc ks) : xW G Y Qx pc ls (.long b :: .long a :: st) hp x kc ks := by
  subst hn
  intro p l e R s m args below meth c lsA H locs cells slots F hl hH hS hc hs
  exact lv_ladd F.1 F.2.1 hd (k p l e R s m args below meth c lsA H locs cells slots F hl hH hS hc hs)
theorem xw_lsub (pc' : Nat) {a b : Int64} (hd : decode (xmB Y) pc = .ok (.lsub, 1)) (hn : pc + 1 = pc') (k : xW G Y Qx pc' ls (.long (a - b) :: st) hp x kc ks) : xW G Y Qx pc ls (.long b :: .long a :: st) hp x kc ks := by
  subst hn
  intro p l e R s m args below meth c lsA H locs cells slots F hl hH hS hc hs
  exact lv_lsub F.1 F.2.1 hd (k p l e R s m args below meth c lsA H locs cells slots F hl hH hS hc hs)
theorem xw_lmul (pc' : Nat) {a b : Int64} (hd : decode (xmB Y) pc = .ok (.lmul, 1)) (hn : pc + 1 = pc') (k : xW G Y Qx pc' ls (.long (a * b) :: st) hp x kc ks) : xW G Y Qx pc ls (.long b :: .long a :: st) hp x kc ks := by
  subst hn
  intro p l e R s m args below meth c lsA H locs cells slots F hl hH hS hc hs
  exact lv_lmul F.1 F.2.1 hd (k p l e R s m args below meth c lsA H locs cells slots F hl hH hS hc hs)
theorem xw_idiv (pc' : Nat) {a b : Int32} (hd : decode (xmB Y) pc = .ok (.idiv, 1)) (hn : pc + 1 = pc') (h0 : ¬ b = 0) (k : xW G Y Qx pc' ls (.int (a / b) :: st) hp x kc ks) : xW G Y Qx pc ls (.int b :: .int a :: st) hp x kc ks := by
  subst hn
  intro p l e R s m args below meth c lsA H locs cells slots F hl hH hS hc hs
  exact lv_idiv F.1 F.2.1 hd h0 (k p l e R s m args below meth c lsA H locs cells slots F hl hH hS hc hs)
theorem xw_irem (pc' : Nat) {a b : Int32} (hd : decode (xmB Y) pc = .ok (.irem, 1)) (hn : pc + 1 = pc') (h0 : ¬ b = 0) (k : xW G Y Qx pc' ls (.int (a - a / b * b) :: st) hp x kc ks) : xW G Y Qx pc ls (.int b :: .int a :: st) hp x kc ks := by
  subst hn
  intro p l e R s m args below meth c lsA H locs cells slots F hl hH hS hc hs
  exact lv_irem F.1 F.2.1 hd h0 (k p l e R s m args below meth c lsA H locs cells slots F hl hH hS hc hs)
theorem xw_i2l (pc' : Nat) {a : Int32} (hd : decode (xmB Y) pc = .ok (.i2l, 1)) (hn : pc + 1 = pc') (k : xW G Y Qx pc' ls (.long a.toInt64 :: st) hp x kc ks) : xW G Y Qx pc ls (.int a :: st) hp x kc ks := by
  subst hn
  intro p l e R s m args below meth c lsA H locs cells slots F hl hH hS hc hs
  exact lv_i2l F.1 F.2.1 hd rfl (k p l e R s m args below meth c lsA H locs cells slots F hl hH hS hc hs)
theorem xw_i2d (pc' : Nat) {a : Int32} (hd : decode (xmB Y) pc = .ok (.i2d, 1)) (hn : pc + 1 = pc') (k : xW G Y Qx pc' ls (.double (FP.i2d a) :: st) hp x kc ks) : xW G Y Qx pc ls (.int a :: st) hp x kc ks := by
  subst hn
  intro p l e R s m args below meth c lsA H locs cells slots F hl hH hS hc hs
  exact lv_i2d F.1 F.2.1 hd (k p l e R s m args below meth c lsA H locs cells slots F hl hH hS hc hs)
theorem xw_d2l (pc' : Nat) {a : UInt64} (hd : decode (xmB Y) pc = .ok (.d2l, 1)) (hn : pc + 1 = pc') (k : xW G Y Qx pc' ls (.long (FP.d2l a) :: st) hp x kc ks) : xW G Y Qx pc ls (.double a :: st) hp x kc ks := by
  subst hn
  intro p l e R s m args below meth c lsA H locs cells slots F hl hH hS hc hs
  exact lv_d2l F.1 F.2.1 hd (k p l e R s m args below meth c lsA H locs cells slots F hl hH hS hc hs)
theorem xw_dcmp (pc' : Nat) {a b : UInt64} {op : CmpOp} (hd : decode (xmB Y) pc = .ok (.dcmp op, 1)) (hn : pc + 1 = pc') (k : xW G Y Qx pc' ls (.int (Op.cmpValue (FP.dcmp a b) op) :: st) hp x kc ks) : xW G Y Qx pc ls (.double b :: .double a :: st) hp x kc ks := by
  subst hn
  intro p l e R s m args below meth c lsA H locs cells slots F hl hH hS hc hs
  exact lv_dcmp F.1 F.2.1 hd (k p l e R s m args below meth c lsA H locs cells slots F hl hH hS hc hs)
theorem xw_lcmp (pc' : Nat) {a b : Int64} (hd : decode (xmB Y) pc = .ok (.lcmp, 1)) (hn : pc + 1 = pc') (k : xW G Y Qx pc' ls (.int (lg_cmp a b) :: st) hp x kc ks) : xW G Y Qx pc ls (.long b :: .long a :: st) hp x kc ks := by
  subst hn
  intro p l e R s m args below meth c lsA H locs cells slots F hl hH hS hc hs
  exact W.lcmp F.1 F.2.1 hd (k p l e R s m args below meth c lsA H locs cells slots F hl hH hS hc hs)
theorem xw_dmul (pc' : Nat) {a b : UInt64} (hd : decode (xmB Y) pc = .ok (.dmul, 1)) (hn : pc + 1 = pc') (h0 : vf_n64 (FP.dmul a b)) (k : xW G Y Qx pc' ls (.double (FP.dmul a b) :: st) hp x kc ks) : xW G Y Qx pc ls (.double b :: .double a :: st) hp x kc ks := by
  subst hn
  intro p l e R s m args below meth c lsA H locs cells slots F hl hH hS hc hs
  exact lv_dmul F.1 F.2.1 hd h0 (k p l e R s m args below meth c lsA H locs cells slots F hl hH hS hc hs)
theorem xw_ddiv (pc' : Nat) {a b : UInt64} (hd : decode (xmB Y) pc = .ok (.ddiv, 1)) (hn : pc + 1 = pc') (h0 : vf_n64 (FP.ddiv a b)) (k : xW G Y Qx pc' ls (.double (FP.ddiv a b) :: st) hp x kc ks) : xW G Y Qx pc ls (.double b :: .double a :: st) hp x kc ks := by
  subst hn
  intro p l e R s m args below meth c lsA H locs cells slots F hl hH hS hc hs
  exact lv_ddiv F.1 F.2.1 hd h0 (k p l e R s m args below meth c lsA H locs cells slots F hl hH hS hc hs)
theorem xw_dsub (pc' : Nat) {a b : UInt64} (hd : decode (xmB Y) pc = .ok (.dsub, 1)) (hn : pc + 1 = pc') (h0 : vf_n64 (FP.dsub a b)) (k : xW G Y Qx pc' ls (.double (FP.dsub a b) :: st) hp x kc ks) : xW G Y Qx pc ls (.double b :: .double a :: st) hp x kc ks := by
  subst hn
  intro p l e R s m args below meth c lsA H locs cells slots F hl hH hS hc hs
  exact lv_dsub F.1 F.2.1 hd h0 (k p l e R s m args below meth c lsA H locs cells slots F hl hH hS hc hs)
theorem xw_dconst0 (pc' : Nat)  (hd : decode (xmB Y) pc = .ok (.dconst 0, 1)) (hn : pc + 1 = pc') (k : xW G Y Qx pc' ls (.double FP.dconst0 :: st) hp x kc ks) : xW G Y Qx pc ls (st) hp x kc ks := by
  subst hn
  intro p l e R s m args below meth c lsA H locs cells slots F hl hH hS hc hs
  exact lv_dconst0 F.1 F.2.1 hd (k p l e R s m args below meth c lsA H locs cells slots F hl hH hS hc hs)
theorem xw_dconst1 (pc' : Nat)  (hd : decode (xmB Y) pc = .ok (.dconst 1, 1)) (hn : pc + 1 = pc') (k : xW G Y Qx pc' ls (.double FP.dconst1 :: st) hp x kc ks) : xW G Y Qx pc ls (st) hp x kc ks := by
  subst hn
  intro p l e R s m args below meth c lsA H locs cells slots F hl hH hS hc hs
  exact lv_dconst1 F.1 F.2.1 hd (k p l e R s m args below meth c lsA H locs cells slots F hl hH hS hc hs)
theorem xw_aconst_null (pc' : Nat)  (hd : decode (xmB Y) pc = .ok (.aconst_null, 1)) (hn : pc + 1 = pc') (k : xW G Y Qx pc' ls (.null :: st) hp x kc ks) : xW G Y Qx pc ls (st) hp x kc ks := by
  subst hn
  intro p l e R s m args below meth c lsA H locs cells slots F hl hH hS hc hs
  exact lv_null F.1 F.2.1 hd (k p l e R s m args below meth c lsA H locs cells slots F hl hH hS hc hs)
theorem xw_lshl (pc' : Nat) {a : Int64} {b : Int32} (hd : decode (xmB Y) pc = .ok (.lshl, 1)) (hn : pc + 1 = pc') (k : xW G Y Qx pc' ls (.long (a <<< (b.toInt64 &&& 63)) :: st) hp x kc ks) : xW G Y Qx pc ls (.int b :: .long a :: st) hp x kc ks := by
  subst hn
  intro p l e R s m args below meth c lsA H locs cells slots F hl hH hS hc hs
  exact lv_lshl F.1 F.2.1 hd rfl (k p l e R s m args below meth c lsA H locs cells slots F hl hH hS hc hs)
theorem xw_dup (pc' : Nat) {v : Value} (hd : decode (xmB Y) pc = .ok (.dup, 1)) (hn : pc + 1 = pc') (hv : v.category = 1) (k : xW G Y Qx pc' ls (v :: v :: st) hp x kc ks) : xW G Y Qx pc ls (v :: st) hp x kc ks := by
  subst hn
  intro p l e R s m args below meth c lsA H locs cells slots F hl hH hS hc hs
  exact lv_dup F.1 F.2.1 hd ((xTr_cat G v).trans hv) (k p l e R s m args below meth c lsA H locs cells slots F hl hH hS hc hs)
theorem xw_dup2 (pc' : Nat) {v w : Value} (hd : decode (xmB Y) pc = .ok (.dup2, 1)) (hn : pc + 1 = pc') (hv : v.category = 1) (hw : w.category = 1) (k : xW G Y Qx pc' ls (v :: w :: v :: w :: st) hp x kc ks) : xW G Y Qx pc ls (v :: w :: st) hp x kc ks := by
  subst hn
  intro p l e R s m args below meth c lsA H locs cells slots F hl hH hS hc hs
  exact lv_dup2_11 F.1 F.2.1 hd ((xTr_cat G v).trans hv) ((xTr_cat G w).trans hw) (k p l e R s m args below meth c lsA H locs cells slots F hl hH hS hc hs)
theorem xw_if_eq (tgt pc' : Nat) {a : Int32} {off : Int} (hd : decode (xmB Y) pc = .ok (.ifCond .eq off, 3)) (ht : (pc : Int) + off = (tgt : Int)) (hn : pc + 3 = pc') (kt : a = 0 → xW G Y Qx tgt ls st hp x kc ks) (kf : ¬ a = 0 → xW G Y Qx pc' ls st hp x kc ks) : xW G Y Qx pc ls (.int a :: st) hp x kc ks := by
  subst hn
  intro p l e R s m args below meth c lsA H locs cells slots F hl hH hS hc hs
  exact lv_if_eq F.1 F.2.1 hd ht (fun h => kt h p l e R s m args below meth c lsA H locs cells slots F hl hH hS hc hs) (fun h => kf h p l e R s m args below meth c lsA H locs cells slots F hl hH hS hc hs)
theorem xw_icmp_eq (tgt pc' : Nat) {a b : Int32} {off : Int} (hd : decode (xmB Y) pc = .ok (.if_icmp .eq off, 3)) (ht : (pc : Int) + off = (tgt : Int)) (hn : pc + 3 = pc') (kt : a = b → xW G Y Qx tgt ls st hp x kc ks) (kf : ¬ a = b → xW G Y Qx pc' ls st hp x kc ks) : xW G Y Qx pc ls (.int b :: .int a :: st) hp x kc ks := by
  subst hn
  intro p l e R s m args below meth c lsA H locs cells slots F hl hH hS hc hs
  exact lv_icmp_eq F.1 F.2.1 hd ht (fun h => kt h p l e R s m args below meth c lsA H locs cells slots F hl hH hS hc hs) (fun h => kf h p l e R s m args below meth c lsA H locs cells slots F hl hH hS hc hs)
theorem xw_if_ne (tgt pc' : Nat) {a : Int32} {off : Int} (hd : decode (xmB Y) pc = .ok (.ifCond .ne off, 3)) (ht : (pc : Int) + off = (tgt : Int)) (hn : pc + 3 = pc') (kt : ¬ a = 0 → xW G Y Qx tgt ls st hp x kc ks) (kf : a = 0 → xW G Y Qx pc' ls st hp x kc ks) : xW G Y Qx pc ls (.int a :: st) hp x kc ks := by
  subst hn
  intro p l e R s m args below meth c lsA H locs cells slots F hl hH hS hc hs
  exact lv_if_ne F.1 F.2.1 hd ht (fun h => kt h p l e R s m args below meth c lsA H locs cells slots F hl hH hS hc hs) (fun h => kf h p l e R s m args below meth c lsA H locs cells slots F hl hH hS hc hs)
theorem xw_icmp_ne (tgt pc' : Nat) {a b : Int32} {off : Int} (hd : decode (xmB Y) pc = .ok (.if_icmp .ne off, 3)) (ht : (pc : Int) + off = (tgt : Int)) (hn : pc + 3 = pc') (kt : ¬ a = b → xW G Y Qx tgt ls st hp x kc ks) (kf : a = b → xW G Y Qx pc' ls st hp x kc ks) : xW G Y Qx pc ls (.int b :: .int a :: st) hp x kc ks := by
  subst hn
  intro p l e R s m args below meth c lsA H locs cells slots F hl hH hS hc hs
  exact lv_icmp_ne F.1 F.2.1 hd ht (fun h => kt h p l e R s m args below meth c lsA H locs cells slots F hl hH hS hc hs) (fun h => kf h p l e R s m args below meth c lsA H locs cells slots F hl hH hS hc hs)
theorem xw_if_lt (tgt pc' : Nat) {a : Int32} {off : Int} (hd : decode (xmB Y) pc = .ok (.ifCond .lt off, 3)) (ht : (pc : Int) + off = (tgt : Int)) (hn : pc + 3 = pc') (kt : a < 0 → xW G Y Qx tgt ls st hp x kc ks) (kf : ¬ a < 0 → xW G Y Qx pc' ls st hp x kc ks) : xW G Y Qx pc ls (.int a :: st) hp x kc ks := by
  subst hn
  intro p l e R s m args below meth c lsA H locs cells slots F hl hH hS hc hs
  exact lv_if_lt F.1 F.2.1 hd ht (fun h => kt h p l e R s m args below meth c lsA H locs cells slots F hl hH hS hc hs) (fun h => kf h p l e R s m args below meth c lsA H locs cells slots F hl hH hS hc hs)
theorem xw_icmp_lt (tgt pc' : Nat) {a b : Int32} {off : Int} (hd : decode (xmB Y) pc = .ok (.if_icmp .lt off, 3)) (ht : (pc : Int) + off = (tgt : Int)) (hn : pc + 3 = pc') (kt : a < b → xW G Y Qx tgt ls st hp x kc ks) (kf : ¬ a < b → xW G Y Qx pc' ls st hp x kc ks) : xW G Y Qx pc ls (.int b :: .int a :: st) hp x kc ks := by
  subst hn
  intro p l e R s m args below meth c lsA H locs cells slots F hl hH hS hc hs
  exact lv_icmp_lt F.1 F.2.1 hd ht (fun h => kt h p l e R s m args below meth c lsA H locs cells slots F hl hH hS hc hs) (fun h => kf h p l e R s m args below meth c lsA H locs cells slots F hl hH hS hc hs)
theorem xw_if_ge (tgt pc' : Nat) {a : Int32} {off : Int} (hd : decode (xmB Y) pc = .ok (.ifCond .ge off, 3)) (ht : (pc : Int) + off = (tgt : Int)) (hn : pc + 3 = pc') (kt : 0 ≤ a → xW G Y Qx tgt ls st hp x kc ks) (kf : ¬ 0 ≤ a → xW G Y Qx pc' ls st hp x kc ks) : xW G Y Qx pc ls (.int a :: st) hp x kc ks := by
  subst hn
  intro p l e R s m args below meth c lsA H locs cells slots F hl hH hS hc hs
  exact lv_if_ge F.1 F.2.1 hd ht (fun h => kt h p l e R s m args below meth c lsA H locs cells slots F hl hH hS hc hs) (fun h => kf h p l e R s m args below meth c lsA H locs cells slots F hl hH hS hc hs)
theorem xw_icmp_ge (tgt pc' : Nat) {a b : Int32} {off : Int} (hd : decode (xmB Y) pc = .ok (.if_icmp .ge off, 3)) (ht : (pc : Int) + off = (tgt : Int)) (hn : pc + 3 = pc') (kt : b ≤ a → xW G Y Qx tgt ls st hp x kc ks) (kf : ¬ b ≤ a → xW G Y Qx pc' ls st hp x kc ks) : xW G Y Qx pc ls (.int b :: .int a :: st) hp x kc ks := by
  subst hn
  intro p l e R s m args below meth c lsA H locs cells slots F hl hH hS hc hs
  exact lv_icmp_ge F.1 F.2.1 hd ht (fun h => kt h p l e R s m args below meth c lsA H locs cells slots F hl hH hS hc hs) (fun h => kf h p l e R s m args below meth c lsA H locs cells slots F hl hH hS hc hs)
theorem xw_if_gt (tgt pc' : Nat) {a : Int32} {off : Int} (hd : decode (xmB Y) pc = .ok (.ifCond .gt off, 3)) (ht : (pc : Int) + off = (tgt : Int)) (hn : pc + 3 = pc') (kt : 0 < a → xW G Y Qx tgt ls st hp x kc ks) (kf : ¬ 0 < a → xW G Y Qx pc' ls st hp x kc ks) : xW G Y Qx pc ls (.int a :: st) hp x kc ks := by
  subst hn
  intro p l e R s m args below meth c lsA H locs cells slots F hl hH hS hc hs
  exact lv_if_gt F.1 F.2.1 hd ht (fun h => kt h p l e R s m args below meth c lsA H locs cells slots F hl hH hS hc hs) (fun h => kf h p l e R s m args below meth c lsA H locs cells slots F hl hH hS hc hs)
theorem xw_icmp_gt (tgt pc' : Nat) {a b : Int32} {off : Int} (hd : decode (xmB Y) pc = .ok (.if_icmp .gt off, 3)) (ht : (pc : Int) + off = (tgt : Int)) (hn : pc + 3 = pc') (kt : b < a → xW G Y Qx tgt ls st hp x kc ks) (kf : ¬ b < a → xW G Y Qx pc' ls st hp x kc ks) : xW G Y Qx pc ls (.int b :: .int a :: st) hp x kc ks := by
  subst hn
  intro p l e R s m args below meth c lsA H locs cells slots F hl hH hS hc hs
  exact lv_icmp_gt F.1 F.2.1 hd ht (fun h => kt h p l e R s m args below meth c lsA H locs cells slots F hl hH hS hc hs) (fun h => kf h p l e R s m args below meth c lsA H locs cells slots F hl hH hS hc hs)
theorem xw_if_le (tgt pc' : Nat) {a : Int32} {off : Int} (hd : decode (xmB Y) pc = .ok (.ifCond .le off, 3)) (ht : (pc : Int) + off = (tgt : Int)) (hn : pc + 3 = pc') (kt : a ≤ 0 → xW G Y Qx tgt ls st hp x kc ks) (kf : ¬ a ≤ 0 → xW G Y Qx pc' ls st hp x kc ks) : xW G Y Qx pc ls (.int a :: st) hp x kc ks := by
  subst hn
  intro p l e R s m args below meth c lsA H locs cells slots F hl hH hS hc hs
  exact lv_if_le F.1 F.2.1 hd ht (fun h => kt h p l e R s m args below meth c lsA H locs cells slots F hl hH hS hc hs) (fun h => kf h p l e R s m args below meth c lsA H locs cells slots F hl hH hS hc hs)
theorem xw_icmp_le (tgt pc' : Nat) {a b : Int32} {off : Int} (hd : decode (xmB Y) pc = .ok (.if_icmp .le off, 3)) (ht : (pc : Int) + off = (tgt : Int)) (hn : pc + 3 = pc') (kt : a ≤ b → xW G Y Qx tgt ls st hp x kc ks) (kf : ¬ a ≤ b → xW G Y Qx pc' ls st hp x kc ks) : xW G Y Qx pc ls (.int b :: .int a :: st) hp x kc ks := by
  subst hn
  intro p l e R s m args below meth c lsA H locs cells slots F hl hH hS hc hs
  exact lv_icmp_le F.1 F.2.1 hd ht (fun h => kt h p l e R s m args below meth c lsA H locs cells slots F hl hH hS hc hs) (fun h => kf h p l e R s m args below meth c lsA H locs cells slots F hl hH hS hc hs)
theorem xw_goto (tgt : Nat) {off : Int} (hd : decode (xmB Y) pc = .ok (.goto off, 3)) (ht : (pc : Int) + off = (tgt : Int)) (k : xW G Y Qx tgt ls st hp x kc ks) : xW G Y Qx pc ls st hp x kc ks := by
  intro p l e R s m args below meth c lsA H locs cells slots F hl hH hS hc hs
  exact lv_goto F.1 F.2.1 hd ht (k p l e R s m args below meth c lsA H locs cells slots F hl hH hS hc hs)
def xnul : Value → Bool
  | .null => true
  | _ => false
theorem xw_ifnonnull (tgt : Nat) {v : Value} {off : Int} (hd : decode (xmB Y) pc = .ok (.ifnonnull off, 3)) (ht : (pc : Int) + off = (tgt : Int)) (hv : xref v = true) (h0 : xnul v = false) (k : xW G Y Qx tgt ls st hp x kc ks) : xW G Y Qx pc ls (v :: st) hp x kc ks := by
  intro p l e R s m args below meth c lsA H locs cells slots F hl hH hS hc hs
  have k := k p l e R s m args below meth c lsA H locs cells slots F hl hH hS hc hs
  cases v with
  | ref a => exact lv_ifnonnull F.1 F.2.1 hd ht k
  | retAddr a => exact lv_ifnonnull F.1 F.2.1 hd ht k
  | null => cases h0
  | _ => cases hv
theorem xw_ifnull (pc' : Nat) {v : Value} {off : Int} (hd : decode (xmB Y) pc = .ok (.ifnull off, 3)) (hn : pc + 3 = pc') (hv : xref v = true) (h0 : xnul v = false) (k : xW G Y Qx pc' ls st hp x kc ks) : xW G Y Qx pc ls (v :: st) hp x kc ks := by
  subst hn
  intro p l e R s m args below meth c lsA H locs cells slots F hl hH hS hc hs
  have k := k p l e R s m args below meth c lsA H locs cells slots F hl hH hS hc hs
  cases v with
  | ref a => exact lv_ifnull F.1 F.2.1 hd k
  | retAddr a => exact lv_ifnull F.1 F.2.1 hd k
  | null => cases h0
  | _ => cases hv
def xAll (P : Int → Nat → Prop) : List Nat → Int → Prop
  | [], _ => True
  | t :: l, i => P i t ∧ xAll P l (i + 1)
theorem xAll_get {P : Int → Nat → Prop} : ∀ {l : List Nat} {i : Int}, xAll P l i → ∀ (k : Nat) (t : Nat), l[k]? = some t → P (i + k) t
  | [], _, _, k, t, h => by simp at h
  | a :: l, i, hA, 0, t, h => by
    simp at h
    subst h
    have := hA.1
    simpa using this
  | a :: l, i, hA, k + 1, t, h => by
    have h1 := xAll_get hA.2 k t (by simpa using h)
    have e : i + 1 + (k : Int) = i + ((k + 1 : Nat) : Int) := by omega
    rw [e] at h1
    exact h1
theorem xw_table (tgts : List Nat) (dt : Nat) {a : Int32} {dflt lo hi : Int} {offs : Array Int} {len : Nat} (hd : decode (xmB Y) pc = .ok (.tableswitch dflt lo hi offs, len)) (hdt : (pc : Int) + dflt = (dt : Int)) (hts : offs.toList.map (fun o => (pc : Int) + o) = tgts.map (fun (t : Nat) => (t : Int))) (hhi : lo + tgts.length = hi + 1)
    (hin : xAll (fun i t => a.toInt = i → xW G Y Qx t ls st hp x kc ks) tgts lo) (hout : (a.toInt < lo ∨ hi < a.toInt) → xW G Y Qx dt ls st hp x kc ks) : xW G Y Qx pc ls (.int a :: st) hp x kc ks := by
  intro p l e R s m args below meth c lsA H locs cells slots F hl hH hS hc hs
  by_cases h : a.toInt < lo ∨ hi < a.toInt
  · exact lv_tableOut F.1 F.2.1 hd h hdt (hout h p l e R s m args below meth c lsA H locs cells slots F hl hH hS hc hs)
  · have h1 : ¬ a.toInt < lo := fun z => h (Or.inl z)
    have h2 : ¬ hi < a.toInt := fun z => h (Or.inr z)
    obtain ⟨j, hj⟩ : ∃ j : Nat, a.toInt - lo = j := ⟨(a.toInt - lo).toNat, by omega⟩
    have hjl : j < tgts.length := by omega
    have hlen : offs.toList.length = tgts.length := by
      have := congrArg List.length hts
      simpa using this
    have hg : tgts[j]? = some tgts[j] := List.getElem?_eq_getElem hjl
    have ho : offs.toList[j]? = some (offs.toList[j]'(by omega)) := List.getElem?_eq_getElem (by omega)
    have he : ((pc : Int) + offs.toList[j]'(by omega)) = (tgts[j] : Int) := by
      have h9 := congrArg (fun (q : List Int) => q[j]?) hts
      simp only [List.getElem?_map, hg, ho, Option.map_some] at h9
      exact Option.some.inj h9
    have ho2 : offs[(a.toInt - lo).toNat]? = some (offs.toList[j]'(by omega)) := by
      rw [hj]
      rw [← Array.getElem?_toList]
      simpa using ho
    have h3 := xAll_get hin j tgts[j] hg (by omega)
    exact lv_tableIn F.1 F.2.1 hd h1 h2 ho2 he (h3 p l e R s m args below meth c lsA H locs cells slots F hl hH hS hc hs)
theorem xw_lookup (tgt : Nat) {a : Int32} {dflt : Int} {ps : Array (Int × Int)} {len : Nat} {off : Int} (hd : decode (xmB Y) pc = .ok (.lookupswitch dflt ps, len)) (hps : (ps.toList.zip (ps.toList.drop 1)).all (fun (a, next) => a.1 < next.1) = true) (ho : Op.lookupswitch.offset ps.toList dflt a.toInt = off) (ht : (pc : Int) + off = (tgt : Int)) (k : xW G Y Qx tgt ls st hp x kc ks) : xW G Y Qx pc ls (.int a :: st) hp x kc ks := by
  intro p l e R s m args below meth c lsA H locs cells slots F hl hH hS hc hs
  exact lv_lookup F.1 F.2.1 hd hps ho ht (k p l e R s m args below meth c lsA H locs cells slots F hl hH hS hc hs)
theorem xw_ldc (pc' : Nat) {idx : Nat} {v : Int32} (hd : decode (xmB Y) pc = .ok (.ldc idx, 2)) (hn : pc + 2 = pc') (hw : Cond.constant (xmN Y).cls idx v ∈ lw_tbl) (k : xW G Y Qx pc' ls (.int v :: st) hp x kc ks) : xW G Y Qx pc ls st hp x kc ks := by
  subst hn
  intro p l e R s m args below meth c lsA H locs cells slots F hl hH hS hc hs
  exact lv_ldc F.1 F.2.1 F.2.2.2.2.1 (F.2.2.2.2.2.2.2.2.1.2.1 _ hw (Or.inl ⟨rfl, rfl⟩) _) hd (k p l e R s m args below meth c lsA H locs cells slots F hl hH hS hc hs)
theorem xw_ldc2 (pc' : Nat) {idx : Nat} {v : Int64} (hd : decode (xmB Y) pc = .ok (.ldc2_w idx, 3)) (hn : pc + 3 = pc') (hw : Cond.constantLong (xmN Y).cls idx v ∈ lw_tbl) (k : xW G Y Qx pc' ls (.long v :: st) hp x kc ks) : xW G Y Qx pc ls st hp x kc ks := by
  subst hn
  intro p l e R s m args below meth c lsA H locs cells slots F hl hH hS hc hs
  exact lv_ldc2 F.1 F.2.1 F.2.2.2.2.1 (F.2.2.2.2.2.2.2.2.1.2.1 _ hw (Or.inl ⟨rfl, rfl⟩) _) hd (k p l e R s m args below meth c lsA H locs cells slots F hl hH hS hc hs)
theorem xw_ldc2d (pc' : Nat) {idx : Nat} {v : UInt64} (hd : decode (xmB Y) pc = .ok (.ldc2_w idx, 3)) (hn : pc + 3 = pc') (hw : Cond.constantDouble (xmN Y).cls idx v ∈ lw_tbl) (k : xW G Y Qx pc' ls (.double v :: st) hp x kc ks) : xW G Y Qx pc ls st hp x kc ks := by
  subst hn
  intro p l e R s m args below meth c lsA H locs cells slots F hl hH hS hc hs
  exact lv_ldc2d F.1 F.2.1 F.2.2.2.2.1 (F.2.2.2.2.2.2.2.2.1.2.1 _ hw (Or.inl ⟨rfl, rfl⟩) _) hd (k p l e R s m args below meth c lsA H locs cells slots F hl hH hS hc hs)
theorem xw_ireturn {v : Int32} (hd : decode (xmB Y) pc = .ok (.ireturn, 1)) (hr : xmR Y = some .int) (hq : Qx (.inl (some (.int v))) hp) : xW G Y Qx pc ls ([.int v]) hp x kc ks := by
  intro p l e R s m args below meth c lsA H locs cells slots F hl hH hS hc hs
  have hlocks : meth.locks = false := F.2.2.2.2.2.1
  exact W.widen (k := R.cells) (n := R.slots) (Nat.le_trans (Nat.le_add_right _ _) hc) (Nat.le_trans (Nat.le_add_right _ _) hs) (vx_ret (W.iret F.1 F.2.1 (F.2.2.2.1.trans hr) (fun t ht _ => ⟨(some (.int v)), hp, rfl, hq, by rw [ht]; exact hH.1, hS.F ht, by rw [ht]; exact hH.2⟩) hS.2.2 hd hlocks))
theorem xw_zreturn {v : Int32} (hd : decode (xmB Y) pc = .ok (.ireturn, 1)) (hr : xmR Y = some .boolean) (hz : v = 0 ∨ v = 1) (hq : Qx (.inl (some (.int v))) hp) : xW G Y Qx pc ls ([.int v]) hp x kc ks := by
  intro p l e R s m args below meth c lsA H locs cells slots F hl hH hS hc hs
  have hlocks : meth.locks = false := F.2.2.2.2.2.1
  exact W.widen (k := R.cells) (n := R.slots) (Nat.le_trans (Nat.le_add_right _ _) hc) (Nat.le_trans (Nat.le_add_right _ _) hs) (vx_ret (W.zret F.1 F.2.1 (F.2.2.2.1.trans hr) (by rcases hz with rfl | rfl <;> rfl) (fun t ht _ => ⟨(some (.int v)), hp, rfl, hq, by rw [ht]; exact hH.1, hS.F ht, by rw [ht]; exact hH.2⟩) hS.2.2 hd hlocks))
theorem xw_lreturn {v : Int64} (hd : decode (xmB Y) pc = .ok (.lreturn, 1)) (hr : xmR Y = some .long) (hq : Qx (.inl (some (.long v))) hp) : xW G Y Qx pc ls ([.long v]) hp x kc ks := by
  intro p l e R s m args below meth c lsA H locs cells slots F hl hH hS hc hs
  have hlocks : meth.locks = false := F.2.2.2.2.2.1
  exact W.widen (k := R.cells) (n := R.slots) (Nat.le_trans (Nat.le_add_right _ _) hc) (Nat.le_trans (Nat.le_add_right _ _) hs) (vx_ret (W.lret F.1 F.2.1 (F.2.2.2.1.trans hr) (fun t ht _ => ⟨(some (.long v)), hp, rfl, hq, by rw [ht]; exact hH.1, hS.F ht, by rw [ht]; exact hH.2⟩) hS.2.2 hd hlocks))
theorem xw_dreturn {v : UInt64} (hd : decode (xmB Y) pc = .ok (.dreturn, 1)) (hr : xmR Y = some .double) (hq : Qx (.inl (some (.double v))) hp) : xW G Y Qx pc ls ([.double v]) hp x kc ks := by
  intro p l e R s m args below meth c lsA H locs cells slots F hl hH hS hc hs
  have hlocks : meth.locks = false := F.2.2.2.2.2.1
  exact W.widen (k := R.cells) (n := R.slots) (Nat.le_trans (Nat.le_add_right _ _) hc) (Nat.le_trans (Nat.le_add_right _ _) hs) (vx_ret (W.dret F.1 F.2.1 (F.2.2.2.1.trans hr) (fun t ht _ => ⟨(some (.double v)), hp, rfl, hq, by rw [ht]; exact hH.1, hS.F ht, by rw [ht]; exact hH.2⟩) hS.2.2 hd hlocks))
theorem xw_return  (hd : decode (xmB Y) pc = .ok (.return_, 1)) (hr : xmR Y = none) (hq : Qx (.inl none) hp) : xW G Y Qx pc ls ([]) hp x kc ks := by
  intro p l e R s m args below meth c lsA H locs cells slots F hl hH hS hc hs
  have hlocks : meth.locks = false := F.2.2.2.2.2.1
  exact W.widen (k := R.cells) (n := R.slots) (Nat.le_trans (Nat.le_add_right _ _) hc) (Nat.le_trans (Nat.le_add_right _ _) hs) (vx_ret (W.vret F.1 F.2.1 (F.2.2.2.1.trans hr) (fun t ht _ => ⟨none, hp, rfl, hq, by rw [ht]; exact hH.1, hS.F ht, by rw [ht]; exact hH.2⟩) hS.2.2 hd hlocks))
theorem xw_areturn {v : Value} {C : String} (hd : decode (xmB Y) pc = .ok (.areturn, 1)) (hr : xmR Y = some (.object C)) (hv : xref v = true) (hq : Qx (.inl (some v)) hp) : xW G Y Qx pc ls [v] hp x kc ks := by
  intro p l e R s m args below meth c lsA H locs cells slots F hl hH hS hc hs
  have hlocks : meth.locks = false := F.2.2.2.2.2.1
  exact W.widen (k := R.cells) (n := R.slots) (Nat.le_trans (Nat.le_add_right _ _) hc) (Nat.le_trans (Nat.le_add_right _ _) hs) (vx_ret (W.aret (v := xTr G v) F.1 F.2.1 (F.2.2.2.1.trans hr) (Or.inl ⟨_, rfl⟩) (by cases v <;> first | exact Or.inl rfl | exact Or.inr ⟨_, rfl⟩ | cases hv) (fun t ht _ => ⟨some v, hp, rfl, hq, by rw [ht]; exact hH.1, hS.F ht, by rw [ht]; exact hH.2⟩) hS.2.2 hd hlocks))
theorem xW.cast {ls' : List (Nat × Value)} {st' : List Value} {hp' : List xE} (h1 : ls = ls') (h2 : st = st') (h3 : hp = hp') (k : xW G Y Qx pc ls' st' hp' x kc ks) : xW G Y Qx pc ls st hp x kc ks := by subst h1; subst h2; subst h3; exact k
theorem xW.post {Q2 : xO → List xE → Prop} (k : xW G Y Qx pc ls st hp x kc ks) (h : ∀ o hp', Qx o hp' → Q2 o hp') : xW G Y Q2 pc ls st hp x kc ks := by
  intro p l e R s m args below meth c lsA H locs cells slots F hl hH hS hc hs T hT X
  obtain ⟨t, a1, o, b1, b2, b3⟩ := k p l e R s m args below meth c lsA H locs cells slots F hl hH hS hc hs T hT X
  refine ⟨t, a1, o, b1, b2, ?_⟩
  rcases b3 with ⟨⟨ov, hp', e1, e2, e3⟩, h9⟩ | ⟨q, e1, E, ce, L, ⟨hp', e2, e3⟩, h9⟩
  · exact Or.inl ⟨⟨ov, hp', e1, h _ _ e2, e3⟩, h9⟩
  · exact Or.inr ⟨q, e1, E, ce, L, ⟨hp', h _ _ e2, e3⟩, h9⟩
theorem xW.less {kc' ks' : Nat} (h1 : kc' ≤ kc) (h2 : ks' ≤ ks) (k : xW G Y Qx pc ls st hp x kc' ks') : xW G Y Qx pc ls st hp x kc ks := by
  intro p l e R s m args below meth c lsA H locs cells slots F hl hH hS hc hs
  exact k p l e R s m args below meth c lsA H locs cells slots F hl hH hS (by omega) (by omega)
theorem xW.slack {x' : Nat} (h1 : x ≤ x') (k : xW G Y Qx pc ls st hp x' kc ks) : xW G Y Qx pc ls st hp x kc ks := by
  intro p l e R s m args below meth c lsA H locs cells slots F hl hH hS hc hs
  exact k p l e R s m args below meth c lsA H locs cells slots F hl ⟨hH.1, hH.2⟩ hS hc hs
/-- fewer locals known -/
theorem xW.drop (ls' : List (Nat × Value)) (h : ∀ q ∈ ls', q ∈ ls) (k : xW G Y Qx pc ls' st hp x kc ks) : xW G Y Qx pc ls st hp x kc ks := by
  intro p l e R s m args below meth c lsA H locs cells slots F hl hH hS hc hs
  refine k p l e R s m args below meth c lsA H locs cells slots F ⟨hl.1, hl.2.1, fun q hq => ?_⟩ hH hS hc hs
  obtain ⟨q0, h0, rfl⟩ := List.mem_map.mp hq
  exact hl.2.2 _ (List.mem_map.mpr ⟨q0, h q0 h0, rfl⟩)
theorem xW.anyx (x' : Nat) (k : xW G Y Qx pc ls st hp x' kc ks) : xW G Y Qx pc ls st hp x kc ks := by
  intro p l e R s m args below meth c lsA H locs cells slots F hl hH hS hc hs
  exact k p l e R s m args below meth c lsA H locs cells slots F hl ⟨hH.1, hH.2⟩ hS hc hs
end X2

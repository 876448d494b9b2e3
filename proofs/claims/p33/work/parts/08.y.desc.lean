/-! ===== the descriptors of the law's longer methods, parameter by parameter ===== -/
theorem pd_e (n : Nat) (r : List Char) : parametersPrefix n (')' :: r) = some ([], r) := by cases n <;> rfl
theorem pd_a (n : Nat) (r : List Char) : parametersPrefix (n + 1) ('[' :: 'I' :: r) = (parametersPrefix n r).bind (fun q => some (.array .int :: q.1, q.2)) := rfl
theorem pd_i (n : Nat) (r : List Char) : parametersPrefix (n + 1) ('I' :: r) = (parametersPrefix n r).bind (fun q => some (.int :: q.1, q.2)) := rfl
theorem pd_of (r : List Char) : fieldTypePrefix 0 ('L' :: 'B' :: 'e' :: 'a' :: 'd' :: 'S' :: 'p' :: 'i' :: 'r' :: 'a' :: 'l' :: 's' :: ';' :: r) = some (.object "BeadSpirals", r) := rfl
theorem pd_o (n : Nat) (r : List Char) : parametersPrefix (n + 1) ('L' :: 'B' :: 'e' :: 'a' :: 'd' :: 'S' :: 'p' :: 'i' :: 'r' :: 'a' :: 'l' :: 's' :: ';' :: r) = (parametersPrefix n r).bind (fun q => some (.object "BeadSpirals" :: q.1, q.2)) := by
  rw [parametersPrefix]
  · rw [pd_of]
    rfl
  · intro r9 h9
    injection h9 with h8
    exact absurd h8 (by decide)
theorem pd_p_wrongs : parametersPrefix 255 ['[', 'I', '[', 'I', '[', 'I', 'I', 'I', ')', 'I'] = some ([.array .int, .array .int, .array .int, .int, .int], ['I']) := by
  rw [pd_a 254, pd_a 253, pd_a 252, pd_i 251, pd_i 250, pd_e 250]
  rfl
theorem pd_wrongs : (parseMethodDescriptor "([I[I[III)I").map (fun d => d.parameters.length) = some 5 := by
  unfold parseMethodDescriptor
  rw [show "([I[I[III)I".toList = ['(', '[', 'I', '[', 'I', '[', 'I', 'I', 'I', ')', 'I'] by decide +kernel]
  show Option.map _ ((parametersPrefix 255 ['[', 'I', '[', 'I', '[', 'I', 'I', 'I', ')', 'I']).bind _) = _
  rw [pd_p_wrongs]
  decide +kernel
theorem pd_p_shop : parametersPrefix 255 ['L', 'B', 'e', 'a', 'd', 'S', 'p', 'i', 'r', 'a', 'l', 's', ';', 'I', 'I', '[', 'I', '[', 'I', ')', 'Z'] = some ([.object "BeadSpirals", .int, .int, .array .int, .array .int], ['Z']) := by
  rw [pd_o 254, pd_i 253, pd_i 252, pd_a 251, pd_a 250, pd_e 250]
  rfl
theorem pd_shop : (parseMethodDescriptor "(LBeadSpirals;II[I[I)Z").map (fun d => d.parameters.length) = some 5 := by
  unfold parseMethodDescriptor
  rw [show "(LBeadSpirals;II[I[I)Z".toList = ['(', 'L', 'B', 'e', 'a', 'd', 'S', 'p', 'i', 'r', 'a', 'l', 's', ';', 'I', 'I', '[', 'I', '[', 'I', ')', 'Z'] by decide +kernel]
  show Option.map _ ((parametersPrefix 255 ['L', 'B', 'e', 'a', 'd', 'S', 'p', 'i', 'r', 'a', 'l', 's', ';', 'I', 'I', '[', 'I', '[', 'I', ')', 'Z']).bind _) = _
  rw [pd_p_shop]
  decide +kernel
theorem pd_p_strings : parametersPrefix 255 ['L', 'B', 'e', 'a', 'd', 'S', 'p', 'i', 'r', 'a', 'l', 's', ';', 'I', 'I', '[', 'I', '[', 'I', '[', 'I', '[', 'I', ')', 'Z'] = some ([.object "BeadSpirals", .int, .int, .array .int, .array .int, .array .int, .array .int], ['Z']) := by
  rw [pd_o 254, pd_i 253, pd_i 252, pd_a 251, pd_a 250, pd_a 249, pd_a 248, pd_e 248]
  rfl
theorem pd_strings : (parseMethodDescriptor "(LBeadSpirals;II[I[I[I[I)Z").map (fun d => d.parameters.length) = some 7 := by
  unfold parseMethodDescriptor
  rw [show "(LBeadSpirals;II[I[I[I[I)Z".toList = ['(', 'L', 'B', 'e', 'a', 'd', 'S', 'p', 'i', 'r', 'a', 'l', 's', ';', 'I', 'I', '[', 'I', '[', 'I', '[', 'I', '[', 'I', ')', 'Z'] by decide +kernel]
  show Option.map _ ((parametersPrefix 255 ['L', 'B', 'e', 'a', 'd', 'S', 'p', 'i', 'r', 'a', 'l', 's', ';', 'I', 'I', '[', 'I', '[', 'I', '[', 'I', '[', 'I', ')', 'Z']).bind _) = _
  rw [pd_p_strings]
  decide +kernel
theorem pd_p_agree : parametersPrefix 255 ['L', 'B', 'e', 'a', 'd', 'S', 'p', 'i', 'r', 'a', 'l', 's', ';', '[', 'I', '[', 'I', '[', 'I', '[', 'I', ')', 'Z'] = some ([.object "BeadSpirals", .array .int, .array .int, .array .int, .array .int], ['Z']) := by
  rw [pd_o 254, pd_a 253, pd_a 252, pd_a 251, pd_a 250, pd_e 250]
  rfl
theorem pd_agree : (parseMethodDescriptor "(LBeadSpirals;[I[I[I[I)Z").map (fun d => d.parameters.length) = some 5 := by
  unfold parseMethodDescriptor
  rw [show "(LBeadSpirals;[I[I[I[I)Z".toList = ['(', 'L', 'B', 'e', 'a', 'd', 'S', 'p', 'i', 'r', 'a', 'l', 's', ';', '[', 'I', '[', 'I', '[', 'I', '[', 'I', ')', 'Z'] by decide +kernel]
  show Option.map _ ((parametersPrefix 255 ['L', 'B', 'e', 'a', 'd', 'S', 'p', 'i', 'r', 'a', 'l', 's', ';', '[', 'I', '[', 'I', '[', 'I', '[', 'I', ')', 'Z']).bind _) = _
  rw [pd_p_agree]
  decide +kernel

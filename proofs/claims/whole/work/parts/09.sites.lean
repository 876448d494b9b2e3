/-! ===== printed by program: methods, sites, fields as the xw rows want them ===== -/
theorem xin_of (ws : List Cond) (ps : List Nat) (hp : ws = ps.filterMap (fun i => lw_tbl[i]?)) (h : ws.all (fun w => w.onTables && w.keepsFace) = true) : ∀ w ∈ ws, w ∈ lw_tbl ∧ xGoodP w := by
  intro w hw
  have h1 := List.all_eq_true.mp h w hw
  rw [Bool.and_eq_true] at h1
  rw [hp] at hw
  obtain ⟨i, -, hi⟩ := List.mem_filterMap.mp hw
  exact ⟨List.mem_of_getElem? hi, Or.inl h1⟩
theorem xin0 : ∀ w ∈ u_ws RX0 TX0 3, w ∈ lw_tbl ∧ xGoodP w := xin_of _ [148, 150, 152] (by decide +kernel) (by decide +kernel)
theorem xin1 : ∀ w ∈ u_ws RX1 TX1 3, w ∈ lw_tbl ∧ xGoodP w := xin_of _ [214, 216, 218] (by decide +kernel) (by decide +kernel)
theorem xin2 : ∀ w ∈ u_ws RX2 TX2 2, w ∈ lw_tbl ∧ xGoodP w := xin_of _ [231, 233] (by decide +kernel) (by decide +kernel)
theorem xin3 : ∀ w ∈ u_ws RX3 TX3 10, w ∈ lw_tbl ∧ xGoodP w := xin_of _ [180, 182, 184, 186, 188, 190, 192, 194, 196, 198] (by decide +kernel) (by decide +kernel)
theorem xin4 : ∀ w ∈ u_ws RX4 TX4 5, w ∈ lw_tbl ∧ xGoodP w := xin_of _ [243, 245, 247, 249, 251] (by decide +kernel) (by decide +kernel)
theorem xin5 : ∀ w ∈ u_ws RX5 TX5 20, w ∈ lw_tbl ∧ xGoodP w := xin_of _ [894, 896, 898, 900, 902, 904, 906, 908, 910, 912, 914, 916, 918, 920, 922, 924, 926, 928, 930, 932] (by decide +kernel) (by decide +kernel)
def C_init : xM := (yX0_init, cX0_init, 1, none, [], 1, 20)
theorem ok_C_init : xMok C_init 0 := ⟨⟨by decide +kernel, (List.mem_of_getElem? (i := 108) (by decide +kernel)), ⟨by decide +kernel, by decide +kernel⟩, by decide +kernel⟩, (List.mem_of_getElem? (i := 138) (by decide +kernel)), rfl⟩
def C_copyFrom : xM := (yX0_copyFrom, cX0_copyFrom, 2, none, [], 1, 22)
theorem ok_C_copyFrom : xMok C_copyFrom 1 := ⟨⟨by decide +kernel, (List.mem_of_getElem? (i := 108) (by decide +kernel)), ⟨by decide +kernel, by decide +kernel⟩, by decide +kernel⟩, (List.mem_of_getElem? (i := 611) (by decide +kernel)), rfl⟩
def C_cellAt : xM := (yX0_cellAt, cX0_cellAt, 3, (some (.int)), [], 1, 21)
theorem ok_C_cellAt : xMok C_cellAt 2 := ⟨⟨by decide +kernel, (List.mem_of_getElem? (i := 108) (by decide +kernel)), ⟨by decide +kernel, by decide +kernel⟩, by decide +kernel⟩, (List.mem_of_getElem? (i := 347) (by decide +kernel)), rfl⟩
def C_putCell : xM := (yX0_putCell, cX0_putCell, 4, none, [], 1, 22)
theorem ok_C_putCell : xMok C_putCell 3 := ⟨⟨by decide +kernel, (List.mem_of_getElem? (i := 108) (by decide +kernel)), ⟨by decide +kernel, by decide +kernel⟩, by decide +kernel⟩, (List.mem_of_getElem? (i := 355) (by decide +kernel)), rfl⟩
def C_placeFor : xM := (yX0_placeFor, cX0_placeFor, 5, (some (.int)), [], 0, 0)
theorem ok_C_placeFor : xMok C_placeFor 3 := ⟨⟨by decide +kernel, (List.mem_of_getElem? (i := 108) (by decide +kernel)), ⟨by decide +kernel, by decide +kernel⟩, by decide +kernel⟩, (List.mem_of_getElem? (i := 308) (by decide +kernel)), rfl⟩
def C_cellsOf : xM := (yX0_cellsOf, cX0_cellsOf, 5, (some (.int)), [], 2, 43)
theorem ok_C_cellsOf : xMok C_cellsOf 1 := ⟨⟨by decide +kernel, (List.mem_of_getElem? (i := 108) (by decide +kernel)), ⟨by decide +kernel, by decide +kernel⟩, by decide +kernel⟩, (List.mem_of_getElem? (i := 394) (by decide +kernel)), rfl⟩
def C_differentColours : xM := (yX0_differentColours, cX0_differentColours, 3, (some (.int)), [], 3, 67)
theorem ok_C_differentColours : xMok C_differentColours 0 := ⟨⟨by decide +kernel, (List.mem_of_getElem? (i := 108) (by decide +kernel)), ⟨by decide +kernel, by decide +kernel⟩, by decide +kernel⟩, (List.mem_of_getElem? (i := 390) (by decide +kernel)), rfl⟩
def C_swapColours : xM := (yX0_swapColours, cX0_swapColours, 7, (some (.int)), [], 2, 45)
theorem ok_C_swapColours : xMok C_swapColours 2 := ⟨⟨by decide +kernel, (List.mem_of_getElem? (i := 108) (by decide +kernel)), ⟨by decide +kernel, by decide +kernel⟩, by decide +kernel⟩, (List.mem_of_getElem? (i := 637) (by decide +kernel)), rfl⟩
def C_canTurn : xM := (yX0_canTurn, cX0_canTurn, 2, (some (.boolean)), [], 0, 0)
theorem ok_C_canTurn : xMok C_canTurn 1 := ⟨⟨by decide +kernel, (List.mem_of_getElem? (i := 108) (by decide +kernel)), ⟨by decide +kernel, by decide +kernel⟩, by decide +kernel⟩, (List.mem_of_getElem? (i := 335) (by decide +kernel)), rfl⟩
def C_turnInto : xM := (yX0_turnInto, cX0_turnInto, 8, none, [], 3, 66)
theorem ok_C_turnInto : xMok C_turnInto 2 := ⟨⟨by decide +kernel, (List.mem_of_getElem? (i := 108) (by decide +kernel)), ⟨by decide +kernel, by decide +kernel⟩, by decide +kernel⟩, (List.mem_of_getElem? (i := 339) (by decide +kernel)), rfl⟩
def C_turnedCell : xM := (yX0_turnedCell, cX0_turnedCell, 4, (some (.int)), [], 2, 43)
theorem ok_C_turnedCell : xMok C_turnedCell 3 := ⟨⟨by decide +kernel, (List.mem_of_getElem? (i := 108) (by decide +kernel)), ⟨by decide +kernel, by decide +kernel⟩, by decide +kernel⟩, (List.mem_of_getElem? (i := 343) (by decide +kernel)), rfl⟩
def H_init : xM := (yX1_init, cX1_init, 2, none, [], 3, 60)
theorem ok_H_init : xMok H_init 0 := ⟨⟨by decide +kernel, (List.mem_of_getElem? (i := 109) (by decide +kernel)), ⟨by decide +kernel, by decide +kernel⟩, by decide +kernel⟩, (List.mem_of_getElem? (i := 205) (by decide +kernel)), rfl⟩
def H_slot : xM := (yX1_slot, cX1_slot, 3, (some (.object "BeadSpirals$Work")), [], 0, 0)
theorem ok_H_slot : xMok H_slot 1 := ⟨⟨by decide +kernel, (List.mem_of_getElem? (i := 109) (by decide +kernel)), ⟨by decide +kernel, by decide +kernel⟩, by decide +kernel⟩, (List.mem_of_getElem? (i := 603) (by decide +kernel)), rfl⟩
def H_save : xM := (yX1_save, cX1_save, 3, none, [], 3, 64)
theorem ok_H_save : xMok H_save 1 := ⟨⟨by decide +kernel, (List.mem_of_getElem? (i := 109) (by decide +kernel)), ⟨by decide +kernel, by decide +kernel⟩, by decide +kernel⟩, (List.mem_of_getElem? (i := 599) (by decide +kernel)), rfl⟩
def H_restore : xM := (yX1_restore, cX1_restore, 2, none, [], 3, 64)
theorem ok_H_restore : xMok H_restore 1 := ⟨⟨by decide +kernel, (List.mem_of_getElem? (i := 109) (by decide +kernel)), ⟨by decide +kernel, by decide +kernel⟩, by decide +kernel⟩, (List.mem_of_getElem? (i := 786) (by decide +kernel)), rfl⟩
def T_init : xM := (yX2_init, cX2_init, 1, none, [], 1, 20)
theorem ok_T_init : xMok T_init 0 := ⟨⟨by decide +kernel, (List.mem_of_getElem? (i := 110) (by decide +kernel)), ⟨by decide +kernel, by decide +kernel⟩, by decide +kernel⟩, (List.mem_of_getElem? (i := 225) (by decide +kernel)), rfl⟩
def T_empty : xM := (yX2_empty, cX2_empty, 1, none, [], 0, 0)
theorem ok_T_empty : xMok T_empty 0 := ⟨⟨by decide +kernel, (List.mem_of_getElem? (i := 110) (by decide +kernel)), ⟨by decide +kernel, by decide +kernel⟩, by decide +kernel⟩, (List.mem_of_getElem? (i := 261) (by decide +kernel)), rfl⟩
def T_errorIndex : xM := (yX2_errorIndex, cX2_errorIndex, 4, (some (.int)), [], 4, 82)
theorem ok_T_errorIndex : xMok T_errorIndex 1 := ⟨⟨by decide +kernel, (List.mem_of_getElem? (i := 110) (by decide +kernel)), ⟨by decide +kernel, by decide +kernel⟩, by decide +kernel⟩, (List.mem_of_getElem? (i := 269) (by decide +kernel)), rfl⟩
def T_isComplete : xM := (yX2_isComplete, cX2_isComplete, 2, (some (.boolean)), [], 5, 105)
theorem ok_T_isComplete : xMok T_isComplete 1 := ⟨⟨by decide +kernel, (List.mem_of_getElem? (i := 110) (by decide +kernel)), ⟨by decide +kernel, by decide +kernel⟩, by decide +kernel⟩, (List.mem_of_getElem? (i := 499) (by decide +kernel)), rfl⟩
def T_stateBehind : xM := (yX2_stateBehind, cX2_stateBehind, 3, (some (.int)), [], 3, 60)
theorem ok_T_stateBehind : xMok T_stateBehind 3 := ⟨⟨by decide +kernel, (List.mem_of_getElem? (i := 110) (by decide +kernel)), ⟨by decide +kernel, by decide +kernel⟩, by decide +kernel⟩, (List.mem_of_getElem? (i := 275) (by decide +kernel)), rfl⟩
def T_stateInPart : xM := (yX2_stateInPart, cX2_stateInPart, 1, (some (.int)), [], 2, 40)
theorem ok_T_stateInPart : xMok T_stateInPart 1 := ⟨⟨by decide +kernel, (List.mem_of_getElem? (i := 110) (by decide +kernel)), ⟨by decide +kernel, by decide +kernel⟩, by decide +kernel⟩, (List.mem_of_getElem? (i := 278) (by decide +kernel)), rfl⟩
def T_stateBehindNumber : xM := (yX2_stateBehindNumber, cX2_stateBehindNumber, 1, (some (.int)), [], 1, 20)
theorem ok_T_stateBehindNumber : xMok T_stateBehindNumber 1 := ⟨⟨by decide +kernel, (List.mem_of_getElem? (i := 110) (by decide +kernel)), ⟨by decide +kernel, by decide +kernel⟩, by decide +kernel⟩, (List.mem_of_getElem? (i := 284) (by decide +kernel)), rfl⟩
def T_isLetter : xM := (yX2_isLetter, cX2_isLetter, 1, (some (.boolean)), [], 0, 0)
theorem ok_T_isLetter : xMok T_isLetter 1 := ⟨⟨by decide +kernel, (List.mem_of_getElem? (i := 110) (by decide +kernel)), ⟨by decide +kernel, by decide +kernel⟩, by decide +kernel⟩, (List.mem_of_getElem? (i := 287) (by decide +kernel)), rfl⟩
def T_isDigit : xM := (yX2_isDigit, cX2_isDigit, 1, (some (.boolean)), [], 0, 0)
theorem ok_T_isDigit : xMok T_isDigit 1 := ⟨⟨by decide +kernel, (List.mem_of_getElem? (i := 110) (by decide +kernel)), ⟨by decide +kernel, by decide +kernel⟩, by decide +kernel⟩, (List.mem_of_getElem? (i := 281) (by decide +kernel)), rfl⟩
def T_readWhole : xM := (yX2_readWhole, cX2_readWhole, 2, (some (.int)), [], 2, 51)
theorem ok_T_readWhole : xMok T_readWhole 1 := ⟨⟨by decide +kernel, (List.mem_of_getElem? (i := 110) (by decide +kernel)), ⟨by decide +kernel, by decide +kernel⟩, by decide +kernel⟩, (List.mem_of_getElem? (i := 727) (by decide +kernel)), rfl⟩
def T_readBeads : xM := (yX2_readBeads, cX2_readBeads, 10, (some (.int)), [], 1, 22)
theorem ok_T_readBeads : xMok T_readBeads 3 := ⟨⟨by decide +kernel, (List.mem_of_getElem? (i := 110) (by decide +kernel)), ⟨by decide +kernel, by decide +kernel⟩, by decide +kernel⟩, (List.mem_of_getElem? (i := 576) (by decide +kernel)), rfl⟩
def T_readChart : xM := (yX2_readChart, cX2_readChart, 9, (some (.boolean)), [], 2, 51)
theorem ok_T_readChart : xMok T_readChart 2 := ⟨⟨by decide +kernel, (List.mem_of_getElem? (i := 110) (by decide +kernel)), ⟨by decide +kernel, by decide +kernel⟩, by decide +kernel⟩, (List.mem_of_getElem? (i := 572) (by decide +kernel)), rfl⟩
def W_init : xM := (yX3_init, cX3_init, 1, none, [], 2, 40)
theorem ok_W_init : xMok W_init 0 := ⟨⟨by decide +kernel, (List.mem_of_getElem? (i := 107) (by decide +kernel)), ⟨by decide +kernel, by decide +kernel⟩, by decide +kernel⟩, (List.mem_of_getElem? (i := 132) (by decide +kernel)), rfl⟩
def W_copyFrom : xM := (yX3_copyFrom, cX3_copyFrom, 2, none, [], 2, 43)
theorem ok_W_copyFrom : xMok W_copyFrom 1 := ⟨⟨by decide +kernel, (List.mem_of_getElem? (i := 107) (by decide +kernel)), ⟨by decide +kernel, by decide +kernel⟩, by decide +kernel⟩, (List.mem_of_getElem? (i := 607) (by decide +kernel)), rfl⟩
def W_patternColour : xM := (yX3_patternColour, cX3_patternColour, 3, (some (.int)), [], 1, 24)
theorem ok_W_patternColour : xMok W_patternColour 1 := ⟨⟨by decide +kernel, (List.mem_of_getElem? (i := 107) (by decide +kernel)), ⟨by decide +kernel, by decide +kernel⟩, by decide +kernel⟩, (List.mem_of_getElem? (i := 304) (by decide +kernel)), rfl⟩
def W_patternNumber : xM := (yX3_patternNumber, cX3_patternNumber, 5, (some (.int)), [], 1, 24)
theorem ok_W_patternNumber : xMok W_patternNumber 2 := ⟨⟨by decide +kernel, (List.mem_of_getElem? (i := 107) (by decide +kernel)), ⟨by decide +kernel, by decide +kernel⟩, by decide +kernel⟩, (List.mem_of_getElem? (i := 806) (by decide +kernel)), rfl⟩
def W_isWrong : xM := (yX3_isWrong, cX3_isWrong, 2, (some (.boolean)), [], 2, 46)
theorem ok_W_isWrong : xMok W_isWrong 1 := ⟨⟨by decide +kernel, (List.mem_of_getElem? (i := 107) (by decide +kernel)), ⟨by decide +kernel, by decide +kernel⟩, by decide +kernel⟩, (List.mem_of_getElem? (i := 299) (by decide +kernel)), rfl⟩
def W_wrongBetween : xM := (yX3_wrongBetween, cX3_wrongBetween, 5, (some (.int)), [], 3, 67)
theorem ok_W_wrongBetween : xMok W_wrongBetween 2 := ⟨⟨by decide +kernel, (List.mem_of_getElem? (i := 107) (by decide +kernel)), ⟨by decide +kernel, by decide +kernel⟩, by decide +kernel⟩, (List.mem_of_getElem? (i := 366) (by decide +kernel)), rfl⟩
def W_wrongOf : xM := (yX3_wrongOf, cX3_wrongOf, 4, (some (.int)), [], 3, 67)
theorem ok_W_wrongOf : xMok W_wrongOf 1 := ⟨⟨by decide +kernel, (List.mem_of_getElem? (i := 107) (by decide +kernel)), ⟨by decide +kernel, by decide +kernel⟩, by decide +kernel⟩, (List.mem_of_getElem? (i := 434) (by decide +kernel)), rfl⟩
def W_endOf : xM := (yX3_endOf, cX3_endOf, 2, (some (.int)), [], 1, 21)
theorem ok_W_endOf : xMok W_endOf 1 := ⟨⟨by decide +kernel, (List.mem_of_getElem? (i := 107) (by decide +kernel)), ⟨by decide +kernel, by decide +kernel⟩, by decide +kernel⟩, (List.mem_of_getElem? (i := 406) (by decide +kernel)), rfl⟩
def W_lengthOf : xM := (yX3_lengthOf, cX3_lengthOf, 2, (some (.int)), [], 2, 42)
theorem ok_W_lengthOf : xMok W_lengthOf 1 := ⟨⟨by decide +kernel, (List.mem_of_getElem? (i := 107) (by decide +kernel)), ⟨by decide +kernel, by decide +kernel⟩, by decide +kernel⟩, (List.mem_of_getElem? (i := 402) (by decide +kernel)), rfl⟩
def W_stringOf : xM := (yX3_stringOf, cX3_stringOf, 3, (some (.int)), [], 1, 21)
theorem ok_W_stringOf : xMok W_stringOf 1 := ⟨⟨by decide +kernel, (List.mem_of_getElem? (i := 107) (by decide +kernel)), ⟨by decide +kernel, by decide +kernel⟩, by decide +kernel⟩, (List.mem_of_getElem? (i := 450) (by decide +kernel)), rfl⟩
def W_isHidden : xM := (yX3_isHidden, cX3_isHidden, 2, (some (.boolean)), [], 2, 46)
theorem ok_W_isHidden : xMok W_isHidden 1 := ⟨⟨by decide +kernel, (List.mem_of_getElem? (i := 107) (by decide +kernel)), ⟨by decide +kernel, by decide +kernel⟩, by decide +kernel⟩, (List.mem_of_getElem? (i := 383) (by decide +kernel)), rfl⟩
def W_openKnots : xM := (yX3_openKnots, cX3_openKnots, 3, (some (.int)), [], 3, 67)
theorem ok_W_openKnots : xMok W_openKnots 0 := ⟨⟨by decide +kernel, (List.mem_of_getElem? (i := 107) (by decide +kernel)), ⟨by decide +kernel, by decide +kernel⟩, by decide +kernel⟩, (List.mem_of_getElem? (i := 379) (by decide +kernel)), rfl⟩
def W_room : xM := (yX3_room, cX3_room, 1, (some (.int)), [], 3, 63)
theorem ok_W_room : xMok W_room 0 := ⟨⟨by decide +kernel, (List.mem_of_getElem? (i := 107) (by decide +kernel)), ⟨by decide +kernel, by decide +kernel⟩, by decide +kernel⟩, (List.mem_of_getElem? (i := 398) (by decide +kernel)), rfl⟩
def W_beadNumber : xM := (yX3_beadNumber, cX3_beadNumber, 3, (some (.int)), [], 3, 67)
theorem ok_W_beadNumber : xMok W_beadNumber 2 := ⟨⟨by decide +kernel, (List.mem_of_getElem? (i := 107) (by decide +kernel)), ⟨by decide +kernel, by decide +kernel⟩, by decide +kernel⟩, (List.mem_of_getElem? (i := 446) (by decide +kernel)), rfl⟩
def W_stringNumber : xM := (yX3_stringNumber, cX3_stringNumber, 3, (some (.int)), [], 4, 91)
theorem ok_W_stringNumber : xMok W_stringNumber 2 := ⟨⟨by decide +kernel, (List.mem_of_getElem? (i := 107) (by decide +kernel)), ⟨by decide +kernel, by decide +kernel⟩, by decide +kernel⟩, (List.mem_of_getElem? (i := 458) (by decide +kernel)), rfl⟩
def W_colourNumber : xM := (yX3_colourNumber, cX3_colourNumber, 3, (some (.int)), [], 4, 90)
theorem ok_W_colourNumber : xMok W_colourNumber 2 := ⟨⟨by decide +kernel, (List.mem_of_getElem? (i := 107) (by decide +kernel)), ⟨by decide +kernel, by decide +kernel⟩, by decide +kernel⟩, (List.mem_of_getElem? (i := 426) (by decide +kernel)), rfl⟩
def W_canTake : xM := (yX3_canTake, cX3_canTake, 4, (some (.boolean)), [], 4, 83)
theorem ok_W_canTake : xMok W_canTake 2 := ⟨⟨by decide +kernel, (List.mem_of_getElem? (i := 107) (by decide +kernel)), ⟨by decide +kernel, by decide +kernel⟩, by decide +kernel⟩, (List.mem_of_getElem? (i := 698) (by decide +kernel)), rfl⟩
def W_takeOn : xM := (yX3_takeOn, cX3_takeOn, 5, none, [], 2, 44)
theorem ok_W_takeOn : xMok W_takeOn 2 := ⟨⟨by decide +kernel, (List.mem_of_getElem? (i := 107) (by decide +kernel)), ⟨by decide +kernel, by decide +kernel⟩, by decide +kernel⟩, (List.mem_of_getElem? (i := 704) (by decide +kernel)), rfl⟩
def W_takeOff : xM := (yX3_takeOff, cX3_takeOff, 5, none, [], 2, 44)
theorem ok_W_takeOff : xMok W_takeOff 1 := ⟨⟨by decide +kernel, (List.mem_of_getElem? (i := 107) (by decide +kernel)), ⟨by decide +kernel, by decide +kernel⟩, by decide +kernel⟩, (List.mem_of_getElem? (i := 765) (by decide +kernel)), rfl⟩
def W_crushBead : xM := (yX3_crushBead, cX3_crushBead, 5, none, [], 3, 63)
theorem ok_W_crushBead : xMok W_crushBead 1 := ⟨⟨by decide +kernel, (List.mem_of_getElem? (i := 107) (by decide +kernel)), ⟨by decide +kernel, by decide +kernel⟩, by decide +kernel⟩, (List.mem_of_getElem? (i := 753) (by decide +kernel)), rfl⟩
def W_neededBeads : xM := (yX3_neededBeads, cX3_neededBeads, 5, (some (.int)), [], 2, 46)
theorem ok_W_neededBeads : xMok W_neededBeads 2 := ⟨⟨by decide +kernel, (List.mem_of_getElem? (i := 107) (by decide +kernel)), ⟨by decide +kernel, by decide +kernel⟩, by decide +kernel⟩, (List.mem_of_getElem? (i := 438) (by decide +kernel)), rfl⟩
def W_plannedNumber : xM := (yX3_plannedNumber, cX3_plannedNumber, 8, (some (.int)), [], 3, 69)
theorem ok_W_plannedNumber : xMok W_plannedNumber 2 := ⟨⟨by decide +kernel, (List.mem_of_getElem? (i := 107) (by decide +kernel)), ⟨by decide +kernel, by decide +kernel⟩, by decide +kernel⟩, (List.mem_of_getElem? (i := 467) (by decide +kernel)), rfl⟩
def W_lastHiddenPlace : xM := (yX3_lastHiddenPlace, cX3_lastHiddenPlace, 4, (some (.int)), [], 2, 46)
theorem ok_W_lastHiddenPlace : xMok W_lastHiddenPlace 2 := ⟨⟨by decide +kernel, (List.mem_of_getElem? (i := 107) (by decide +kernel)), ⟨by decide +kernel, by decide +kernel⟩, by decide +kernel⟩, (List.mem_of_getElem? (i := 471) (by decide +kernel)), rfl⟩
def W_firstWrongBead : xM := (yX3_firstWrongBead, cX3_firstWrongBead, 2, (some (.int)), [], 3, 67)
theorem ok_W_firstWrongBead : xMok W_firstWrongBead 0 := ⟨⟨by decide +kernel, (List.mem_of_getElem? (i := 107) (by decide +kernel)), ⟨by decide +kernel, by decide +kernel⟩, by decide +kernel⟩, (List.mem_of_getElem? (i := 295) (by decide +kernel)), rfl⟩
def W_rightByCrushing : xM := (yX3_rightByCrushing, cX3_rightByCrushing, 3, (some (.int)), [], 2, 46)
theorem ok_W_rightByCrushing : xMok W_rightByCrushing 0 := ⟨⟨by decide +kernel, (List.mem_of_getElem? (i := 107) (by decide +kernel)), ⟨by decide +kernel, by decide +kernel⟩, by decide +kernel⟩, (List.mem_of_getElem? (i := 316) (by decide +kernel)), rfl⟩
def W_wrongBeadsBy : xM := (yX3_wrongBeadsBy, cX3_wrongBeadsBy, 6, (some (.int)), [], 1, 24)
theorem ok_W_wrongBeadsBy : xMok W_wrongBeadsBy 2 := ⟨⟨by decide +kernel, (List.mem_of_getElem? (i := 107) (by decide +kernel)), ⟨by decide +kernel, by decide +kernel⟩, by decide +kernel⟩, (List.mem_of_getElem? (i := 327) (by decide +kernel)), rfl⟩
def B_init : xM := (yX4_init, cX4_init, 1, none, [], 4, 81)
theorem ok_B_init : xMok B_init 0 := ⟨⟨by decide +kernel, (List.mem_of_getElem? (i := 106) (by decide +kernel)), ⟨by decide +kernel, by decide +kernel⟩, by decide +kernel⟩, (List.mem_of_getElem? (i := 124) (by decide +kernel)), rfl⟩
def B_load : xM := (yX4_load, cX4_load, 1, (some (.int)), [], 6, 126)
theorem ok_B_load : xMok B_load 0 := ⟨⟨by decide +kernel, (List.mem_of_getElem? (i := 106) (by decide +kernel)), ⟨by decide +kernel, by decide +kernel⟩, by decide +kernel⟩, (List.mem_of_getElem? (i := 495) (by decide +kernel)), rfl⟩
def B_turn : xM := (yX4_turn, cX4_turn, 2, (some (.int)), [], 6, 93)
theorem ok_B_turn : xMok B_turn 1 := ⟨⟨by decide +kernel, (List.mem_of_getElem? (i := 106) (by decide +kernel)), ⟨by decide +kernel, by decide +kernel⟩, by decide +kernel⟩, (List.mem_of_getElem? (i := 620) (by decide +kernel)), rfl⟩
def B_recolour : xM := (yX4_recolour, cX4_recolour, 3, (some (.int)), [], 6, 90)
theorem ok_B_recolour : xMok B_recolour 2 := ⟨⟨by decide +kernel, (List.mem_of_getElem? (i := 106) (by decide +kernel)), ⟨by decide +kernel, by decide +kernel⟩, by decide +kernel⟩, (List.mem_of_getElem? (i := 629) (by decide +kernel)), rfl⟩
def B_set : xM := (yX4_set, cX4_set, 4, (some (.int)), [], 6, 90)
theorem ok_B_set : xMok B_set 2 := ⟨⟨by decide +kernel, (List.mem_of_getElem? (i := 106) (by decide +kernel)), ⟨by decide +kernel, by decide +kernel⟩, by decide +kernel⟩, (List.mem_of_getElem? (i := 645) (by decide +kernel)), rfl⟩
def B_buy : xM := (yX4_buy, cX4_buy, 3, (some (.int)), [], 6, 90)
theorem ok_B_buy : xMok B_buy 2 := ⟨⟨by decide +kernel, (List.mem_of_getElem? (i := 106) (by decide +kernel)), ⟨by decide +kernel, by decide +kernel⟩, by decide +kernel⟩, (List.mem_of_getElem? (i := 675) (by decide +kernel)), rfl⟩
def B_string : xM := (yX4_string, cX4_string, 4, (some (.int)), [], 7, 127)
theorem ok_B_string : xMok B_string 2 := ⟨⟨by decide +kernel, (List.mem_of_getElem? (i := 106) (by decide +kernel)), ⟨by decide +kernel, by decide +kernel⟩, by decide +kernel⟩, (List.mem_of_getElem? (i := 687) (by decide +kernel)), rfl⟩
def B_stringNext : xM := (yX4_stringNext, cX4_stringNext, 3, (some (.int)), [], 7, 127)
theorem ok_B_stringNext : xMok B_stringNext 1 := ⟨⟨by decide +kernel, (List.mem_of_getElem? (i := 106) (by decide +kernel)), ⟨by decide +kernel, by decide +kernel⟩, by decide +kernel⟩, (List.mem_of_getElem? (i := 713) (by decide +kernel)), rfl⟩
def B_stringRow : xM := (yX4_stringRow, cX4_stringRow, 2, (some (.int)), [], 7, 127)
theorem ok_B_stringRow : xMok B_stringRow 0 := ⟨⟨by decide +kernel, (List.mem_of_getElem? (i := 106) (by decide +kernel)), ⟨by decide +kernel, by decide +kernel⟩, by decide +kernel⟩, (List.mem_of_getElem? (i := 722) (by decide +kernel)), rfl⟩
def B_join : xM := (yX4_join, cX4_join, 1, (some (.int)), [], 6, 90)
theorem ok_B_join : xMok B_join 0 := ⟨⟨by decide +kernel, (List.mem_of_getElem? (i := 106) (by decide +kernel)), ⟨by decide +kernel, by decide +kernel⟩, by decide +kernel⟩, (List.mem_of_getElem? (i := 734) (by decide +kernel)), rfl⟩
def B_crush : xM := (yX4_crush, cX4_crush, 2, (some (.int)), [], 6, 90)
theorem ok_B_crush : xMok B_crush 1 := ⟨⟨by decide +kernel, (List.mem_of_getElem? (i := 106) (by decide +kernel)), ⟨by decide +kernel, by decide +kernel⟩, by decide +kernel⟩, (List.mem_of_getElem? (i := 744) (by decide +kernel)), rfl⟩
def B_unpick : xM := (yX4_unpick, cX4_unpick, 2, (some (.int)), [], 6, 90)
theorem ok_B_unpick : xMok B_unpick 1 := ⟨⟨by decide +kernel, (List.mem_of_getElem? (i := 106) (by decide +kernel)), ⟨by decide +kernel, by decide +kernel⟩, by decide +kernel⟩, (List.mem_of_getElem? (i := 760) (by decide +kernel)), rfl⟩
def B_append : xM := (yX4_append, cX4_append, 2, (some (.int)), [], 6, 90)
theorem ok_B_append : xMok B_append 1 := ⟨⟨by decide +kernel, (List.mem_of_getElem? (i := 106) (by decide +kernel)), ⟨by decide +kernel, by decide +kernel⟩, by decide +kernel⟩, (List.mem_of_getElem? (i := 772) (by decide +kernel)), rfl⟩
def B_clearBuffer : xM := (yX4_clearBuffer, cX4_clearBuffer, 2, (some (.int)), [], 1, 20)
theorem ok_B_clearBuffer : xMok B_clearBuffer 0 := ⟨⟨by decide +kernel, (List.mem_of_getElem? (i := 106) (by decide +kernel)), ⟨by decide +kernel, by decide +kernel⟩, by decide +kernel⟩, (List.mem_of_getElem? (i := 257) (by decide +kernel)), rfl⟩
def B_firstError : xM := (yX4_firstError, cX4_firstError, 2, (some (.int)), [], 5, 105)
theorem ok_B_firstError : xMok B_firstError 1 := ⟨⟨by decide +kernel, (List.mem_of_getElem? (i := 106) (by decide +kernel)), ⟨by decide +kernel, by decide +kernel⟩, by decide +kernel⟩, (List.mem_of_getElem? (i := 265) (by decide +kernel)), rfl⟩
def B_undo : xM := (yX4_undo, cX4_undo, 1, (some (.int)), [], 6, 90)
theorem ok_B_undo : xMok B_undo 0 := ⟨⟨by decide +kernel, (List.mem_of_getElem? (i := 106) (by decide +kernel)), ⟨by decide +kernel, by decide +kernel⟩, by decide +kernel⟩, (List.mem_of_getElem? (i := 781) (by decide +kernel)), rfl⟩
def B_cell : xM := (yX4_cell, cX4_cell, 3, (some (.int)), [], 6, 90)
theorem ok_B_cell : xMok B_cell 2 := ⟨⟨by decide +kernel, (List.mem_of_getElem? (i := 106) (by decide +kernel)), ⟨by decide +kernel, by decide +kernel⟩, by decide +kernel⟩, (List.mem_of_getElem? (i := 793) (by decide +kernel)), rfl⟩
def B_pattern : xM := (yX4_pattern, cX4_pattern, 3, (some (.int)), [], 6, 90)
theorem ok_B_pattern : xMok B_pattern 2 := ⟨⟨by decide +kernel, (List.mem_of_getElem? (i := 106) (by decide +kernel)), ⟨by decide +kernel, by decide +kernel⟩, by decide +kernel⟩, (List.mem_of_getElem? (i := 801) (by decide +kernel)), rfl⟩
def B_bead : xM := (yX4_bead, cX4_bead, 3, (some (.int)), [], 6, 90)
theorem ok_B_bead : xMok B_bead 2 := ⟨⟨by decide +kernel, (List.mem_of_getElem? (i := 106) (by decide +kernel)), ⟨by decide +kernel, by decide +kernel⟩, by decide +kernel⟩, (List.mem_of_getElem? (i := 816) (by decide +kernel)), rfl⟩
def B_strand : xM := (yX4_strand, cX4_strand, 3, (some (.int)), [], 6, 113)
theorem ok_B_strand : xMok B_strand 2 := ⟨⟨by decide +kernel, (List.mem_of_getElem? (i := 106) (by decide +kernel)), ⟨by decide +kernel, by decide +kernel⟩, by decide +kernel⟩, (List.mem_of_getElem? (i := 824) (by decide +kernel)), rfl⟩
def B_colour : xM := (yX4_colour, cX4_colour, 3, (some (.int)), [], 6, 112)
theorem ok_B_colour : xMok B_colour 2 := ⟨⟨by decide +kernel, (List.mem_of_getElem? (i := 106) (by decide +kernel)), ⟨by decide +kernel, by decide +kernel⟩, by decide +kernel⟩, (List.mem_of_getElem? (i := 832) (by decide +kernel)), rfl⟩
def B_count : xM := (yX4_count, cX4_count, 2, (some (.int)), [], 6, 112)
theorem ok_B_count : xMok B_count 1 := ⟨⟨by decide +kernel, (List.mem_of_getElem? (i := 106) (by decide +kernel)), ⟨by decide +kernel, by decide +kernel⟩, by decide +kernel⟩, (List.mem_of_getElem? (i := 840) (by decide +kernel)), rfl⟩
def B_setting : xM := (yX4_setting, cX4_setting, 2, (some (.int)), [], 6, 90)
theorem ok_B_setting : xMok B_setting 1 := ⟨⟨by decide +kernel, (List.mem_of_getElem? (i := 106) (by decide +kernel)), ⟨by decide +kernel, by decide +kernel⟩, by decide +kernel⟩, (List.mem_of_getElem? (i := 848) (by decide +kernel)), rfl⟩
def B_needed : xM := (yX4_needed, cX4_needed, 3, (some (.int)), [], 6, 90)
theorem ok_B_needed : xMok B_needed 2 := ⟨⟨by decide +kernel, (List.mem_of_getElem? (i := 106) (by decide +kernel)), ⟨by decide +kernel, by decide +kernel⟩, by decide +kernel⟩, (List.mem_of_getElem? (i := 855) (by decide +kernel)), rfl⟩
def B_plan : xM := (yX4_plan, cX4_plan, 3, (some (.int)), [], 6, 96)
theorem ok_B_plan : xMok B_plan 2 := ⟨⟨by decide +kernel, (List.mem_of_getElem? (i := 106) (by decide +kernel)), ⟨by decide +kernel, by decide +kernel⟩, by decide +kernel⟩, (List.mem_of_getElem? (i := 866) (by decide +kernel)), rfl⟩
def B_firstWrong : xM := (yX4_firstWrong, cX4_firstWrong, 1, (some (.int)), [], 4, 88)
theorem ok_B_firstWrong : xMok B_firstWrong 0 := ⟨⟨by decide +kernel, (List.mem_of_getElem? (i := 106) (by decide +kernel)), ⟨by decide +kernel, by decide +kernel⟩, by decide +kernel⟩, (List.mem_of_getElem? (i := 291) (by decide +kernel)), rfl⟩
def B_bestCrush : xM := (yX4_bestCrush, cX4_bestCrush, 1, (some (.int)), [], 3, 68)
theorem ok_B_bestCrush : xMok B_bestCrush 0 := ⟨⟨by decide +kernel, (List.mem_of_getElem? (i := 106) (by decide +kernel)), ⟨by decide +kernel, by decide +kernel⟩, by decide +kernel⟩, (List.mem_of_getElem? (i := 312) (by decide +kernel)), rfl⟩
def B_bestSlant : xM := (yX4_bestSlant, cX4_bestSlant, 5, (some (.int)), [], 2, 49)
theorem ok_B_bestSlant : xMok B_bestSlant 0 := ⟨⟨by decide +kernel, (List.mem_of_getElem? (i := 106) (by decide +kernel)), ⟨by decide +kernel, by decide +kernel⟩, by decide +kernel⟩, (List.mem_of_getElem? (i := 320) (by decide +kernel)), rfl⟩
def B_bestTurn : xM := (yX4_bestTurn, cX4_bestTurn, 6, (some (.int)), [], 4, 93)
theorem ok_B_bestTurn : xMok B_bestTurn 0 := ⟨⟨by decide +kernel, (List.mem_of_getElem? (i := 106) (by decide +kernel)), ⟨by decide +kernel, by decide +kernel⟩, by decide +kernel⟩, (List.mem_of_getElem? (i := 331) (by decide +kernel)), rfl⟩
def B_wrongShare : xM := (yX4_wrongShare, cX4_wrongShare, 1, (some (.double)), [], 4, 91)
theorem ok_B_wrongShare : xMok B_wrongShare 0 := ⟨⟨by decide +kernel, (List.mem_of_getElem? (i := 106) (by decide +kernel)), ⟨by decide +kernel, by decide +kernel⟩, by decide +kernel⟩, (List.mem_of_getElem? (i := 362) (by decide +kernel)), rfl⟩
def B_digest : xM := (yX4_digest, cX4_digest, 4, (some (.long)), [], 6, 139)
theorem ok_B_digest : xMok B_digest 0 := ⟨⟨by decide +kernel, (List.mem_of_getElem? (i := 106) (by decide +kernel)), ⟨by decide +kernel, by decide +kernel⟩, by decide +kernel⟩, (List.mem_of_getElem? (i := 370) (by decide +kernel)), rfl⟩
def B_stringFresh : xM := (yX4_stringFresh, cX4_stringFresh, 2, (some (.int)), [], 6, 106)
theorem ok_B_stringFresh : xMok B_stringFresh 1 := ⟨⟨by decide +kernel, (List.mem_of_getElem? (i := 106) (by decide +kernel)), ⟨by decide +kernel, by decide +kernel⟩, by decide +kernel⟩, (List.mem_of_getElem? (i := 694) (by decide +kernel)), rfl⟩
def B_numberOf : xM := (yX4_numberOf, cX4_numberOf, 2, (some (.int)), [], 4, 91)
theorem ok_B_numberOf : xMok B_numberOf 1 := ⟨⟨by decide +kernel, (List.mem_of_getElem? (i := 106) (by decide +kernel)), ⟨by decide +kernel, by decide +kernel⟩, by decide +kernel⟩, (List.mem_of_getElem? (i := 375) (by decide +kernel)), rfl⟩
def B_isStrung : xM := (yX4_isStrung, cX4_isStrung, 2, (some (.boolean)), [], 0, 0)
theorem ok_B_isStrung : xMok B_isStrung 1 := ⟨⟨by decide +kernel, (List.mem_of_getElem? (i := 106) (by decide +kernel)), ⟨by decide +kernel, by decide +kernel⟩, by decide +kernel⟩, (List.mem_of_getElem? (i := 748) (by decide +kernel)), rfl⟩
def B_isColour : xM := (yX4_isColour, cX4_isColour, 1, (some (.boolean)), [], 0, 0)
theorem ok_B_isColour : xMok B_isColour 1 := ⟨⟨by decide +kernel, (List.mem_of_getElem? (i := 106) (by decide +kernel)), ⟨by decide +kernel, by decide +kernel⟩, by decide +kernel⟩, (List.mem_of_getElem? (i := 632) (by decide +kernel)), rfl⟩
def B_isSetting : xM := (yX4_isSetting, cX4_isSetting, 1, (some (.boolean)), [], 0, 0)
theorem ok_B_isSetting : xMok B_isSetting 1 := ⟨⟨by decide +kernel, (List.mem_of_getElem? (i := 106) (by decide +kernel)), ⟨by decide +kernel, by decide +kernel⟩, by decide +kernel⟩, (List.mem_of_getElem? (i := 648) (by decide +kernel)), rfl⟩
def B_isTotal : xM := (yX4_isTotal, cX4_isTotal, 1, (some (.boolean)), [], 0, 0)
theorem ok_B_isTotal : xMok B_isTotal 1 := ⟨⟨by decide +kernel, (List.mem_of_getElem? (i := 106) (by decide +kernel)), ⟨by decide +kernel, by decide +kernel⟩, by decide +kernel⟩, (List.mem_of_getElem? (i := 858) (by decide +kernel)), rfl⟩
def B_canBeStrungAtOnce : xM := (yX4_canBeStrungAtOnce, cX4_canBeStrungAtOnce, 1, (some (.boolean)), [], 0, 0)
theorem ok_B_canBeStrungAtOnce : xMok B_canBeStrungAtOnce 1 := ⟨⟨by decide +kernel, (List.mem_of_getElem? (i := 106) (by decide +kernel)), ⟨by decide +kernel, by decide +kernel⟩, by decide +kernel⟩, (List.mem_of_getElem? (i := 690) (by decide +kernel)), rfl⟩
def B_mixed : xM := (yX4_mixed, cX4_mixed, 4, (some (.long)), [], 0, 0)
theorem ok_B_mixed : xMok B_mixed 2 := ⟨⟨by decide +kernel, (List.mem_of_getElem? (i := 106) (by decide +kernel)), ⟨by decide +kernel, by decide +kernel⟩, by decide +kernel⟩, (List.mem_of_getElem? (i := 412) (by decide +kernel)), rfl⟩
def B_hashOfCells : xM := (yX4_hashOfCells, cX4_hashOfCells, 7, (some (.long)), [], 2, 43)
theorem ok_B_hashOfCells : xMok B_hashOfCells 1 := ⟨⟨by decide +kernel, (List.mem_of_getElem? (i := 106) (by decide +kernel)), ⟨by decide +kernel, by decide +kernel⟩, by decide +kernel⟩, (List.mem_of_getElem? (i := 417) (by decide +kernel)), rfl⟩
def B_hashOfColours : xM := (yX4_hashOfColours, cX4_hashOfColours, 7, (some (.long)), [], 5, 112)
theorem ok_B_hashOfColours : xMok B_hashOfColours 1 := ⟨⟨by decide +kernel, (List.mem_of_getElem? (i := 106) (by decide +kernel)), ⟨by decide +kernel, by decide +kernel⟩, by decide +kernel⟩, (List.mem_of_getElem? (i := 422) (by decide +kernel)), rfl⟩
def B_hashOfBeads : xM := (yX4_hashOfBeads, cX4_hashOfBeads, 7, (some (.long)), [], 4, 89)
theorem ok_B_hashOfBeads : xMok B_hashOfBeads 1 := ⟨⟨by decide +kernel, (List.mem_of_getElem? (i := 106) (by decide +kernel)), ⟨by decide +kernel, by decide +kernel⟩, by decide +kernel⟩, (List.mem_of_getElem? (i := 442) (by decide +kernel)), rfl⟩
def B_hashOfStrings : xM := (yX4_hashOfStrings, cX4_hashOfStrings, 7, (some (.long)), [], 5, 113)
theorem ok_B_hashOfStrings : xMok B_hashOfStrings 1 := ⟨⟨by decide +kernel, (List.mem_of_getElem? (i := 106) (by decide +kernel)), ⟨by decide +kernel, by decide +kernel⟩, by decide +kernel⟩, (List.mem_of_getElem? (i := 454) (by decide +kernel)), rfl⟩
def B_hashOfPlans : xM := (yX4_hashOfPlans, cX4_hashOfPlans, 6, (some (.long)), [], 4, 96)
theorem ok_B_hashOfPlans : xMok B_hashOfPlans 1 := ⟨⟨by decide +kernel, (List.mem_of_getElem? (i := 106) (by decide +kernel)), ⟨by decide +kernel, by decide +kernel⟩, by decide +kernel⟩, (List.mem_of_getElem? (i := 463) (by decide +kernel)), rfl⟩
def B_hashOfBuffer : xM := (yX4_hashOfBuffer, cX4_hashOfBuffer, 6, (some (.long)), [], 1, 23)
theorem ok_B_hashOfBuffer : xMok B_hashOfBuffer 1 := ⟨⟨by decide +kernel, (List.mem_of_getElem? (i := 106) (by decide +kernel)), ⟨by decide +kernel, by decide +kernel⟩, by decide +kernel⟩, (List.mem_of_getElem? (i := 486) (by decide +kernel)), rfl⟩
def B_bitsOf : xM := (yX4_bitsOf, cX4_bitsOf, 7, (some (.long)), [], 0, 0)
theorem ok_B_bitsOf : xMok B_bitsOf 1 := ⟨⟨by decide +kernel, (List.mem_of_getElem? (i := 106) (by decide +kernel)), ⟨by decide +kernel, by decide +kernel⟩, by decide +kernel⟩, (List.mem_of_getElem? (i := 479) (by decide +kernel)), rfl⟩
def B_at : xM := (yX4_at, cX4_at, 2, (some (.int)), [], 0, 0)
theorem ok_B_at : xMok B_at 2 := ⟨⟨by decide +kernel, (List.mem_of_getElem? (i := 106) (by decide +kernel)), ⟨by decide +kernel, by decide +kernel⟩, by decide +kernel⟩, (List.mem_of_getElem? (i := 272) (by decide +kernel)), rfl⟩
def B_put : xM := (yX4_put, cX4_put, 3, none, [], 0, 0)
theorem ok_B_put : xMok B_put 3 := ⟨⟨by decide +kernel, (List.mem_of_getElem? (i := 106) (by decide +kernel)), ⟨by decide +kernel, by decide +kernel⟩, by decide +kernel⟩, (List.mem_of_getElem? (i := 358) (by decide +kernel)), rfl⟩
def B_add : xM := (yX4_add, cX4_add, 3, none, [], 1, 22)
theorem ok_B_add : xMok B_add 3 := ⟨⟨by decide +kernel, (List.mem_of_getElem? (i := 106) (by decide +kernel)), ⟨by decide +kernel, by decide +kernel⟩, by decide +kernel⟩, (List.mem_of_getElem? (i := 680) (by decide +kernel)), rfl⟩
def B_copy : xM := (yX4_copy, cX4_copy, 3, none, [], 0, 0)
theorem ok_B_copy : xMok B_copy 2 := ⟨⟨by decide +kernel, (List.mem_of_getElem? (i := 106) (by decide +kernel)), ⟨by decide +kernel, by decide +kernel⟩, by decide +kernel⟩, (List.mem_of_getElem? (i := 160) (by decide +kernel)), rfl⟩
def B_sum : xM := (yX4_sum, cX4_sum, 3, (some (.int)), [], 0, 0)
theorem ok_B_sum : xMok B_sum 1 := ⟨⟨by decide +kernel, (List.mem_of_getElem? (i := 106) (by decide +kernel)), ⟨by decide +kernel, by decide +kernel⟩, by decide +kernel⟩, (List.mem_of_getElem? (i := 386) (by decide +kernel)), rfl⟩
def B_occurrences : xM := (yX4_occurrences, cX4_occurrences, 5, (some (.int)), [], 1, 21)
theorem ok_B_occurrences : xMok B_occurrences 3 := ⟨⟨by decide +kernel, (List.mem_of_getElem? (i := 106) (by decide +kernel)), ⟨by decide +kernel, by decide +kernel⟩, by decide +kernel⟩, (List.mem_of_getElem? (i := 429) (by decide +kernel)), rfl⟩
def B_quotient : xM := (yX4_quotient, cX4_quotient, 2, (some (.int)), [], 0, 0)
theorem ok_B_quotient : xMok B_quotient 2 := ⟨⟨by decide +kernel, (List.mem_of_getElem? (i := 106) (by decide +kernel)), ⟨by decide +kernel, by decide +kernel⟩, by decide +kernel⟩, (List.mem_of_getElem? (i := 809) (by decide +kernel)), rfl⟩
def B_remainder : xM := (yX4_remainder, cX4_remainder, 2, (some (.int)), [], 0, 0)
theorem ok_B_remainder : xMok B_remainder 2 := ⟨⟨by decide +kernel, (List.mem_of_getElem? (i := 106) (by decide +kernel)), ⟨by decide +kernel, by decide +kernel⟩, by decide +kernel⟩, (List.mem_of_getElem? (i := 351) (by decide +kernel)), rfl⟩
def M_init : xM := (yX5_init, cX5_init, 1, none, [], 1, 20)
theorem ok_M_init : xMok M_init 0 := ⟨⟨by decide +kernel, (List.mem_of_getElem? (i := 111) (by decide +kernel)), ⟨by decide +kernel, by decide +kernel⟩, by decide +kernel⟩, (List.mem_of_getElem? (i := 872) (by decide +kernel)), rfl⟩
def M_thrown : xM := (yX5_thrown, cX5_thrown, 1, (some (.int)), [], 0, 0)
theorem ok_M_thrown : xMok M_thrown 0 := ⟨⟨by decide +kernel, (List.mem_of_getElem? (i := 111) (by decide +kernel)), ⟨by decide +kernel, by decide +kernel⟩, by decide +kernel⟩, (List.mem_of_getElem? (i := 938) (by decide +kernel)), rfl⟩
def M_within : xM := (yX5_within, cX5_within, 3, (some (.boolean)), [], 0, 0)
theorem ok_M_within : xMok M_within 3 := ⟨⟨by decide +kernel, (List.mem_of_getElem? (i := 111) (by decide +kernel)), ⟨by decide +kernel, by decide +kernel⟩, by decide +kernel⟩, (List.mem_of_getElem? (i := 957) (by decide +kernel)), rfl⟩
def M_save : xM := (yX5_save, cX5_save, 2, none, [], 0, 0)
theorem ok_M_save : xMok M_save 0 := ⟨⟨by decide +kernel, (List.mem_of_getElem? (i := 111) (by decide +kernel)), ⟨by decide +kernel, by decide +kernel⟩, by decide +kernel⟩, (List.mem_of_getElem? (i := 980) (by decide +kernel)), rfl⟩
def M_isColour : xM := (yX5_isColour, cX5_isColour, 1, (some (.boolean)), [], 1, 22)
theorem ok_M_isColour : xMok M_isColour 1 := ⟨⟨by decide +kernel, (List.mem_of_getElem? (i := 111) (by decide +kernel)), ⟨by decide +kernel, by decide +kernel⟩, by decide +kernel⟩, (List.mem_of_getElem? (i := 968) (by decide +kernel)), rfl⟩
def M_chartAt : xM := (yX5_chartAt, cX5_chartAt, 3, (some (.int)), [], 0, 0)
theorem ok_M_chartAt : xMok M_chartAt 2 := ⟨⟨by decide +kernel, (List.mem_of_getElem? (i := 111) (by decide +kernel)), ⟨by decide +kernel, by decide +kernel⟩, by decide +kernel⟩, (List.mem_of_getElem? (i := 1000) (by decide +kernel)), rfl⟩
def M_roundOf : xM := (yX5_roundOf, cX5_roundOf, 2, (some (.int)), [], 0, 0)
theorem ok_M_roundOf : xMok M_roundOf 1 := ⟨⟨by decide +kernel, (List.mem_of_getElem? (i := 111) (by decide +kernel)), ⟨by decide +kernel, by decide +kernel⟩, by decide +kernel⟩, (List.mem_of_getElem? (i := 1058) (by decide +kernel)), rfl⟩
def M_rowOf : xM := (yX5_rowOf, cX5_rowOf, 2, (some (.int)), [], 1, 21)
theorem ok_M_rowOf : xMok M_rowOf 1 := ⟨⟨by decide +kernel, (List.mem_of_getElem? (i := 111) (by decide +kernel)), ⟨by decide +kernel, by decide +kernel⟩, by decide +kernel⟩, (List.mem_of_getElem? (i := 1054) (by decide +kernel)), rfl⟩
def M_columnOf : xM := (yX5_columnOf, cX5_columnOf, 2, (some (.int)), [], 1, 21)
theorem ok_M_columnOf : xMok M_columnOf 1 := ⟨⟨by decide +kernel, (List.mem_of_getElem? (i := 111) (by decide +kernel)), ⟨by decide +kernel, by decide +kernel⟩, by decide +kernel⟩, (List.mem_of_getElem? (i := 1062) (by decide +kernel)), rfl⟩
def M_colourOf : xM := (yX5_colourOf, cX5_colourOf, 2, (some (.int)), [], 2, 42)
theorem ok_M_colourOf : xMok M_colourOf 1 := ⟨⟨by decide +kernel, (List.mem_of_getElem? (i := 111) (by decide +kernel)), ⟨by decide +kernel, by decide +kernel⟩, by decide +kernel⟩, (List.mem_of_getElem? (i := 1050) (by decide +kernel)), rfl⟩
def M_hides : xM := (yX5_hides, cX5_hides, 2, (some (.boolean)), [], 3, 63)
theorem ok_M_hides : xMok M_hides 1 := ⟨⟨by decide +kernel, (List.mem_of_getElem? (i := 111) (by decide +kernel)), ⟨by decide +kernel, by decide +kernel⟩, by decide +kernel⟩, (List.mem_of_getElem? (i := 1074) (by decide +kernel)), rfl⟩
def M_isWrong : xM := (yX5_isWrong, cX5_isWrong, 2, (some (.boolean)), [], 3, 63)
theorem ok_M_isWrong : xMok M_isWrong 1 := ⟨⟨by decide +kernel, (List.mem_of_getElem? (i := 111) (by decide +kernel)), ⟨by decide +kernel, by decide +kernel⟩, by decide +kernel⟩, (List.mem_of_getElem? (i := 1130) (by decide +kernel)), rfl⟩
def M_wrongFrom : xM := (yX5_wrongFrom, cX5_wrongFrom, 5, (some (.int)), [], 4, 84)
theorem ok_M_wrongFrom : xMok M_wrongFrom 2 := ⟨⟨by decide +kernel, (List.mem_of_getElem? (i := 111) (by decide +kernel)), ⟨by decide +kernel, by decide +kernel⟩, by decide +kernel⟩, (List.mem_of_getElem? (i := 1142) (by decide +kernel)), rfl⟩
def M_wrongs : xM := (yX5_wrongs, cX5_wrongs, 1, (some (.int)), [], 5, 108)
theorem ok_M_wrongs : xMok M_wrongs 0 := ⟨⟨by decide +kernel, (List.mem_of_getElem? (i := 111) (by decide +kernel)), ⟨by decide +kernel, by decide +kernel⟩, by decide +kernel⟩, (List.mem_of_getElem? (i := 1170) (by decide +kernel)), rfl⟩
def M_takeOther : xM := (yX5_takeOther, cX5_takeOther, 3, none, [], 0, 0)
theorem ok_M_takeOther : xMok M_takeOther 0 := ⟨⟨by decide +kernel, (List.mem_of_getElem? (i := 111) (by decide +kernel)), ⟨by decide +kernel, by decide +kernel⟩, by decide +kernel⟩, (List.mem_of_getElem? (i := 984) (by decide +kernel)), rfl⟩
def M_load : xM := (yX5_load, cX5_load, 2, (some (.int)), [], 5, 109)
theorem ok_M_load : xMok M_load 0 := ⟨⟨by decide +kernel, (List.mem_of_getElem? (i := 111) (by decide +kernel)), ⟨by decide +kernel, by decide +kernel⟩, by decide +kernel⟩, (List.mem_of_getElem? (i := 942) (by decide +kernel)), rfl⟩
def M_layTurned : xM := (yX5_layTurned, cX5_layTurned, 6, none, [], 1, 22)
theorem ok_M_layTurned : xMok M_layTurned 1 := ⟨⟨by decide +kernel, (List.mem_of_getElem? (i := 111) (by decide +kernel)), ⟨by decide +kernel, by decide +kernel⟩, by decide +kernel⟩, (List.mem_of_getElem? (i := 996) (by decide +kernel)), rfl⟩
def M_canTurn : xM := (yX5_canTurn, cX5_canTurn, 2, (some (.boolean)), [], 0, 0)
theorem ok_M_canTurn : xMok M_canTurn 1 := ⟨⟨by decide +kernel, (List.mem_of_getElem? (i := 111) (by decide +kernel)), ⟨by decide +kernel, by decide +kernel⟩, by decide +kernel⟩, (List.mem_of_getElem? (i := 992) (by decide +kernel)), rfl⟩
def M_turn : xM := (yX5_turn, cX5_turn, 2, (some (.int)), [], 2, 47)
theorem ok_M_turn : xMok M_turn 1 := ⟨⟨by decide +kernel, (List.mem_of_getElem? (i := 111) (by decide +kernel)), ⟨by decide +kernel, by decide +kernel⟩, by decide +kernel⟩, (List.mem_of_getElem? (i := 988) (by decide +kernel)), rfl⟩
def M_isCell : xM := (yX5_isCell, cX5_isCell, 3, (some (.boolean)), [], 1, 22)
theorem ok_M_isCell : xMok M_isCell 2 := ⟨⟨by decide +kernel, (List.mem_of_getElem? (i := 111) (by decide +kernel)), ⟨by decide +kernel, by decide +kernel⟩, by decide +kernel⟩, (List.mem_of_getElem? (i := 1008) (by decide +kernel)), rfl⟩
def M_recolour : xM := (yX5_recolour, cX5_recolour, 6, (some (.int)), [], 2, 44)
theorem ok_M_recolour : xMok M_recolour 2 := ⟨⟨by decide +kernel, (List.mem_of_getElem? (i := 111) (by decide +kernel)), ⟨by decide +kernel, by decide +kernel⟩, by decide +kernel⟩, (List.mem_of_getElem? (i := 1004) (by decide +kernel)), rfl⟩
def M_isSetting : xM := (yX5_isSetting, cX5_isSetting, 1, (some (.boolean)), [], 1, 22)
theorem ok_M_isSetting : xMok M_isSetting 1 := ⟨⟨by decide +kernel, (List.mem_of_getElem? (i := 111) (by decide +kernel)), ⟨by decide +kernel, by decide +kernel⟩, by decide +kernel⟩, (List.mem_of_getElem? (i := 1015) (by decide +kernel)), rfl⟩
def M_isValue : xM := (yX5_isValue, cX5_isValue, 2, (some (.boolean)), [], 2, 42)
theorem ok_M_isValue : xMok M_isValue 2 := ⟨⟨by decide +kernel, (List.mem_of_getElem? (i := 111) (by decide +kernel)), ⟨by decide +kernel, by decide +kernel⟩, by decide +kernel⟩, (List.mem_of_getElem? (i := 1018) (by decide +kernel)), rfl⟩
def M_set : xM := (yX5_set, cX5_set, 4, (some (.int)), [], 3, 63)
theorem ok_M_set : xMok M_set 2 := ⟨⟨by decide +kernel, (List.mem_of_getElem? (i := 111) (by decide +kernel)), ⟨by decide +kernel, by decide +kernel⟩, by decide +kernel⟩, (List.mem_of_getElem? (i := 1012) (by decide +kernel)), rfl⟩
def M_buy : xM := (yX5_buy, cX5_buy, 3, (some (.int)), [], 2, 42)
theorem ok_M_buy : xMok M_buy 2 := ⟨⟨by decide +kernel, (List.mem_of_getElem? (i := 111) (by decide +kernel)), ⟨by decide +kernel, by decide +kernel⟩, by decide +kernel⟩, (List.mem_of_getElem? (i := 1022) (by decide +kernel)), rfl⟩
def M_onLast : xM := (yX5_onLast, cX5_onLast, 1, (some (.int)), [], 0, 0)
theorem ok_M_onLast : xMok M_onLast 0 := ⟨⟨by decide +kernel, (List.mem_of_getElem? (i := 111) (by decide +kernel)), ⟨by decide +kernel, by decide +kernel⟩, by decide +kernel⟩, (List.mem_of_getElem? (i := 1038) (by decide +kernel)), rfl⟩
def M_wantNothing : xM := (yX5_wantNothing, cX5_wantNothing, 2, none, [], 0, 0)
theorem ok_M_wantNothing : xMok M_wantNothing 0 := ⟨⟨by decide +kernel, (List.mem_of_getElem? (i := 111) (by decide +kernel)), ⟨by decide +kernel, by decide +kernel⟩, by decide +kernel⟩, (List.mem_of_getElem? (i := 1030) (by decide +kernel)), rfl⟩
def M_canString : xM := (yX5_canString, cX5_canString, 4, (some (.boolean)), [], 1, 20)
theorem ok_M_canString : xMok M_canString 1 := ⟨⟨by decide +kernel, (List.mem_of_getElem? (i := 111) (by decide +kernel)), ⟨by decide +kernel, by decide +kernel⟩, by decide +kernel⟩, (List.mem_of_getElem? (i := 1034) (by decide +kernel)), rfl⟩
def M_strings : xM := (yX5_strings, cX5_strings, 2, none, [], 0, 0)
theorem ok_M_strings : xMok M_strings 1 := ⟨⟨by decide +kernel, (List.mem_of_getElem? (i := 111) (by decide +kernel)), ⟨by decide +kernel, by decide +kernel⟩, by decide +kernel⟩, (List.mem_of_getElem? (i := 1042) (by decide +kernel)), rfl⟩
def M_string : xM := (yX5_string, cX5_string, 4, (some (.int)), [], 2, 43)
theorem ok_M_string : xMok M_string 2 := ⟨⟨by decide +kernel, (List.mem_of_getElem? (i := 111) (by decide +kernel)), ⟨by decide +kernel, by decide +kernel⟩, by decide +kernel⟩, (List.mem_of_getElem? (i := 1026) (by decide +kernel)), rfl⟩
def M_stringNext : xM := (yX5_stringNext, cX5_stringNext, 3, (some (.int)), [], 3, 63)
theorem ok_M_stringNext : xMok M_stringNext 1 := ⟨⟨by decide +kernel, (List.mem_of_getElem? (i := 111) (by decide +kernel)), ⟨by decide +kernel, by decide +kernel⟩, by decide +kernel⟩, (List.mem_of_getElem? (i := 1046) (by decide +kernel)), rfl⟩
def M_stringRow : xM := (yX5_stringRow, cX5_stringRow, 4, (some (.int)), [], 5, 109)
theorem ok_M_stringRow : xMok M_stringRow 0 := ⟨⟨by decide +kernel, (List.mem_of_getElem? (i := 111) (by decide +kernel)), ⟨by decide +kernel, by decide +kernel⟩, by decide +kernel⟩, (List.mem_of_getElem? (i := 1066) (by decide +kernel)), rfl⟩
def M_join : xM := (yX5_join, cX5_join, 1, (some (.int)), [], 4, 84)
theorem ok_M_join : xMok M_join 0 := ⟨⟨by decide +kernel, (List.mem_of_getElem? (i := 111) (by decide +kernel)), ⟨by decide +kernel, by decide +kernel⟩, by decide +kernel⟩, (List.mem_of_getElem? (i := 1070) (by decide +kernel)), rfl⟩
def M_isBead : xM := (yX5_isBead, cX5_isBead, 2, (some (.boolean)), [], 1, 22)
theorem ok_M_isBead : xMok M_isBead 1 := ⟨⟨by decide +kernel, (List.mem_of_getElem? (i := 111) (by decide +kernel)), ⟨by decide +kernel, by decide +kernel⟩, by decide +kernel⟩, (List.mem_of_getElem? (i := 1082) (by decide +kernel)), rfl⟩
def M_stringOf : xM := (yX5_stringOf, cX5_stringOf, 3, (some (.int)), [], 0, 0)
theorem ok_M_stringOf : xMok M_stringOf 1 := ⟨⟨by decide +kernel, (List.mem_of_getElem? (i := 111) (by decide +kernel)), ⟨by decide +kernel, by decide +kernel⟩, by decide +kernel⟩, (List.mem_of_getElem? (i := 1086) (by decide +kernel)), rfl⟩
def M_endOf : xM := (yX5_endOf, cX5_endOf, 2, (some (.int)), [], 0, 0)
theorem ok_M_endOf : xMok M_endOf 1 := ⟨⟨by decide +kernel, (List.mem_of_getElem? (i := 111) (by decide +kernel)), ⟨by decide +kernel, by decide +kernel⟩, by decide +kernel⟩, (List.mem_of_getElem? (i := 1090) (by decide +kernel)), rfl⟩
def M_crush : xM := (yX5_crush, cX5_crush, 4, (some (.int)), [], 2, 43)
theorem ok_M_crush : xMok M_crush 1 := ⟨⟨by decide +kernel, (List.mem_of_getElem? (i := 111) (by decide +kernel)), ⟨by decide +kernel, by decide +kernel⟩, by decide +kernel⟩, (List.mem_of_getElem? (i := 1078) (by decide +kernel)), rfl⟩
def M_unpick : xM := (yX5_unpick, cX5_unpick, 3, (some (.int)), [], 1, 22)
theorem ok_M_unpick : xMok M_unpick 1 := ⟨⟨by decide +kernel, (List.mem_of_getElem? (i := 111) (by decide +kernel)), ⟨by decide +kernel, by decide +kernel⟩, by decide +kernel⟩, (List.mem_of_getElem? (i := 1094) (by decide +kernel)), rfl⟩
def M_append : xM := (yX5_append, cX5_append, 2, (some (.int)), [], 1, 22)
theorem ok_M_append : xMok M_append 1 := ⟨⟨by decide +kernel, (List.mem_of_getElem? (i := 111) (by decide +kernel)), ⟨by decide +kernel, by decide +kernel⟩, by decide +kernel⟩, (List.mem_of_getElem? (i := 1098) (by decide +kernel)), rfl⟩
def M_clearBuffer : xM := (yX5_clearBuffer, cX5_clearBuffer, 2, (some (.int)), [], 0, 0)
theorem ok_M_clearBuffer : xMok M_clearBuffer 0 := ⟨⟨by decide +kernel, (List.mem_of_getElem? (i := 111) (by decide +kernel)), ⟨by decide +kernel, by decide +kernel⟩, by decide +kernel⟩, (List.mem_of_getElem? (i := 1102) (by decide +kernel)), rfl⟩
def M_takesDigit : xM := (yX5_takesDigit, cX5_takesDigit, 4, (some (.boolean)), [], 1, 22)
theorem ok_M_takesDigit : xMok M_takesDigit 1 := ⟨⟨by decide +kernel, (List.mem_of_getElem? (i := 111) (by decide +kernel)), ⟨by decide +kernel, by decide +kernel⟩, by decide +kernel⟩, (List.mem_of_getElem? (i := 961) (by decide +kernel)), rfl⟩
def M_takesColour : xM := (yX5_takesColour, cX5_takesColour, 3, (some (.boolean)), [], 2, 42)
theorem ok_M_takesColour : xMok M_takesColour 1 := ⟨⟨by decide +kernel, (List.mem_of_getElem? (i := 111) (by decide +kernel)), ⟨by decide +kernel, by decide +kernel⟩, by decide +kernel⟩, (List.mem_of_getElem? (i := 965) (by decide +kernel)), rfl⟩
def M_takes : xM := (yX5_takes, cX5_takes, 4, (some (.boolean)), [], 3, 64)
theorem ok_M_takes : xMok M_takes 2 := ⟨⟨by decide +kernel, (List.mem_of_getElem? (i := 111) (by decide +kernel)), ⟨by decide +kernel, by decide +kernel⟩, by decide +kernel⟩, (List.mem_of_getElem? (i := 950) (by decide +kernel)), rfl⟩
def M_isWhole : xM := (yX5_isWhole, cX5_isWhole, 1, (some (.boolean)), [], 0, 0)
theorem ok_M_isWhole : xMok M_isWhole 0 := ⟨⟨by decide +kernel, (List.mem_of_getElem? (i := 111) (by decide +kernel)), ⟨by decide +kernel, by decide +kernel⟩, by decide +kernel⟩, (List.mem_of_getElem? (i := 954) (by decide +kernel)), rfl⟩
def M_rightUpTo : xM := (yX5_rightUpTo, cX5_rightUpTo, 3, (some (.int)), [], 4, 87)
theorem ok_M_rightUpTo : xMok M_rightUpTo 1 := ⟨⟨by decide +kernel, (List.mem_of_getElem? (i := 111) (by decide +kernel)), ⟨by decide +kernel, by decide +kernel⟩, by decide +kernel⟩, (List.mem_of_getElem? (i := 946) (by decide +kernel)), rfl⟩
def M_cellsIn : xM := (yX5_cellsIn, cX5_cellsIn, 4, (some (.int)), [], 0, 0)
theorem ok_M_cellsIn : xMok M_cellsIn 1 := ⟨⟨by decide +kernel, (List.mem_of_getElem? (i := 111) (by decide +kernel)), ⟨by decide +kernel, by decide +kernel⟩, by decide +kernel⟩, (List.mem_of_getElem? (i := 976) (by decide +kernel)), rfl⟩
def M_layChart : xM := (yX5_layChart, cX5_layChart, 5, (some (.boolean)), [], 1, 23)
theorem ok_M_layChart : xMok M_layChart 0 := ⟨⟨by decide +kernel, (List.mem_of_getElem? (i := 111) (by decide +kernel)), ⟨by decide +kernel, by decide +kernel⟩, by decide +kernel⟩, (List.mem_of_getElem? (i := 972) (by decide +kernel)), rfl⟩
def M_firstError : xM := (yX5_firstError, cX5_firstError, 2, (some (.int)), [], 5, 109)
theorem ok_M_firstError : xMok M_firstError 1 := ⟨⟨by decide +kernel, (List.mem_of_getElem? (i := 111) (by decide +kernel)), ⟨by decide +kernel, by decide +kernel⟩, by decide +kernel⟩, (List.mem_of_getElem? (i := 1106) (by decide +kernel)), rfl⟩
def M_undo : xM := (yX5_undo, cX5_undo, 2, (some (.int)), [], 0, 0)
theorem ok_M_undo : xMok M_undo 0 := ⟨⟨by decide +kernel, (List.mem_of_getElem? (i := 111) (by decide +kernel)), ⟨by decide +kernel, by decide +kernel⟩, by decide +kernel⟩, (List.mem_of_getElem? (i := 1110) (by decide +kernel)), rfl⟩
def M_cell : xM := (yX5_cell, cX5_cell, 3, (some (.int)), [], 2, 44)
theorem ok_M_cell : xMok M_cell 2 := ⟨⟨by decide +kernel, (List.mem_of_getElem? (i := 111) (by decide +kernel)), ⟨by decide +kernel, by decide +kernel⟩, by decide +kernel⟩, (List.mem_of_getElem? (i := 1114) (by decide +kernel)), rfl⟩
def M_pattern : xM := (yX5_pattern, cX5_pattern, 3, (some (.int)), [], 3, 63)
theorem ok_M_pattern : xMok M_pattern 2 := ⟨⟨by decide +kernel, (List.mem_of_getElem? (i := 111) (by decide +kernel)), ⟨by decide +kernel, by decide +kernel⟩, by decide +kernel⟩, (List.mem_of_getElem? (i := 1118) (by decide +kernel)), rfl⟩
def M_beadNow : xM := (yX5_beadNow, cX5_beadNow, 3, (some (.int)), [], 4, 84)
theorem ok_M_beadNow : xMok M_beadNow 2 := ⟨⟨by decide +kernel, (List.mem_of_getElem? (i := 111) (by decide +kernel)), ⟨by decide +kernel, by decide +kernel⟩, by decide +kernel⟩, (List.mem_of_getElem? (i := 1126) (by decide +kernel)), rfl⟩
def M_bead : xM := (yX5_bead, cX5_bead, 3, (some (.int)), [], 5, 106)
theorem ok_M_bead : xMok M_bead 2 := ⟨⟨by decide +kernel, (List.mem_of_getElem? (i := 111) (by decide +kernel)), ⟨by decide +kernel, by decide +kernel⟩, by decide +kernel⟩, (List.mem_of_getElem? (i := 1122) (by decide +kernel)), rfl⟩
def M_strandNow : xM := (yX5_strandNow, cX5_strandNow, 4, (some (.int)), [], 5, 108)
theorem ok_M_strandNow : xMok M_strandNow 2 := ⟨⟨by decide +kernel, (List.mem_of_getElem? (i := 111) (by decide +kernel)), ⟨by decide +kernel, by decide +kernel⟩, by decide +kernel⟩, (List.mem_of_getElem? (i := 1138) (by decide +kernel)), rfl⟩
def M_strand : xM := (yX5_strand, cX5_strand, 3, (some (.int)), [], 6, 131)
theorem ok_M_strand : xMok M_strand 2 := ⟨⟨by decide +kernel, (List.mem_of_getElem? (i := 111) (by decide +kernel)), ⟨by decide +kernel, by decide +kernel⟩, by decide +kernel⟩, (List.mem_of_getElem? (i := 1134) (by decide +kernel)), rfl⟩
def M_strung : xM := (yX5_strung, cX5_strung, 5, (some (.int)), [], 4, 84)
theorem ok_M_strung : xMok M_strung 2 := ⟨⟨by decide +kernel, (List.mem_of_getElem? (i := 111) (by decide +kernel)), ⟨by decide +kernel, by decide +kernel⟩, by decide +kernel⟩, (List.mem_of_getElem? (i := 1154) (by decide +kernel)), rfl⟩
def M_cellsOf : xM := (yX5_cellsOf, cX5_cellsOf, 4, (some (.int)), [], 2, 44)
theorem ok_M_cellsOf : xMok M_cellsOf 1 := ⟨⟨by decide +kernel, (List.mem_of_getElem? (i := 111) (by decide +kernel)), ⟨by decide +kernel, by decide +kernel⟩, by decide +kernel⟩, (List.mem_of_getElem? (i := 1158) (by decide +kernel)), rfl⟩
def M_colourNow : xM := (yX5_colourNow, cX5_colourNow, 3, (some (.int)), [], 5, 108)
theorem ok_M_colourNow : xMok M_colourNow 2 := ⟨⟨by decide +kernel, (List.mem_of_getElem? (i := 111) (by decide +kernel)), ⟨by decide +kernel, by decide +kernel⟩, by decide +kernel⟩, (List.mem_of_getElem? (i := 1150) (by decide +kernel)), rfl⟩
def M_colour : xM := (yX5_colour, cX5_colour, 3, (some (.int)), [], 6, 130)
theorem ok_M_colour : xMok M_colour 2 := ⟨⟨by decide +kernel, (List.mem_of_getElem? (i := 111) (by decide +kernel)), ⟨by decide +kernel, by decide +kernel⟩, by decide +kernel⟩, (List.mem_of_getElem? (i := 1146) (by decide +kernel)), rfl⟩
def M_sumOf : xM := (yX5_sumOf, cX5_sumOf, 4, (some (.int)), [], 0, 0)
theorem ok_M_sumOf : xMok M_sumOf 1 := ⟨⟨by decide +kernel, (List.mem_of_getElem? (i := 111) (by decide +kernel)), ⟨by decide +kernel, by decide +kernel⟩, by decide +kernel⟩, (List.mem_of_getElem? (i := 1178) (by decide +kernel)), rfl⟩
def M_bareKnots : xM := (yX5_bareKnots, cX5_bareKnots, 3, (some (.int)), [], 4, 84)
theorem ok_M_bareKnots : xMok M_bareKnots 0 := ⟨⟨by decide +kernel, (List.mem_of_getElem? (i := 111) (by decide +kernel)), ⟨by decide +kernel, by decide +kernel⟩, by decide +kernel⟩, (List.mem_of_getElem? (i := 1174) (by decide +kernel)), rfl⟩
def M_coloursThere : xM := (yX5_coloursThere, cX5_coloursThere, 3, (some (.int)), [], 3, 67)
theorem ok_M_coloursThere : xMok M_coloursThere 0 := ⟨⟨by decide +kernel, (List.mem_of_getElem? (i := 111) (by decide +kernel)), ⟨by decide +kernel, by decide +kernel⟩, by decide +kernel⟩, (List.mem_of_getElem? (i := 1182) (by decide +kernel)), rfl⟩
def M_room : xM := (yX5_room, cX5_room, 2, (some (.int)), [], 1, 20)
theorem ok_M_room : xMok M_room 0 := ⟨⟨by decide +kernel, (List.mem_of_getElem? (i := 111) (by decide +kernel)), ⟨by decide +kernel, by decide +kernel⟩, by decide +kernel⟩, (List.mem_of_getElem? (i := 1186) (by decide +kernel)), rfl⟩
def M_counted : xM := (yX5_counted, cX5_counted, 2, (some (.int)), [], 6, 128)
theorem ok_M_counted : xMok M_counted 1 := ⟨⟨by decide +kernel, (List.mem_of_getElem? (i := 111) (by decide +kernel)), ⟨by decide +kernel, by decide +kernel⟩, by decide +kernel⟩, (List.mem_of_getElem? (i := 1166) (by decide +kernel)), rfl⟩
def M_count : xM := (yX5_count, cX5_count, 2, (some (.int)), [], 7, 149)
theorem ok_M_count : xMok M_count 1 := ⟨⟨by decide +kernel, (List.mem_of_getElem? (i := 111) (by decide +kernel)), ⟨by decide +kernel, by decide +kernel⟩, by decide +kernel⟩, (List.mem_of_getElem? (i := 1162) (by decide +kernel)), rfl⟩
def M_setting : xM := (yX5_setting, cX5_setting, 2, (some (.int)), [], 2, 42)
theorem ok_M_setting : xMok M_setting 1 := ⟨⟨by decide +kernel, (List.mem_of_getElem? (i := 111) (by decide +kernel)), ⟨by decide +kernel, by decide +kernel⟩, by decide +kernel⟩, (List.mem_of_getElem? (i := 1190) (by decide +kernel)), rfl⟩
def M_neededNow : xM := (yX5_neededNow, cX5_neededNow, 5, (some (.int)), [], 3, 63)
theorem ok_M_neededNow : xMok M_neededNow 2 := ⟨⟨by decide +kernel, (List.mem_of_getElem? (i := 111) (by decide +kernel)), ⟨by decide +kernel, by decide +kernel⟩, by decide +kernel⟩, (List.mem_of_getElem? (i := 1198) (by decide +kernel)), rfl⟩
def M_needed : xM := (yX5_needed, cX5_needed, 3, (some (.int)), [], 4, 87)
theorem ok_M_needed : xMok M_needed 2 := ⟨⟨by decide +kernel, (List.mem_of_getElem? (i := 111) (by decide +kernel)), ⟨by decide +kernel, by decide +kernel⟩, by decide +kernel⟩, (List.mem_of_getElem? (i := 1194) (by decide +kernel)), rfl⟩
def M_layFewest : xM := (yX5_layFewest, cX5_layFewest, 5, none, [], 4, 84)
theorem ok_M_layFewest : xMok M_layFewest 1 := ⟨⟨by decide +kernel, (List.mem_of_getElem? (i := 111) (by decide +kernel)), ⟨by decide +kernel, by decide +kernel⟩, by decide +kernel⟩, (List.mem_of_getElem? (i := 1210) (by decide +kernel)), rfl⟩
def M_latest : xM := (yX5_latest, cX5_latest, 4, (some (.int)), [], 4, 84)
theorem ok_M_latest : xMok M_latest 2 := ⟨⟨by decide +kernel, (List.mem_of_getElem? (i := 111) (by decide +kernel)), ⟨by decide +kernel, by decide +kernel⟩, by decide +kernel⟩, (List.mem_of_getElem? (i := 1215) (by decide +kernel)), rfl⟩
def M_planNow : xM := (yX5_planNow, cX5_planNow, 5, (some (.int)), [], 5, 108)
theorem ok_M_planNow : xMok M_planNow 2 := ⟨⟨by decide +kernel, (List.mem_of_getElem? (i := 111) (by decide +kernel)), ⟨by decide +kernel, by decide +kernel⟩, by decide +kernel⟩, (List.mem_of_getElem? (i := 1206) (by decide +kernel)), rfl⟩
def M_plan : xM := (yX5_plan, cX5_plan, 3, (some (.int)), [], 6, 132)
theorem ok_M_plan : xMok M_plan 2 := ⟨⟨by decide +kernel, (List.mem_of_getElem? (i := 111) (by decide +kernel)), ⟨by decide +kernel, by decide +kernel⟩, by decide +kernel⟩, (List.mem_of_getElem? (i := 1202) (by decide +kernel)), rfl⟩
def M_wrongOne : xM := (yX5_wrongOne, cX5_wrongOne, 2, (some (.int)), [], 4, 84)
theorem ok_M_wrongOne : xMok M_wrongOne 0 := ⟨⟨by decide +kernel, (List.mem_of_getElem? (i := 111) (by decide +kernel)), ⟨by decide +kernel, by decide +kernel⟩, by decide +kernel⟩, (List.mem_of_getElem? (i := 1223) (by decide +kernel)), rfl⟩
def M_firstWrong : xM := (yX5_firstWrong, cX5_firstWrong, 1, (some (.int)), [], 5, 105)
theorem ok_M_firstWrong : xMok M_firstWrong 0 := ⟨⟨by decide +kernel, (List.mem_of_getElem? (i := 111) (by decide +kernel)), ⟨by decide +kernel, by decide +kernel⟩, by decide +kernel⟩, (List.mem_of_getElem? (i := 1219) (by decide +kernel)), rfl⟩
def M_rightLeft : xM := (yX5_rightLeft, cX5_rightLeft, 3, (some (.int)), [], 3, 63)
theorem ok_M_rightLeft : xMok M_rightLeft 0 := ⟨⟨by decide +kernel, (List.mem_of_getElem? (i := 111) (by decide +kernel)), ⟨by decide +kernel, by decide +kernel⟩, by decide +kernel⟩, (List.mem_of_getElem? (i := 1231) (by decide +kernel)), rfl⟩
def M_bestCrush : xM := (yX5_bestCrush, cX5_bestCrush, 1, (some (.int)), [], 4, 85)
theorem ok_M_bestCrush : xMok M_bestCrush 0 := ⟨⟨by decide +kernel, (List.mem_of_getElem? (i := 111) (by decide +kernel)), ⟨by decide +kernel, by decide +kernel⟩, by decide +kernel⟩, (List.mem_of_getElem? (i := 1227) (by decide +kernel)), rfl⟩
def M_slantNow : xM := (yX5_slantNow, cX5_slantNow, 6, (some (.int)), [], 6, 128)
theorem ok_M_slantNow : xMok M_slantNow 0 := ⟨⟨by decide +kernel, (List.mem_of_getElem? (i := 111) (by decide +kernel)), ⟨by decide +kernel, by decide +kernel⟩, by decide +kernel⟩, (List.mem_of_getElem? (i := 1239) (by decide +kernel)), rfl⟩
def M_bestSlant : xM := (yX5_bestSlant, cX5_bestSlant, 1, (some (.int)), [], 7, 153)
theorem ok_M_bestSlant : xMok M_bestSlant 0 := ⟨⟨by decide +kernel, (List.mem_of_getElem? (i := 111) (by decide +kernel)), ⟨by decide +kernel, by decide +kernel⟩, by decide +kernel⟩, (List.mem_of_getElem? (i := 1235) (by decide +kernel)), rfl⟩
def M_wrongsTurned : xM := (yX5_wrongsTurned, cX5_wrongsTurned, 6, (some (.int)), [], 6, 128)
theorem ok_M_wrongsTurned : xMok M_wrongsTurned 1 := ⟨⟨by decide +kernel, (List.mem_of_getElem? (i := 111) (by decide +kernel)), ⟨by decide +kernel, by decide +kernel⟩, by decide +kernel⟩, (List.mem_of_getElem? (i := 1251) (by decide +kernel)), rfl⟩
def M_turnNow : xM := (yX5_turnNow, cX5_turnNow, 5, (some (.int)), [], 7, 153)
theorem ok_M_turnNow : xMok M_turnNow 0 := ⟨⟨by decide +kernel, (List.mem_of_getElem? (i := 111) (by decide +kernel)), ⟨by decide +kernel, by decide +kernel⟩, by decide +kernel⟩, (List.mem_of_getElem? (i := 1247) (by decide +kernel)), rfl⟩
def M_bestTurn : xM := (yX5_bestTurn, cX5_bestTurn, 1, (some (.int)), [], 8, 177)
theorem ok_M_bestTurn : xMok M_bestTurn 0 := ⟨⟨by decide +kernel, (List.mem_of_getElem? (i := 111) (by decide +kernel)), ⟨by decide +kernel, by decide +kernel⟩, by decide +kernel⟩, (List.mem_of_getElem? (i := 1243) (by decide +kernel)), rfl⟩
def M_share : xM := (yX5_share, cX5_share, 1, (some (.double)), [], 6, 128)
theorem ok_M_share : xMok M_share 0 := ⟨⟨by decide +kernel, (List.mem_of_getElem? (i := 111) (by decide +kernel)), ⟨by decide +kernel, by decide +kernel⟩, by decide +kernel⟩, (List.mem_of_getElem? (i := 1259) (by decide +kernel)), rfl⟩
def M_wrongShare : xM := (yX5_wrongShare, cX5_wrongShare, 1, (some (.double)), [], 7, 148)
theorem ok_M_wrongShare : xMok M_wrongShare 0 := ⟨⟨by decide +kernel, (List.mem_of_getElem? (i := 111) (by decide +kernel)), ⟨by decide +kernel, by decide +kernel⟩, by decide +kernel⟩, (List.mem_of_getElem? (i := 1255) (by decide +kernel)), rfl⟩
def M_mix : xM := (yX5_mix, cX5_mix, 3, none, [], 0, 0)
theorem ok_M_mix : xMok M_mix 1 := ⟨⟨by decide +kernel, (List.mem_of_getElem? (i := 111) (by decide +kernel)), ⟨by decide +kernel, by decide +kernel⟩, by decide +kernel⟩, (List.mem_of_getElem? (i := 1268) (by decide +kernel)), rfl⟩
def M_mixChart : xM := (yX5_mixChart, cX5_mixChart, 3, none, [], 6, 130)
theorem ok_M_mixChart : xMok M_mixChart 0 := ⟨⟨by decide +kernel, (List.mem_of_getElem? (i := 111) (by decide +kernel)), ⟨by decide +kernel, by decide +kernel⟩, by decide +kernel⟩, (List.mem_of_getElem? (i := 1273) (by decide +kernel)), rfl⟩
def M_mixWouldBe : xM := (yX5_mixWouldBe, cX5_mixWouldBe, 2, none, [], 8, 177)
theorem ok_M_mixWouldBe : xMok M_mixWouldBe 0 := ⟨⟨by decide +kernel, (List.mem_of_getElem? (i := 111) (by decide +kernel)), ⟨by decide +kernel, by decide +kernel⟩, by decide +kernel⟩, (List.mem_of_getElem? (i := 1277) (by decide +kernel)), rfl⟩
def M_digest : xM := (yX5_digest, cX5_digest, 2, (some (.long)), [], 9, 198)
theorem ok_M_digest : xMok M_digest 0 := ⟨⟨by decide +kernel, (List.mem_of_getElem? (i := 111) (by decide +kernel)), ⟨by decide +kernel, by decide +kernel⟩, by decide +kernel⟩, (List.mem_of_getElem? (i := 1263) (by decide +kernel)), rfl⟩
def D_isNaN : xM := (yJxe99ae_isNaN_b9ae7, cJxe99ae_isNaN_b9ae7, 2, (some (.boolean)), [], 0, 0)
theorem ok_D_isNaN : xMok D_isNaN 1 := ⟨⟨by decide +kernel, (List.mem_of_getElem? (i := 119) (by decide +kernel)), ⟨by decide +kernel, by decide +kernel⟩, by decide +kernel⟩, (List.mem_of_getElem? (i := 1283) (by decide +kernel)), rfl⟩
def D_doubleToLongBits : xM := (yJxe99ae_doubleToLongBits_ccdee, cJxe99ae_doubleToLongBits_ccdee, 2, (some (.long)), [], 1, 23)
theorem ok_D_doubleToLongBits : xMok D_doubleToLongBits 1 := ⟨⟨by decide +kernel, (List.mem_of_getElem? (i := 119) (by decide +kernel)), ⟨by decide +kernel, by decide +kernel⟩, by decide +kernel⟩, (List.mem_of_getElem? (i := 1280) (by decide +kernel)), rfl⟩
def L_load : xM := (yL_load, cL_load, 3, (some (.int)), [(0, 8, 11, 13), (0, 8, 14, 15)], 7, 146)
theorem ok_L_load : xMokH L_load 2 := ⟨⟨by decide +kernel, (List.mem_of_getElem? (i := 105) (by decide +kernel)), ⟨by decide +kernel, by decide +kernel⟩, by decide +kernel⟩, (List.mem_of_getElem? (i := 489) (by decide +kernel))⟩
def L_turn : xM := (yL_turn, cL_turn, 4, (some (.int)), [(0, 9, 12, 13), (0, 9, 15, 15)], 7, 114)
theorem ok_L_turn : xMokH L_turn 3 := ⟨⟨by decide +kernel, (List.mem_of_getElem? (i := 105) (by decide +kernel)), ⟨by decide +kernel, by decide +kernel⟩, by decide +kernel⟩, (List.mem_of_getElem? (i := 616) (by decide +kernel))⟩
def L_recolour : xM := (yL_recolour, cL_recolour, 5, (some (.int)), [(0, 10, 13, 13)], 7, 112)
theorem ok_L_recolour : xMokH L_recolour 4 := ⟨⟨by decide +kernel, (List.mem_of_getElem? (i := 105) (by decide +kernel)), ⟨by decide +kernel, by decide +kernel⟩, by decide +kernel⟩, (List.mem_of_getElem? (i := 625) (by decide +kernel))⟩
def L_set : xM := (yL_set, cL_set, 5, (some (.int)), [(0, 10, 13, 28), (0, 10, 17, 13)], 7, 113)
theorem ok_L_set : xMokH L_set 4 := ⟨⟨by decide +kernel, (List.mem_of_getElem? (i := 105) (by decide +kernel)), ⟨by decide +kernel, by decide +kernel⟩, by decide +kernel⟩, (List.mem_of_getElem? (i := 640) (by decide +kernel))⟩
def L_buy : xM := (yL_buy, cL_buy, 5, (some (.int)), [(0, 10, 13, 13), (0, 10, 17, 15)], 7, 112)
theorem ok_L_buy : xMokH L_buy 4 := ⟨⟨by decide +kernel, (List.mem_of_getElem? (i := 105) (by decide +kernel)), ⟨by decide +kernel, by decide +kernel⟩, by decide +kernel⟩, (List.mem_of_getElem? (i := 671) (by decide +kernel))⟩
def L_string : xM := (yL_string, cL_string, 5, (some (.int)), [(0, 10, 13, 13), (0, 10, 17, 15)], 8, 150)
theorem ok_L_string : xMokH L_string 4 := ⟨⟨by decide +kernel, (List.mem_of_getElem? (i := 105) (by decide +kernel)), ⟨by decide +kernel, by decide +kernel⟩, by decide +kernel⟩, (List.mem_of_getElem? (i := 683) (by decide +kernel))⟩
def L_stringNext : xM := (yL_stringNext, cL_stringNext, 4, (some (.int)), [(0, 9, 12, 13), (0, 9, 15, 15)], 8, 149)
theorem ok_L_stringNext : xMokH L_stringNext 3 := ⟨⟨by decide +kernel, (List.mem_of_getElem? (i := 105) (by decide +kernel)), ⟨by decide +kernel, by decide +kernel⟩, by decide +kernel⟩, (List.mem_of_getElem? (i := 709) (by decide +kernel))⟩
def L_stringRow : xM := (yL_stringRow, cL_stringRow, 3, (some (.int)), [(0, 8, 11, 13), (0, 8, 14, 15)], 8, 148)
theorem ok_L_stringRow : xMokH L_stringRow 2 := ⟨⟨by decide +kernel, (List.mem_of_getElem? (i := 105) (by decide +kernel)), ⟨by decide +kernel, by decide +kernel⟩, by decide +kernel⟩, (List.mem_of_getElem? (i := 718) (by decide +kernel))⟩
def L_join : xM := (yL_join, cL_join, 3, (some (.int)), [(0, 8, 11, 15)], 7, 110)
theorem ok_L_join : xMokH L_join 2 := ⟨⟨by decide +kernel, (List.mem_of_getElem? (i := 105) (by decide +kernel)), ⟨by decide +kernel, by decide +kernel⟩, by decide +kernel⟩, (List.mem_of_getElem? (i := 730) (by decide +kernel))⟩
def L_crush : xM := (yL_crush, cL_crush, 4, (some (.int)), [(0, 9, 12, 28)], 7, 111)
theorem ok_L_crush : xMokH L_crush 3 := ⟨⟨by decide +kernel, (List.mem_of_getElem? (i := 105) (by decide +kernel)), ⟨by decide +kernel, by decide +kernel⟩, by decide +kernel⟩, (List.mem_of_getElem? (i := 740) (by decide +kernel))⟩
def L_unpick : xM := (yL_unpick, cL_unpick, 4, (some (.int)), [(0, 9, 12, 13), (0, 9, 15, 15)], 7, 111)
theorem ok_L_unpick : xMokH L_unpick 3 := ⟨⟨by decide +kernel, (List.mem_of_getElem? (i := 105) (by decide +kernel)), ⟨by decide +kernel, by decide +kernel⟩, by decide +kernel⟩, (List.mem_of_getElem? (i := 756) (by decide +kernel))⟩
def L_append : xM := (yL_append, cL_append, 4, (some (.int)), [(0, 9, 12, 13), (0, 9, 15, 15)], 7, 111)
theorem ok_L_append : xMokH L_append 3 := ⟨⟨by decide +kernel, (List.mem_of_getElem? (i := 105) (by decide +kernel)), ⟨by decide +kernel, by decide +kernel⟩, by decide +kernel⟩, (List.mem_of_getElem? (i := 768) (by decide +kernel))⟩
def L_undo : xM := (yL_undo, cL_undo, 3, (some (.int)), [(0, 8, 11, 15)], 7, 110)
theorem ok_L_undo : xMokH L_undo 2 := ⟨⟨by decide +kernel, (List.mem_of_getElem? (i := 105) (by decide +kernel)), ⟨by decide +kernel, by decide +kernel⟩, by decide +kernel⟩, (List.mem_of_getElem? (i := 777) (by decide +kernel))⟩
def L_cell : xM := (yL_cell, cL_cell, 5, (some (.int)), [(0, 10, 13, 28)], 7, 112)
theorem ok_L_cell : xMokH L_cell 4 := ⟨⟨by decide +kernel, (List.mem_of_getElem? (i := 105) (by decide +kernel)), ⟨by decide +kernel, by decide +kernel⟩, by decide +kernel⟩, (List.mem_of_getElem? (i := 789) (by decide +kernel))⟩
def L_pattern : xM := (yL_pattern, cL_pattern, 5, (some (.int)), [(0, 10, 13, 13)], 7, 112)
theorem ok_L_pattern : xMokH L_pattern 4 := ⟨⟨by decide +kernel, (List.mem_of_getElem? (i := 105) (by decide +kernel)), ⟨by decide +kernel, by decide +kernel⟩, by decide +kernel⟩, (List.mem_of_getElem? (i := 797) (by decide +kernel))⟩
def L_bead : xM := (yL_bead, cL_bead, 5, (some (.int)), [(0, 10, 13, 28), (0, 10, 17, 13)], 7, 112)
theorem ok_L_bead : xMokH L_bead 4 := ⟨⟨by decide +kernel, (List.mem_of_getElem? (i := 105) (by decide +kernel)), ⟨by decide +kernel, by decide +kernel⟩, by decide +kernel⟩, (List.mem_of_getElem? (i := 812) (by decide +kernel))⟩
def L_strand : xM := (yL_strand, cL_strand, 5, (some (.int)), [(0, 10, 13, 28), (0, 10, 17, 13)], 7, 135)
theorem ok_L_strand : xMokH L_strand 4 := ⟨⟨by decide +kernel, (List.mem_of_getElem? (i := 105) (by decide +kernel)), ⟨by decide +kernel, by decide +kernel⟩, by decide +kernel⟩, (List.mem_of_getElem? (i := 820) (by decide +kernel))⟩
def L_colour : xM := (yL_colour, cL_colour, 5, (some (.int)), [(0, 10, 13, 13)], 7, 134)
theorem ok_L_colour : xMokH L_colour 4 := ⟨⟨by decide +kernel, (List.mem_of_getElem? (i := 105) (by decide +kernel)), ⟨by decide +kernel, by decide +kernel⟩, by decide +kernel⟩, (List.mem_of_getElem? (i := 828) (by decide +kernel))⟩
def L_count : xM := (yL_count, cL_count, 4, (some (.int)), [(0, 9, 12, 13)], 7, 133)
theorem ok_L_count : xMokH L_count 3 := ⟨⟨by decide +kernel, (List.mem_of_getElem? (i := 105) (by decide +kernel)), ⟨by decide +kernel, by decide +kernel⟩, by decide +kernel⟩, (List.mem_of_getElem? (i := 836) (by decide +kernel))⟩
def L_setting : xM := (yL_setting, cL_setting, 4, (some (.int)), [(0, 9, 12, 28)], 7, 111)
theorem ok_L_setting : xMokH L_setting 3 := ⟨⟨by decide +kernel, (List.mem_of_getElem? (i := 105) (by decide +kernel)), ⟨by decide +kernel, by decide +kernel⟩, by decide +kernel⟩, (List.mem_of_getElem? (i := 844) (by decide +kernel))⟩
def L_needed : xM := (yL_needed, cL_needed, 5, (some (.int)), [(0, 10, 13, 13)], 7, 112)
theorem ok_L_needed : xMokH L_needed 4 := ⟨⟨by decide +kernel, (List.mem_of_getElem? (i := 105) (by decide +kernel)), ⟨by decide +kernel, by decide +kernel⟩, by decide +kernel⟩, (List.mem_of_getElem? (i := 851) (by decide +kernel))⟩
def L_plan : xM := (yL_plan, cL_plan, 5, (some (.int)), [(0, 10, 13, 13)], 7, 118)
theorem ok_L_plan : xMokH L_plan 4 := ⟨⟨by decide +kernel, (List.mem_of_getElem? (i := 105) (by decide +kernel)), ⟨by decide +kernel, by decide +kernel⟩, by decide +kernel⟩, (List.mem_of_getElem? (i := 862) (by decide +kernel))⟩
def L_law : xM := (yL_law, cL_law, 9, some .boolean, [], 12, 438)
theorem s_X0_3 : Cond.methodLink RX0 3 ⟨"java/lang/Object", "<init>", "()V"⟩ ∈ lw_tbl := (List.mem_of_getElem? (i := 139) (by decide +kernel))
theorem s_X0_22 : Cond.methodLinkNest RX0 22 (xmN B_copy) "BeadSpirals" ∈ lw_tbl ∧ Cond.static (xmN B_copy) ∈ lw_tbl := ⟨(List.mem_of_getElem? (i := 612) (by decide +kernel)), (List.mem_of_getElem? (i := 159) (by decide +kernel))⟩
theorem s_X0_26 : Cond.methodLinkNest RX0 26 (xmN B_at) "BeadSpirals" ∈ lw_tbl ∧ Cond.static (xmN B_at) ∈ lw_tbl := ⟨(List.mem_of_getElem? (i := 348) (by decide +kernel)), (List.mem_of_getElem? (i := 271) (by decide +kernel))⟩
theorem s_X0_30 : Cond.methodLinkNest RX0 30 (xmN B_put) "BeadSpirals" ∈ lw_tbl ∧ Cond.static (xmN B_put) ∈ lw_tbl := ⟨(List.mem_of_getElem? (i := 356) (by decide +kernel)), (List.mem_of_getElem? (i := 357) (by decide +kernel))⟩
theorem s_X0_34 : Cond.methodLink RX0 34 (xmN C_cellAt) ∈ lw_tbl ∧ Cond.instanceMethod (xmN C_cellAt) ∈ lw_tbl ∧ Cond.selects (xmN C_cellAt).cls (xmN C_cellAt) (xmN C_cellAt) ∈ lw_tbl := ⟨(List.mem_of_getElem? (i := 344) (by decide +kernel)), (List.mem_of_getElem? (i := 346) (by decide +kernel)), (List.mem_of_getElem? (i := 11) (by decide +kernel))⟩
theorem s_X0_38 : Cond.methodLink RX0 38 (xmN C_cellsOf) ∈ lw_tbl ∧ Cond.instanceMethod (xmN C_cellsOf) ∈ lw_tbl ∧ Cond.selects (xmN C_cellsOf).cls (xmN C_cellsOf) (xmN C_cellsOf) ∈ lw_tbl := ⟨(List.mem_of_getElem? (i := 391) (by decide +kernel)), (List.mem_of_getElem? (i := 393) (by decide +kernel)), (List.mem_of_getElem? (i := 18) (by decide +kernel))⟩
theorem s_X0_42 : Cond.methodLink RX0 42 (xmN C_putCell) ∈ lw_tbl ∧ Cond.instanceMethod (xmN C_putCell) ∈ lw_tbl ∧ Cond.selects (xmN C_putCell).cls (xmN C_putCell) (xmN C_putCell) ∈ lw_tbl := ⟨(List.mem_of_getElem? (i := 352) (by decide +kernel)), (List.mem_of_getElem? (i := 354) (by decide +kernel)), (List.mem_of_getElem? (i := 12) (by decide +kernel))⟩
theorem s_X0_46 : Cond.methodLink RX0 46 (xmN C_turnedCell) ∈ lw_tbl ∧ Cond.instanceMethod (xmN C_turnedCell) ∈ lw_tbl ∧ Cond.selects (xmN C_turnedCell).cls (xmN C_turnedCell) (xmN C_turnedCell) ∈ lw_tbl := ⟨(List.mem_of_getElem? (i := 340) (by decide +kernel)), (List.mem_of_getElem? (i := 342) (by decide +kernel)), (List.mem_of_getElem? (i := 10) (by decide +kernel))⟩
theorem s_X0_50 : Cond.methodLinkNest RX0 50 (xmN B_remainder) "BeadSpirals" ∈ lw_tbl ∧ Cond.static (xmN B_remainder) ∈ lw_tbl := ⟨(List.mem_of_getElem? (i := 349) (by decide +kernel)), (List.mem_of_getElem? (i := 350) (by decide +kernel))⟩
theorem s_X1_3 : Cond.methodLink RX1 3 ⟨"java/lang/Object", "<init>", "()V"⟩ ∈ lw_tbl := (List.mem_of_getElem? (i := 206) (by decide +kernel))
theorem s_X1_17 : Cond.methodLinkNest RX1 17 (xmN W_init) "BeadSpirals" ∈ lw_tbl ∧ Cond.instanceMethod (xmN W_init) ∈ lw_tbl := ⟨(List.mem_of_getElem? (i := 209) (by decide +kernel)), (List.mem_of_getElem? (i := 131) (by decide +kernel))⟩
theorem s_X1_25 : Cond.methodLink RX1 25 (xmN H_slot) ∈ lw_tbl ∧ Cond.instanceMethod (xmN H_slot) ∈ lw_tbl ∧ Cond.selects (xmN H_slot).cls (xmN H_slot) (xmN H_slot) ∈ lw_tbl := ⟨(List.mem_of_getElem? (i := 600) (by decide +kernel)), (List.mem_of_getElem? (i := 602) (by decide +kernel)), (List.mem_of_getElem? (i := 41) (by decide +kernel))⟩
theorem s_X1_29 : Cond.methodLinkNest RX1 29 (xmN W_copyFrom) "BeadSpirals" ∈ lw_tbl ∧ Cond.instanceMethod (xmN W_copyFrom) ∈ lw_tbl ∧ Cond.selects (xmN W_copyFrom).cls (xmN W_copyFrom) (xmN W_copyFrom) ∈ lw_tbl := ⟨(List.mem_of_getElem? (i := 604) (by decide +kernel)), (List.mem_of_getElem? (i := 606) (by decide +kernel)), (List.mem_of_getElem? (i := 42) (by decide +kernel))⟩
theorem s_X2_3 : Cond.methodLink RX2 3 ⟨"java/lang/Object", "<init>", "()V"⟩ ∈ lw_tbl := (List.mem_of_getElem? (i := 226) (by decide +kernel))
theorem s_X2_19 : Cond.methodLinkNest RX2 19 (xmN B_at) "BeadSpirals" ∈ lw_tbl ∧ Cond.static (xmN B_at) ∈ lw_tbl := ⟨(List.mem_of_getElem? (i := 270) (by decide +kernel)), (List.mem_of_getElem? (i := 271) (by decide +kernel))⟩
theorem s_X2_23 : Cond.methodLink RX2 23 (xmN T_stateBehind) ∈ lw_tbl ∧ Cond.static (xmN T_stateBehind) ∈ lw_tbl := ⟨(List.mem_of_getElem? (i := 273) (by decide +kernel)), (List.mem_of_getElem? (i := 274) (by decide +kernel))⟩
theorem s_X2_27 : Cond.methodLink RX2 27 (xmN T_errorIndex) ∈ lw_tbl ∧ Cond.instanceMethod (xmN T_errorIndex) ∈ lw_tbl ∧ Cond.selects (xmN T_errorIndex).cls (xmN T_errorIndex) (xmN T_errorIndex) ∈ lw_tbl := ⟨(List.mem_of_getElem? (i := 500) (by decide +kernel)), (List.mem_of_getElem? (i := 268) (by decide +kernel)), (List.mem_of_getElem? (i := 1) (by decide +kernel))⟩
theorem s_X2_31 : Cond.methodLink RX2 31 (xmN T_isLetter) ∈ lw_tbl ∧ Cond.static (xmN T_isLetter) ∈ lw_tbl := ⟨(List.mem_of_getElem? (i := 285) (by decide +kernel)), (List.mem_of_getElem? (i := 286) (by decide +kernel))⟩
theorem s_X2_35 : Cond.methodLink RX2 35 (xmN T_stateInPart) ∈ lw_tbl ∧ Cond.static (xmN T_stateInPart) ∈ lw_tbl := ⟨(List.mem_of_getElem? (i := 276) (by decide +kernel)), (List.mem_of_getElem? (i := 277) (by decide +kernel))⟩
theorem s_X2_39 : Cond.methodLink RX2 39 (xmN T_isDigit) ∈ lw_tbl ∧ Cond.static (xmN T_isDigit) ∈ lw_tbl := ⟨(List.mem_of_getElem? (i := 279) (by decide +kernel)), (List.mem_of_getElem? (i := 280) (by decide +kernel))⟩
theorem s_X2_42 : Cond.methodLink RX2 42 (xmN T_stateBehindNumber) ∈ lw_tbl ∧ Cond.static (xmN T_stateBehindNumber) ∈ lw_tbl := ⟨(List.mem_of_getElem? (i := 282) (by decide +kernel)), (List.mem_of_getElem? (i := 283) (by decide +kernel))⟩
theorem s_X2_45 : Cond.methodLink RX2 45 (xmN T_readBeads) ∈ lw_tbl ∧ Cond.instanceMethod (xmN T_readBeads) ∈ lw_tbl ∧ Cond.selects (xmN T_readBeads).cls (xmN T_readBeads) (xmN T_readBeads) ∈ lw_tbl := ⟨(List.mem_of_getElem? (i := 573) (by decide +kernel)), (List.mem_of_getElem? (i := 575) (by decide +kernel)), (List.mem_of_getElem? (i := 39) (by decide +kernel))⟩
theorem s_X2_49 : Cond.methodLink RX2 49 ⟨"java/lang/Math", "max", "(II)I"⟩ ∈ lw_tbl := (List.mem_of_getElem? (i := 577) (by decide +kernel))
theorem s_X2_55 : Cond.methodLinkNest RX2 55 (xmN B_put) "BeadSpirals" ∈ lw_tbl ∧ Cond.static (xmN B_put) ∈ lw_tbl := ⟨(List.mem_of_getElem? (i := 578) (by decide +kernel)), (List.mem_of_getElem? (i := 357) (by decide +kernel))⟩
theorem s_X2_59 : Cond.methodLinkNest RX2 59 (xmN C_putCell) "BeadSpirals" ∈ lw_tbl ∧ Cond.instanceMethod (xmN C_putCell) ∈ lw_tbl ∧ Cond.selects (xmN C_putCell).cls (xmN C_putCell) (xmN C_putCell) ∈ lw_tbl := ⟨(List.mem_of_getElem? (i := 579) (by decide +kernel)), (List.mem_of_getElem? (i := 354) (by decide +kernel)), (List.mem_of_getElem? (i := 12) (by decide +kernel))⟩
theorem s_X3_3 : Cond.methodLink RX3 3 ⟨"java/lang/Object", "<init>", "()V"⟩ ∈ lw_tbl := (List.mem_of_getElem? (i := 133) (by decide +kernel))
theorem s_X3_11 : Cond.methodLinkNest RX3 11 (xmN C_init) "BeadSpirals" ∈ lw_tbl ∧ Cond.instanceMethod (xmN C_init) ∈ lw_tbl := ⟨(List.mem_of_getElem? (i := 136) (by decide +kernel)), (List.mem_of_getElem? (i := 137) (by decide +kernel))⟩
theorem s_X3_25 : Cond.methodLinkNest RX3 25 (xmN B_copy) "BeadSpirals" ∈ lw_tbl ∧ Cond.static (xmN B_copy) ∈ lw_tbl := ⟨(List.mem_of_getElem? (i := 158) (by decide +kernel)), (List.mem_of_getElem? (i := 159) (by decide +kernel))⟩
theorem s_X3_54 : Cond.methodLinkNest RX3 54 (xmN C_copyFrom) "BeadSpirals" ∈ lw_tbl ∧ Cond.instanceMethod (xmN C_copyFrom) ∈ lw_tbl ∧ Cond.selects (xmN C_copyFrom).cls (xmN C_copyFrom) (xmN C_copyFrom) ∈ lw_tbl := ⟨(List.mem_of_getElem? (i := 608) (by decide +kernel)), (List.mem_of_getElem? (i := 610) (by decide +kernel)), (List.mem_of_getElem? (i := 43) (by decide +kernel))⟩
theorem s_X3_58 : Cond.methodLinkNest RX3 58 (xmN B_at) "BeadSpirals" ∈ lw_tbl ∧ Cond.static (xmN B_at) ∈ lw_tbl := ⟨(List.mem_of_getElem? (i := 300) (by decide +kernel)), (List.mem_of_getElem? (i := 271) (by decide +kernel))⟩
theorem s_X3_62 : Cond.methodLinkNest RX3 62 (xmN C_placeFor) "BeadSpirals" ∈ lw_tbl ∧ Cond.instanceMethod (xmN C_placeFor) ∈ lw_tbl ∧ Cond.selects (xmN C_placeFor).cls (xmN C_placeFor) (xmN C_placeFor) ∈ lw_tbl := ⟨(List.mem_of_getElem? (i := 305) (by decide +kernel)), (List.mem_of_getElem? (i := 307) (by decide +kernel)), (List.mem_of_getElem? (i := 5) (by decide +kernel))⟩
theorem s_X3_69 : Cond.methodLinkNest RX3 69 (xmN B_quotient) "BeadSpirals" ∈ lw_tbl ∧ Cond.static (xmN B_quotient) ∈ lw_tbl := ⟨(List.mem_of_getElem? (i := 807) (by decide +kernel)), (List.mem_of_getElem? (i := 808) (by decide +kernel))⟩
theorem s_X3_73 : Cond.methodLink RX3 73 (xmN W_patternColour) ∈ lw_tbl ∧ Cond.instanceMethod (xmN W_patternColour) ∈ lw_tbl ∧ Cond.selects (xmN W_patternColour).cls (xmN W_patternColour) (xmN W_patternColour) ∈ lw_tbl := ⟨(List.mem_of_getElem? (i := 301) (by decide +kernel)), (List.mem_of_getElem? (i := 303) (by decide +kernel)), (List.mem_of_getElem? (i := 4) (by decide +kernel))⟩
theorem s_X3_77 : Cond.methodLink RX3 77 (xmN W_isWrong) ∈ lw_tbl ∧ Cond.instanceMethod (xmN W_isWrong) ∈ lw_tbl ∧ Cond.selects (xmN W_isWrong).cls (xmN W_isWrong) (xmN W_isWrong) ∈ lw_tbl := ⟨(List.mem_of_getElem? (i := 296) (by decide +kernel)), (List.mem_of_getElem? (i := 298) (by decide +kernel)), (List.mem_of_getElem? (i := 3) (by decide +kernel))⟩
theorem s_X3_81 : Cond.methodLink RX3 81 (xmN W_endOf) ∈ lw_tbl ∧ Cond.instanceMethod (xmN W_endOf) ∈ lw_tbl ∧ Cond.selects (xmN W_endOf).cls (xmN W_endOf) (xmN W_endOf) ∈ lw_tbl := ⟨(List.mem_of_getElem? (i := 403) (by decide +kernel)), (List.mem_of_getElem? (i := 405) (by decide +kernel)), (List.mem_of_getElem? (i := 21) (by decide +kernel))⟩
theorem s_X3_84 : Cond.methodLink RX3 84 (xmN W_isHidden) ∈ lw_tbl ∧ Cond.instanceMethod (xmN W_isHidden) ∈ lw_tbl ∧ Cond.selects (xmN W_isHidden).cls (xmN W_isHidden) (xmN W_isHidden) ∈ lw_tbl := ⟨(List.mem_of_getElem? (i := 380) (by decide +kernel)), (List.mem_of_getElem? (i := 382) (by decide +kernel)), (List.mem_of_getElem? (i := 16) (by decide +kernel))⟩
theorem s_X3_87 : Cond.methodLink RX3 87 (xmN W_lengthOf) ∈ lw_tbl ∧ Cond.instanceMethod (xmN W_lengthOf) ∈ lw_tbl ∧ Cond.selects (xmN W_lengthOf).cls (xmN W_lengthOf) (xmN W_lengthOf) ∈ lw_tbl := ⟨(List.mem_of_getElem? (i := 399) (by decide +kernel)), (List.mem_of_getElem? (i := 401) (by decide +kernel)), (List.mem_of_getElem? (i := 20) (by decide +kernel))⟩
theorem s_X3_90 : Cond.methodLink RX3 90 (xmN W_stringOf) ∈ lw_tbl ∧ Cond.instanceMethod (xmN W_stringOf) ∈ lw_tbl ∧ Cond.selects (xmN W_stringOf).cls (xmN W_stringOf) (xmN W_stringOf) ∈ lw_tbl := ⟨(List.mem_of_getElem? (i := 447) (by decide +kernel)), (List.mem_of_getElem? (i := 449) (by decide +kernel)), (List.mem_of_getElem? (i := 29) (by decide +kernel))⟩
theorem s_X3_93 : Cond.methodLink RX3 93 (xmN W_wrongBetween) ∈ lw_tbl ∧ Cond.instanceMethod (xmN W_wrongBetween) ∈ lw_tbl ∧ Cond.selects (xmN W_wrongBetween).cls (xmN W_wrongBetween) (xmN W_wrongBetween) ∈ lw_tbl := ⟨(List.mem_of_getElem? (i := 459) (by decide +kernel)), (List.mem_of_getElem? (i := 365) (by decide +kernel)), (List.mem_of_getElem? (i := 13) (by decide +kernel))⟩
theorem s_X3_96 : Cond.methodLinkNest RX3 96 (xmN B_occurrences) "BeadSpirals" ∈ lw_tbl ∧ Cond.static (xmN B_occurrences) ∈ lw_tbl := ⟨(List.mem_of_getElem? (i := 427) (by decide +kernel)), (List.mem_of_getElem? (i := 428) (by decide +kernel))⟩
theorem s_X3_100 : Cond.methodLinkNest RX3 100 (xmN C_cellsOf) "BeadSpirals" ∈ lw_tbl ∧ Cond.instanceMethod (xmN C_cellsOf) ∈ lw_tbl ∧ Cond.selects (xmN C_cellsOf).cls (xmN C_cellsOf) (xmN C_cellsOf) ∈ lw_tbl := ⟨(List.mem_of_getElem? (i := 430) (by decide +kernel)), (List.mem_of_getElem? (i := 393) (by decide +kernel)), (List.mem_of_getElem? (i := 18) (by decide +kernel))⟩
theorem s_X3_103 : Cond.methodLink RX3 103 (xmN W_wrongOf) ∈ lw_tbl ∧ Cond.instanceMethod (xmN W_wrongOf) ∈ lw_tbl ∧ Cond.selects (xmN W_wrongOf).cls (xmN W_wrongOf) (xmN W_wrongOf) ∈ lw_tbl := ⟨(List.mem_of_getElem? (i := 431) (by decide +kernel)), (List.mem_of_getElem? (i := 433) (by decide +kernel)), (List.mem_of_getElem? (i := 25) (by decide +kernel))⟩
theorem s_X3_106 : Cond.methodLink RX3 106 (xmN W_room) ∈ lw_tbl ∧ Cond.instanceMethod (xmN W_room) ∈ lw_tbl ∧ Cond.selects (xmN W_room).cls (xmN W_room) (xmN W_room) ∈ lw_tbl := ⟨(List.mem_of_getElem? (i := 699) (by decide +kernel)), (List.mem_of_getElem? (i := 397) (by decide +kernel)), (List.mem_of_getElem? (i := 19) (by decide +kernel))⟩
theorem s_X3_110 : Cond.methodLinkNest RX3 110 (xmN B_put) "BeadSpirals" ∈ lw_tbl ∧ Cond.static (xmN B_put) ∈ lw_tbl := ⟨(List.mem_of_getElem? (i := 705) (by decide +kernel)), (List.mem_of_getElem? (i := 357) (by decide +kernel))⟩
theorem s_X3_114 : Cond.methodLinkNest RX3 114 (xmN B_add) "BeadSpirals" ∈ lw_tbl ∧ Cond.static (xmN B_add) ∈ lw_tbl := ⟨(List.mem_of_getElem? (i := 706) (by decide +kernel)), (List.mem_of_getElem? (i := 679) (by decide +kernel))⟩
theorem s_X3_117 : Cond.methodLink RX3 117 (xmN W_lastHiddenPlace) ∈ lw_tbl ∧ Cond.instanceMethod (xmN W_lastHiddenPlace) ∈ lw_tbl ∧ Cond.selects (xmN W_lastHiddenPlace).cls (xmN W_lastHiddenPlace) (xmN W_lastHiddenPlace) ∈ lw_tbl := ⟨(List.mem_of_getElem? (i := 468) (by decide +kernel)), (List.mem_of_getElem? (i := 470) (by decide +kernel)), (List.mem_of_getElem? (i := 34) (by decide +kernel))⟩
theorem s_X4_1 : Cond.methodLink RX4 1 ⟨"java/lang/Object", "<init>", "()V"⟩ ∈ lw_tbl := (List.mem_of_getElem? (i := 125) (by decide +kernel))
theorem s_X4_9 : Cond.methodLinkNest RX4 9 (xmN W_init) "BeadSpirals" ∈ lw_tbl ∧ Cond.instanceMethod (xmN W_init) ∈ lw_tbl := ⟨(List.mem_of_getElem? (i := 130) (by decide +kernel)), (List.mem_of_getElem? (i := 131) (by decide +kernel))⟩
theorem s_X4_18 : Cond.methodLinkNest RX4 18 (xmN H_init) "BeadSpirals" ∈ lw_tbl ∧ Cond.instanceMethod (xmN H_init) ∈ lw_tbl := ⟨(List.mem_of_getElem? (i := 203) (by decide +kernel)), (List.mem_of_getElem? (i := 204) (by decide +kernel))⟩
theorem s_X4_25 : Cond.methodLinkNest RX4 25 (xmN T_init) "BeadSpirals" ∈ lw_tbl ∧ Cond.instanceMethod (xmN T_init) ∈ lw_tbl := ⟨(List.mem_of_getElem? (i := 223) (by decide +kernel)), (List.mem_of_getElem? (i := 224) (by decide +kernel))⟩
theorem s_X4_32 : Cond.methodLinkNest RX4 32 (xmN C_init) "BeadSpirals" ∈ lw_tbl ∧ Cond.instanceMethod (xmN C_init) ∈ lw_tbl := ⟨(List.mem_of_getElem? (i := 237) (by decide +kernel)), (List.mem_of_getElem? (i := 137) (by decide +kernel))⟩
theorem s_X4_41 : Cond.methodLinkNest RX4 41 (xmN T_isComplete) "BeadSpirals" ∈ lw_tbl ∧ Cond.instanceMethod (xmN T_isComplete) ∈ lw_tbl ∧ Cond.selects (xmN T_isComplete).cls (xmN T_isComplete) (xmN T_isComplete) ∈ lw_tbl := ⟨(List.mem_of_getElem? (i := 496) (by decide +kernel)), (List.mem_of_getElem? (i := 498) (by decide +kernel)), (List.mem_of_getElem? (i := 36) (by decide +kernel))⟩
theorem s_X4_49 : Cond.methodLink RX4 49 ⟨"java/lang/IllegalArgumentException", "<init>", "(Ljava/lang/String;)V"⟩ ∈ lw_tbl := (List.mem_of_getElem? (i := 543) (by decide +kernel))
theorem s_X4_52 : Cond.methodLinkNest RX4 52 (xmN T_readChart) "BeadSpirals" ∈ lw_tbl ∧ Cond.instanceMethod (xmN T_readChart) ∈ lw_tbl ∧ Cond.selects (xmN T_readChart).cls (xmN T_readChart) (xmN T_readChart) ∈ lw_tbl := ⟨(List.mem_of_getElem? (i := 569) (by decide +kernel)), (List.mem_of_getElem? (i := 571) (by decide +kernel)), (List.mem_of_getElem? (i := 38) (by decide +kernel))⟩
theorem s_X4_60 : Cond.methodLink RX4 60 ⟨"java/lang/IllegalStateException", "<init>", "(Ljava/lang/String;)V"⟩ ∈ lw_tbl := (List.mem_of_getElem? (i := 590) (by decide +kernel))
theorem s_X4_61 : Cond.methodLinkNest RX4 61 (xmN H_save) "BeadSpirals" ∈ lw_tbl ∧ Cond.instanceMethod (xmN H_save) ∈ lw_tbl ∧ Cond.selects (xmN H_save).cls (xmN H_save) (xmN H_save) ∈ lw_tbl := ⟨(List.mem_of_getElem? (i := 596) (by decide +kernel)), (List.mem_of_getElem? (i := 598) (by decide +kernel)), (List.mem_of_getElem? (i := 40) (by decide +kernel))⟩
theorem s_X4_68 : Cond.methodLinkNest RX4 68 (xmN C_copyFrom) "BeadSpirals" ∈ lw_tbl ∧ Cond.instanceMethod (xmN C_copyFrom) ∈ lw_tbl ∧ Cond.selects (xmN C_copyFrom).cls (xmN C_copyFrom) (xmN C_copyFrom) ∈ lw_tbl := ⟨(List.mem_of_getElem? (i := 613) (by decide +kernel)), (List.mem_of_getElem? (i := 610) (by decide +kernel)), (List.mem_of_getElem? (i := 43) (by decide +kernel))⟩
theorem s_X4_72 : Cond.methodLinkNest RX4 72 (xmN T_empty) "BeadSpirals" ∈ lw_tbl ∧ Cond.instanceMethod (xmN T_empty) ∈ lw_tbl ∧ Cond.selects (xmN T_empty).cls (xmN T_empty) (xmN T_empty) ∈ lw_tbl := ⟨(List.mem_of_getElem? (i := 258) (by decide +kernel)), (List.mem_of_getElem? (i := 260) (by decide +kernel)), (List.mem_of_getElem? (i := 0) (by decide +kernel))⟩
theorem s_X4_81 : Cond.methodLinkNest RX4 81 (xmN C_canTurn) "BeadSpirals" ∈ lw_tbl ∧ Cond.instanceMethod (xmN C_canTurn) ∈ lw_tbl ∧ Cond.selects (xmN C_canTurn).cls (xmN C_canTurn) (xmN C_canTurn) ∈ lw_tbl := ⟨(List.mem_of_getElem? (i := 332) (by decide +kernel)), (List.mem_of_getElem? (i := 334) (by decide +kernel)), (List.mem_of_getElem? (i := 8) (by decide +kernel))⟩
theorem s_X4_87 : Cond.methodLinkNest RX4 87 (xmN C_turnInto) "BeadSpirals" ∈ lw_tbl ∧ Cond.instanceMethod (xmN C_turnInto) ∈ lw_tbl ∧ Cond.selects (xmN C_turnInto).cls (xmN C_turnInto) (xmN C_turnInto) ∈ lw_tbl := ⟨(List.mem_of_getElem? (i := 336) (by decide +kernel)), (List.mem_of_getElem? (i := 338) (by decide +kernel)), (List.mem_of_getElem? (i := 9) (by decide +kernel))⟩
theorem s_X4_91 : Cond.methodLink RX4 91 (xmN B_isColour) ∈ lw_tbl ∧ Cond.static (xmN B_isColour) ∈ lw_tbl := ⟨(List.mem_of_getElem? (i := 630) (by decide +kernel)), (List.mem_of_getElem? (i := 631) (by decide +kernel))⟩
theorem s_X4_96 : Cond.methodLinkNest RX4 96 (xmN C_swapColours) "BeadSpirals" ∈ lw_tbl ∧ Cond.instanceMethod (xmN C_swapColours) ∈ lw_tbl ∧ Cond.selects (xmN C_swapColours).cls (xmN C_swapColours) (xmN C_swapColours) ∈ lw_tbl := ⟨(List.mem_of_getElem? (i := 634) (by decide +kernel)), (List.mem_of_getElem? (i := 636) (by decide +kernel)), (List.mem_of_getElem? (i := 44) (by decide +kernel))⟩
theorem s_X4_100 : Cond.methodLink RX4 100 (xmN B_isSetting) ∈ lw_tbl ∧ Cond.static (xmN B_isSetting) ∈ lw_tbl := ⟨(List.mem_of_getElem? (i := 646) (by decide +kernel)), (List.mem_of_getElem? (i := 647) (by decide +kernel))⟩
theorem s_X4_107 : Cond.methodLink RX4 107 ⟨"java/lang/IndexOutOfBoundsException", "<init>", "(Ljava/lang/String;)V"⟩ ∈ lw_tbl := (List.mem_of_getElem? (i := 659) (by decide +kernel))
theorem s_X4_111 : Cond.methodLink RX4 111 (xmN B_at) ∈ lw_tbl ∧ Cond.static (xmN B_at) ∈ lw_tbl := ⟨(List.mem_of_getElem? (i := 323) (by decide +kernel)), (List.mem_of_getElem? (i := 271) (by decide +kernel))⟩
theorem s_X4_123 : Cond.methodLink RX4 123 (xmN B_put) ∈ lw_tbl ∧ Cond.static (xmN B_put) ∈ lw_tbl := ⟨(List.mem_of_getElem? (i := 668) (by decide +kernel)), (List.mem_of_getElem? (i := 357) (by decide +kernel))⟩
theorem s_X4_134 : Cond.methodLink RX4 134 (xmN B_add) ∈ lw_tbl ∧ Cond.static (xmN B_add) ∈ lw_tbl := ⟨(List.mem_of_getElem? (i := 678) (by decide +kernel)), (List.mem_of_getElem? (i := 679) (by decide +kernel))⟩
theorem s_X4_140 : Cond.methodLink RX4 140 (xmN B_canBeStrungAtOnce) ∈ lw_tbl ∧ Cond.static (xmN B_canBeStrungAtOnce) ∈ lw_tbl := ⟨(List.mem_of_getElem? (i := 688) (by decide +kernel)), (List.mem_of_getElem? (i := 689) (by decide +kernel))⟩
theorem s_X4_143 : Cond.methodLink RX4 143 (xmN B_stringFresh) ∈ lw_tbl ∧ Cond.instanceMethod (xmN B_stringFresh) ∈ lw_tbl ∧ Cond.selects (xmN B_stringFresh).cls (xmN B_stringFresh) (xmN B_stringFresh) ∈ lw_tbl := ⟨(List.mem_of_getElem? (i := 691) (by decide +kernel)), (List.mem_of_getElem? (i := 693) (by decide +kernel)), (List.mem_of_getElem? (i := 45) (by decide +kernel))⟩
theorem s_X4_152 : Cond.methodLinkNest RX4 152 (xmN W_patternColour) "BeadSpirals" ∈ lw_tbl ∧ Cond.instanceMethod (xmN W_patternColour) ∈ lw_tbl ∧ Cond.selects (xmN W_patternColour).cls (xmN W_patternColour) (xmN W_patternColour) ∈ lw_tbl := ⟨(List.mem_of_getElem? (i := 715) (by decide +kernel)), (List.mem_of_getElem? (i := 303) (by decide +kernel)), (List.mem_of_getElem? (i := 4) (by decide +kernel))⟩
theorem s_X4_157 : Cond.methodLinkNest RX4 157 (xmN T_readWhole) "BeadSpirals" ∈ lw_tbl ∧ Cond.instanceMethod (xmN T_readWhole) ∈ lw_tbl ∧ Cond.selects (xmN T_readWhole).cls (xmN T_readWhole) (xmN T_readWhole) ∈ lw_tbl := ⟨(List.mem_of_getElem? (i := 724) (by decide +kernel)), (List.mem_of_getElem? (i := 726) (by decide +kernel)), (List.mem_of_getElem? (i := 48) (by decide +kernel))⟩
theorem s_X4_164 : Cond.methodLinkNest RX4 164 (xmN W_lengthOf) "BeadSpirals" ∈ lw_tbl ∧ Cond.instanceMethod (xmN W_lengthOf) ∈ lw_tbl ∧ Cond.selects (xmN W_lengthOf).cls (xmN W_lengthOf) (xmN W_lengthOf) ∈ lw_tbl := ⟨(List.mem_of_getElem? (i := 735) (by decide +kernel)), (List.mem_of_getElem? (i := 401) (by decide +kernel)), (List.mem_of_getElem? (i := 20) (by decide +kernel))⟩
theorem s_X4_172 : Cond.methodLinkNest RX4 172 (xmN W_isHidden) "BeadSpirals" ∈ lw_tbl ∧ Cond.instanceMethod (xmN W_isHidden) ∈ lw_tbl ∧ Cond.selects (xmN W_isHidden).cls (xmN W_isHidden) (xmN W_isHidden) ∈ lw_tbl := ⟨(List.mem_of_getElem? (i := 737) (by decide +kernel)), (List.mem_of_getElem? (i := 382) (by decide +kernel)), (List.mem_of_getElem? (i := 16) (by decide +kernel))⟩
theorem s_X4_175 : Cond.methodLink RX4 175 (xmN B_isStrung) ∈ lw_tbl ∧ Cond.instanceMethod (xmN B_isStrung) ∈ lw_tbl ∧ Cond.selects (xmN B_isStrung).cls (xmN B_isStrung) (xmN B_isStrung) ∈ lw_tbl := ⟨(List.mem_of_getElem? (i := 745) (by decide +kernel)), (List.mem_of_getElem? (i := 747) (by decide +kernel)), (List.mem_of_getElem? (i := 49) (by decide +kernel))⟩
theorem s_X4_180 : Cond.methodLinkNest RX4 180 (xmN W_crushBead) "BeadSpirals" ∈ lw_tbl ∧ Cond.instanceMethod (xmN W_crushBead) ∈ lw_tbl ∧ Cond.selects (xmN W_crushBead).cls (xmN W_crushBead) (xmN W_crushBead) ∈ lw_tbl := ⟨(List.mem_of_getElem? (i := 750) (by decide +kernel)), (List.mem_of_getElem? (i := 752) (by decide +kernel)), (List.mem_of_getElem? (i := 50) (by decide +kernel))⟩
theorem s_X4_186 : Cond.methodLinkNest RX4 186 (xmN W_takeOff) "BeadSpirals" ∈ lw_tbl ∧ Cond.instanceMethod (xmN W_takeOff) ∈ lw_tbl ∧ Cond.selects (xmN W_takeOff).cls (xmN W_takeOff) (xmN W_takeOff) ∈ lw_tbl := ⟨(List.mem_of_getElem? (i := 762) (by decide +kernel)), (List.mem_of_getElem? (i := 764) (by decide +kernel)), (List.mem_of_getElem? (i := 51) (by decide +kernel))⟩
theorem s_X4_199 : Cond.methodLinkNest RX4 199 (xmN T_errorIndex) "BeadSpirals" ∈ lw_tbl ∧ Cond.instanceMethod (xmN T_errorIndex) ∈ lw_tbl ∧ Cond.selects (xmN T_errorIndex).cls (xmN T_errorIndex) (xmN T_errorIndex) ∈ lw_tbl := ⟨(List.mem_of_getElem? (i := 266) (by decide +kernel)), (List.mem_of_getElem? (i := 268) (by decide +kernel)), (List.mem_of_getElem? (i := 1) (by decide +kernel))⟩
theorem s_X4_208 : Cond.methodLinkNest RX4 208 (xmN H_restore) "BeadSpirals" ∈ lw_tbl ∧ Cond.instanceMethod (xmN H_restore) ∈ lw_tbl ∧ Cond.selects (xmN H_restore).cls (xmN H_restore) (xmN H_restore) ∈ lw_tbl := ⟨(List.mem_of_getElem? (i := 783) (by decide +kernel)), (List.mem_of_getElem? (i := 785) (by decide +kernel)), (List.mem_of_getElem? (i := 52) (by decide +kernel))⟩
theorem s_X4_216 : Cond.methodLinkNest RX4 216 (xmN C_cellAt) "BeadSpirals" ∈ lw_tbl ∧ Cond.instanceMethod (xmN C_cellAt) ∈ lw_tbl ∧ Cond.selects (xmN C_cellAt).cls (xmN C_cellAt) (xmN C_cellAt) ∈ lw_tbl := ⟨(List.mem_of_getElem? (i := 418) (by decide +kernel)), (List.mem_of_getElem? (i := 346) (by decide +kernel)), (List.mem_of_getElem? (i := 11) (by decide +kernel))⟩
theorem s_X4_221 : Cond.methodLinkNest RX4 221 (xmN W_patternNumber) "BeadSpirals" ∈ lw_tbl ∧ Cond.instanceMethod (xmN W_patternNumber) ∈ lw_tbl ∧ Cond.selects (xmN W_patternNumber).cls (xmN W_patternNumber) (xmN W_patternNumber) ∈ lw_tbl := ⟨(List.mem_of_getElem? (i := 803) (by decide +kernel)), (List.mem_of_getElem? (i := 805) (by decide +kernel)), (List.mem_of_getElem? (i := 53) (by decide +kernel))⟩
theorem s_X4_226 : Cond.methodLinkNest RX4 226 (xmN W_beadNumber) "BeadSpirals" ∈ lw_tbl ∧ Cond.instanceMethod (xmN W_beadNumber) ∈ lw_tbl ∧ Cond.selects (xmN W_beadNumber).cls (xmN W_beadNumber) (xmN W_beadNumber) ∈ lw_tbl := ⟨(List.mem_of_getElem? (i := 443) (by decide +kernel)), (List.mem_of_getElem? (i := 445) (by decide +kernel)), (List.mem_of_getElem? (i := 28) (by decide +kernel))⟩
theorem s_X4_231 : Cond.methodLinkNest RX4 231 (xmN W_stringNumber) "BeadSpirals" ∈ lw_tbl ∧ Cond.instanceMethod (xmN W_stringNumber) ∈ lw_tbl ∧ Cond.selects (xmN W_stringNumber).cls (xmN W_stringNumber) (xmN W_stringNumber) ∈ lw_tbl := ⟨(List.mem_of_getElem? (i := 455) (by decide +kernel)), (List.mem_of_getElem? (i := 457) (by decide +kernel)), (List.mem_of_getElem? (i := 31) (by decide +kernel))⟩
theorem s_X4_236 : Cond.methodLinkNest RX4 236 (xmN W_colourNumber) "BeadSpirals" ∈ lw_tbl ∧ Cond.instanceMethod (xmN W_colourNumber) ∈ lw_tbl ∧ Cond.selects (xmN W_colourNumber).cls (xmN W_colourNumber) (xmN W_colourNumber) ∈ lw_tbl := ⟨(List.mem_of_getElem? (i := 423) (by decide +kernel)), (List.mem_of_getElem? (i := 425) (by decide +kernel)), (List.mem_of_getElem? (i := 24) (by decide +kernel))⟩
theorem s_X4_241 : Cond.methodLink RX4 241 (xmN B_numberOf) ∈ lw_tbl ∧ Cond.instanceMethod (xmN B_numberOf) ∈ lw_tbl ∧ Cond.selects (xmN B_numberOf).cls (xmN B_numberOf) (xmN B_numberOf) ∈ lw_tbl := ⟨(List.mem_of_getElem? (i := 372) (by decide +kernel)), (List.mem_of_getElem? (i := 374) (by decide +kernel)), (List.mem_of_getElem? (i := 14) (by decide +kernel))⟩
theorem s_X4_244 : Cond.methodLink RX4 244 (xmN B_isTotal) ∈ lw_tbl ∧ Cond.static (xmN B_isTotal) ∈ lw_tbl := ⟨(List.mem_of_getElem? (i := 856) (by decide +kernel)), (List.mem_of_getElem? (i := 857) (by decide +kernel))⟩
theorem s_X4_249 : Cond.methodLinkNest RX4 249 (xmN W_neededBeads) "BeadSpirals" ∈ lw_tbl ∧ Cond.instanceMethod (xmN W_neededBeads) ∈ lw_tbl ∧ Cond.selects (xmN W_neededBeads).cls (xmN W_neededBeads) (xmN W_neededBeads) ∈ lw_tbl := ⟨(List.mem_of_getElem? (i := 435) (by decide +kernel)), (List.mem_of_getElem? (i := 437) (by decide +kernel)), (List.mem_of_getElem? (i := 26) (by decide +kernel))⟩
theorem s_X4_254 : Cond.methodLinkNest RX4 254 (xmN W_plannedNumber) "BeadSpirals" ∈ lw_tbl ∧ Cond.instanceMethod (xmN W_plannedNumber) ∈ lw_tbl ∧ Cond.selects (xmN W_plannedNumber).cls (xmN W_plannedNumber) (xmN W_plannedNumber) ∈ lw_tbl := ⟨(List.mem_of_getElem? (i := 464) (by decide +kernel)), (List.mem_of_getElem? (i := 466) (by decide +kernel)), (List.mem_of_getElem? (i := 33) (by decide +kernel))⟩
theorem s_X4_257 : Cond.methodLinkNest RX4 257 (xmN W_firstWrongBead) "BeadSpirals" ∈ lw_tbl ∧ Cond.instanceMethod (xmN W_firstWrongBead) ∈ lw_tbl ∧ Cond.selects (xmN W_firstWrongBead).cls (xmN W_firstWrongBead) (xmN W_firstWrongBead) ∈ lw_tbl := ⟨(List.mem_of_getElem? (i := 292) (by decide +kernel)), (List.mem_of_getElem? (i := 294) (by decide +kernel)), (List.mem_of_getElem? (i := 2) (by decide +kernel))⟩
theorem s_X4_261 : Cond.methodLinkNest RX4 261 (xmN W_rightByCrushing) "BeadSpirals" ∈ lw_tbl ∧ Cond.instanceMethod (xmN W_rightByCrushing) ∈ lw_tbl ∧ Cond.selects (xmN W_rightByCrushing).cls (xmN W_rightByCrushing) (xmN W_rightByCrushing) ∈ lw_tbl := ⟨(List.mem_of_getElem? (i := 313) (by decide +kernel)), (List.mem_of_getElem? (i := 315) (by decide +kernel)), (List.mem_of_getElem? (i := 6) (by decide +kernel))⟩
theorem s_X4_264 : Cond.methodLinkNest RX4 264 (xmN W_wrongBeadsBy) "BeadSpirals" ∈ lw_tbl ∧ Cond.instanceMethod (xmN W_wrongBeadsBy) ∈ lw_tbl ∧ Cond.selects (xmN W_wrongBeadsBy).cls (xmN W_wrongBeadsBy) (xmN W_wrongBeadsBy) ∈ lw_tbl := ⟨(List.mem_of_getElem? (i := 324) (by decide +kernel)), (List.mem_of_getElem? (i := 326) (by decide +kernel)), (List.mem_of_getElem? (i := 7) (by decide +kernel))⟩
theorem s_X4_268 : Cond.methodLinkNest RX4 268 (xmN W_wrongBetween) "BeadSpirals" ∈ lw_tbl ∧ Cond.instanceMethod (xmN W_wrongBetween) ∈ lw_tbl ∧ Cond.selects (xmN W_wrongBetween).cls (xmN W_wrongBetween) (xmN W_wrongBetween) ∈ lw_tbl := ⟨(List.mem_of_getElem? (i := 363) (by decide +kernel)), (List.mem_of_getElem? (i := 365) (by decide +kernel)), (List.mem_of_getElem? (i := 13) (by decide +kernel))⟩
theorem s_X4_273 : Cond.methodLink RX4 273 (xmN B_mixed) ∈ lw_tbl ∧ Cond.static (xmN B_mixed) ∈ lw_tbl := ⟨(List.mem_of_getElem? (i := 410) (by decide +kernel)), (List.mem_of_getElem? (i := 411) (by decide +kernel))⟩
theorem s_X4_277 : Cond.methodLink RX4 277 (xmN B_hashOfCells) ∈ lw_tbl ∧ Cond.instanceMethod (xmN B_hashOfCells) ∈ lw_tbl ∧ Cond.selects (xmN B_hashOfCells).cls (xmN B_hashOfCells) (xmN B_hashOfCells) ∈ lw_tbl := ⟨(List.mem_of_getElem? (i := 414) (by decide +kernel)), (List.mem_of_getElem? (i := 416) (by decide +kernel)), (List.mem_of_getElem? (i := 22) (by decide +kernel))⟩
theorem s_X4_281 : Cond.methodLink RX4 281 (xmN B_hashOfColours) ∈ lw_tbl ∧ Cond.instanceMethod (xmN B_hashOfColours) ∈ lw_tbl ∧ Cond.selects (xmN B_hashOfColours).cls (xmN B_hashOfColours) (xmN B_hashOfColours) ∈ lw_tbl := ⟨(List.mem_of_getElem? (i := 419) (by decide +kernel)), (List.mem_of_getElem? (i := 421) (by decide +kernel)), (List.mem_of_getElem? (i := 23) (by decide +kernel))⟩
theorem s_X4_284 : Cond.methodLink RX4 284 (xmN B_hashOfBeads) ∈ lw_tbl ∧ Cond.instanceMethod (xmN B_hashOfBeads) ∈ lw_tbl ∧ Cond.selects (xmN B_hashOfBeads).cls (xmN B_hashOfBeads) (xmN B_hashOfBeads) ∈ lw_tbl := ⟨(List.mem_of_getElem? (i := 439) (by decide +kernel)), (List.mem_of_getElem? (i := 441) (by decide +kernel)), (List.mem_of_getElem? (i := 27) (by decide +kernel))⟩
theorem s_X4_287 : Cond.methodLink RX4 287 (xmN B_hashOfStrings) ∈ lw_tbl ∧ Cond.instanceMethod (xmN B_hashOfStrings) ∈ lw_tbl ∧ Cond.selects (xmN B_hashOfStrings).cls (xmN B_hashOfStrings) (xmN B_hashOfStrings) ∈ lw_tbl := ⟨(List.mem_of_getElem? (i := 451) (by decide +kernel)), (List.mem_of_getElem? (i := 453) (by decide +kernel)), (List.mem_of_getElem? (i := 30) (by decide +kernel))⟩
theorem s_X4_290 : Cond.methodLink RX4 290 (xmN B_hashOfPlans) ∈ lw_tbl ∧ Cond.instanceMethod (xmN B_hashOfPlans) ∈ lw_tbl ∧ Cond.selects (xmN B_hashOfPlans).cls (xmN B_hashOfPlans) (xmN B_hashOfPlans) ∈ lw_tbl := ⟨(List.mem_of_getElem? (i := 460) (by decide +kernel)), (List.mem_of_getElem? (i := 462) (by decide +kernel)), (List.mem_of_getElem? (i := 32) (by decide +kernel))⟩
theorem s_X4_293 : Cond.methodLink RX4 293 (xmN B_firstWrong) ∈ lw_tbl ∧ Cond.instanceMethod (xmN B_firstWrong) ∈ lw_tbl ∧ Cond.selects (xmN B_firstWrong).cls (xmN B_firstWrong) (xmN B_firstWrong) ∈ lw_tbl := ⟨(List.mem_of_getElem? (i := 472) (by decide +kernel)), (List.mem_of_getElem? (i := 289) (by decide +kernel)), (List.mem_of_getElem? (i := 290) (by decide +kernel))⟩
theorem s_X4_296 : Cond.methodLink RX4 296 (xmN B_bestCrush) ∈ lw_tbl ∧ Cond.instanceMethod (xmN B_bestCrush) ∈ lw_tbl ∧ Cond.selects (xmN B_bestCrush).cls (xmN B_bestCrush) (xmN B_bestCrush) ∈ lw_tbl := ⟨(List.mem_of_getElem? (i := 473) (by decide +kernel)), (List.mem_of_getElem? (i := 310) (by decide +kernel)), (List.mem_of_getElem? (i := 311) (by decide +kernel))⟩
theorem s_X4_299 : Cond.methodLink RX4 299 (xmN B_bestSlant) ∈ lw_tbl ∧ Cond.instanceMethod (xmN B_bestSlant) ∈ lw_tbl ∧ Cond.selects (xmN B_bestSlant).cls (xmN B_bestSlant) (xmN B_bestSlant) ∈ lw_tbl := ⟨(List.mem_of_getElem? (i := 474) (by decide +kernel)), (List.mem_of_getElem? (i := 318) (by decide +kernel)), (List.mem_of_getElem? (i := 319) (by decide +kernel))⟩
theorem s_X4_302 : Cond.methodLink RX4 302 (xmN B_bestTurn) ∈ lw_tbl ∧ Cond.instanceMethod (xmN B_bestTurn) ∈ lw_tbl ∧ Cond.selects (xmN B_bestTurn).cls (xmN B_bestTurn) (xmN B_bestTurn) ∈ lw_tbl := ⟨(List.mem_of_getElem? (i := 475) (by decide +kernel)), (List.mem_of_getElem? (i := 329) (by decide +kernel)), (List.mem_of_getElem? (i := 330) (by decide +kernel))⟩
theorem s_X4_305 : Cond.methodLink RX4 305 (xmN B_wrongShare) ∈ lw_tbl ∧ Cond.instanceMethod (xmN B_wrongShare) ∈ lw_tbl ∧ Cond.selects (xmN B_wrongShare).cls (xmN B_wrongShare) (xmN B_wrongShare) ∈ lw_tbl := ⟨(List.mem_of_getElem? (i := 476) (by decide +kernel)), (List.mem_of_getElem? (i := 360) (by decide +kernel)), (List.mem_of_getElem? (i := 361) (by decide +kernel))⟩
theorem s_X4_309 : Cond.methodLink RX4 309 (xmN B_bitsOf) ∈ lw_tbl ∧ Cond.static (xmN B_bitsOf) ∈ lw_tbl := ⟨(List.mem_of_getElem? (i := 477) (by decide +kernel)), (List.mem_of_getElem? (i := 478) (by decide +kernel))⟩
theorem s_X4_313 : Cond.methodLink RX4 313 (xmN B_hashOfBuffer) ∈ lw_tbl ∧ Cond.instanceMethod (xmN B_hashOfBuffer) ∈ lw_tbl ∧ Cond.selects (xmN B_hashOfBuffer).cls (xmN B_hashOfBuffer) (xmN B_hashOfBuffer) ∈ lw_tbl := ⟨(List.mem_of_getElem? (i := 483) (by decide +kernel)), (List.mem_of_getElem? (i := 485) (by decide +kernel)), (List.mem_of_getElem? (i := 35) (by decide +kernel))⟩
theorem s_X4_316 : Cond.methodLinkNest RX4 316 (xmN W_canTake) "BeadSpirals" ∈ lw_tbl ∧ Cond.instanceMethod (xmN W_canTake) ∈ lw_tbl ∧ Cond.selects (xmN W_canTake).cls (xmN W_canTake) (xmN W_canTake) ∈ lw_tbl := ⟨(List.mem_of_getElem? (i := 695) (by decide +kernel)), (List.mem_of_getElem? (i := 697) (by decide +kernel)), (List.mem_of_getElem? (i := 46) (by decide +kernel))⟩
theorem s_X4_322 : Cond.methodLinkNest RX4 322 (xmN W_takeOn) "BeadSpirals" ∈ lw_tbl ∧ Cond.instanceMethod (xmN W_takeOn) ∈ lw_tbl ∧ Cond.selects (xmN W_takeOn).cls (xmN W_takeOn) (xmN W_takeOn) ∈ lw_tbl := ⟨(List.mem_of_getElem? (i := 701) (by decide +kernel)), (List.mem_of_getElem? (i := 703) (by decide +kernel)), (List.mem_of_getElem? (i := 47) (by decide +kernel))⟩
theorem s_X4_326 : Cond.methodLinkNest RX4 326 (xmN W_openKnots) "BeadSpirals" ∈ lw_tbl ∧ Cond.instanceMethod (xmN W_openKnots) ∈ lw_tbl ∧ Cond.selects (xmN W_openKnots).cls (xmN W_openKnots) (xmN W_openKnots) ∈ lw_tbl := ⟨(List.mem_of_getElem? (i := 376) (by decide +kernel)), (List.mem_of_getElem? (i := 378) (by decide +kernel)), (List.mem_of_getElem? (i := 15) (by decide +kernel))⟩
theorem s_X4_329 : Cond.methodLink RX4 329 (xmN B_sum) ∈ lw_tbl ∧ Cond.static (xmN B_sum) ∈ lw_tbl := ⟨(List.mem_of_getElem? (i := 384) (by decide +kernel)), (List.mem_of_getElem? (i := 385) (by decide +kernel))⟩
theorem s_X4_338 : Cond.methodLinkNest RX4 338 (xmN C_differentColours) "BeadSpirals" ∈ lw_tbl ∧ Cond.instanceMethod (xmN C_differentColours) ∈ lw_tbl ∧ Cond.selects (xmN C_differentColours).cls (xmN C_differentColours) (xmN C_differentColours) ∈ lw_tbl := ⟨(List.mem_of_getElem? (i := 387) (by decide +kernel)), (List.mem_of_getElem? (i := 389) (by decide +kernel)), (List.mem_of_getElem? (i := 17) (by decide +kernel))⟩
theorem s_X4_341 : Cond.methodLinkNest RX4 341 (xmN W_room) "BeadSpirals" ∈ lw_tbl ∧ Cond.instanceMethod (xmN W_room) ∈ lw_tbl ∧ Cond.selects (xmN W_room).cls (xmN W_room) (xmN W_room) ∈ lw_tbl := ⟨(List.mem_of_getElem? (i := 395) (by decide +kernel)), (List.mem_of_getElem? (i := 397) (by decide +kernel)), (List.mem_of_getElem? (i := 19) (by decide +kernel))⟩
theorem s_X4_344 : Cond.methodLink RX4 344 ⟨"java/lang/Math", "max", "(II)I"⟩ ∈ lw_tbl := (List.mem_of_getElem? (i := 407) (by decide +kernel))
theorem s_X5_1 : Cond.methodLink RX5 1 ⟨"java/lang/Object", "<init>", "()V"⟩ ∈ lw_tbl := (List.mem_of_getElem? (i := 873) (by decide +kernel))
theorem s_X5_47 : Cond.methodLink RX5 47 (xmN M_within) ∈ lw_tbl ∧ Cond.static (xmN M_within) ∈ lw_tbl := ⟨(List.mem_of_getElem? (i := 955) (by decide +kernel)), (List.mem_of_getElem? (i := 956) (by decide +kernel))⟩
theorem s_X5_51 : Cond.methodLink RX5 51 (xmN M_roundOf) ∈ lw_tbl ∧ Cond.instanceMethod (xmN M_roundOf) ∈ lw_tbl ∧ Cond.selects (xmN M_roundOf).cls (xmN M_roundOf) (xmN M_roundOf) ∈ lw_tbl := ⟨(List.mem_of_getElem? (i := 1055) (by decide +kernel)), (List.mem_of_getElem? (i := 1057) (by decide +kernel)), (List.mem_of_getElem? (i := 73) (by decide +kernel))⟩
theorem s_X5_55 : Cond.methodLink RX5 55 (xmN M_rowOf) ∈ lw_tbl ∧ Cond.instanceMethod (xmN M_rowOf) ∈ lw_tbl ∧ Cond.selects (xmN M_rowOf).cls (xmN M_rowOf) (xmN M_rowOf) ∈ lw_tbl := ⟨(List.mem_of_getElem? (i := 1051) (by decide +kernel)), (List.mem_of_getElem? (i := 1053) (by decide +kernel)), (List.mem_of_getElem? (i := 72) (by decide +kernel))⟩
theorem s_X5_58 : Cond.methodLink RX5 58 (xmN M_columnOf) ∈ lw_tbl ∧ Cond.instanceMethod (xmN M_columnOf) ∈ lw_tbl ∧ Cond.selects (xmN M_columnOf).cls (xmN M_columnOf) (xmN M_columnOf) ∈ lw_tbl := ⟨(List.mem_of_getElem? (i := 1059) (by decide +kernel)), (List.mem_of_getElem? (i := 1061) (by decide +kernel)), (List.mem_of_getElem? (i := 74) (by decide +kernel))⟩
theorem s_X5_61 : Cond.methodLink RX5 61 (xmN M_chartAt) ∈ lw_tbl ∧ Cond.instanceMethod (xmN M_chartAt) ∈ lw_tbl ∧ Cond.selects (xmN M_chartAt).cls (xmN M_chartAt) (xmN M_chartAt) ∈ lw_tbl := ⟨(List.mem_of_getElem? (i := 997) (by decide +kernel)), (List.mem_of_getElem? (i := 999) (by decide +kernel)), (List.mem_of_getElem? (i := 65) (by decide +kernel))⟩
theorem s_X5_65 : Cond.methodLink RX5 65 (xmN M_colourOf) ∈ lw_tbl ∧ Cond.instanceMethod (xmN M_colourOf) ∈ lw_tbl ∧ Cond.selects (xmN M_colourOf).cls (xmN M_colourOf) (xmN M_colourOf) ∈ lw_tbl := ⟨(List.mem_of_getElem? (i := 1047) (by decide +kernel)), (List.mem_of_getElem? (i := 1049) (by decide +kernel)), (List.mem_of_getElem? (i := 71) (by decide +kernel))⟩
theorem s_X5_68 : Cond.methodLink RX5 68 (xmN M_isWrong) ∈ lw_tbl ∧ Cond.instanceMethod (xmN M_isWrong) ∈ lw_tbl ∧ Cond.selects (xmN M_isWrong).cls (xmN M_isWrong) (xmN M_isWrong) ∈ lw_tbl := ⟨(List.mem_of_getElem? (i := 1127) (by decide +kernel)), (List.mem_of_getElem? (i := 1129) (by decide +kernel)), (List.mem_of_getElem? (i := 80) (by decide +kernel))⟩
theorem s_X5_72 : Cond.methodLink RX5 72 (xmN M_wrongFrom) ∈ lw_tbl ∧ Cond.instanceMethod (xmN M_wrongFrom) ∈ lw_tbl ∧ Cond.selects (xmN M_wrongFrom).cls (xmN M_wrongFrom) (xmN M_wrongFrom) ∈ lw_tbl := ⟨(List.mem_of_getElem? (i := 1139) (by decide +kernel)), (List.mem_of_getElem? (i := 1141) (by decide +kernel)), (List.mem_of_getElem? (i := 82) (by decide +kernel))⟩
theorem s_X5_81 : Cond.methodLink RX5 81 (xmN M_rightUpTo) ∈ lw_tbl ∧ Cond.instanceMethod (xmN M_rightUpTo) ∈ lw_tbl ∧ Cond.selects (xmN M_rightUpTo).cls (xmN M_rightUpTo) (xmN M_rightUpTo) ∈ lw_tbl := ⟨(List.mem_of_getElem? (i := 943) (by decide +kernel)), (List.mem_of_getElem? (i := 945) (by decide +kernel)), (List.mem_of_getElem? (i := 54) (by decide +kernel))⟩
theorem s_X5_88 : Cond.methodLink RX5 88 (xmN M_isWhole) ∈ lw_tbl ∧ Cond.instanceMethod (xmN M_isWhole) ∈ lw_tbl ∧ Cond.selects (xmN M_isWhole).cls (xmN M_isWhole) (xmN M_isWhole) ∈ lw_tbl := ⟨(List.mem_of_getElem? (i := 951) (by decide +kernel)), (List.mem_of_getElem? (i := 953) (by decide +kernel)), (List.mem_of_getElem? (i := 56) (by decide +kernel))⟩
theorem s_X5_92 : Cond.methodLink RX5 92 (xmN M_layChart) ∈ lw_tbl ∧ Cond.instanceMethod (xmN M_layChart) ∈ lw_tbl ∧ Cond.selects (xmN M_layChart).cls (xmN M_layChart) (xmN M_layChart) ∈ lw_tbl := ⟨(List.mem_of_getElem? (i := 969) (by decide +kernel)), (List.mem_of_getElem? (i := 971) (by decide +kernel)), (List.mem_of_getElem? (i := 59) (by decide +kernel))⟩
theorem s_X5_95 : Cond.methodLink RX5 95 (xmN M_save) ∈ lw_tbl ∧ Cond.instanceMethod (xmN M_save) ∈ lw_tbl ∧ Cond.selects (xmN M_save).cls (xmN M_save) (xmN M_save) ∈ lw_tbl := ⟨(List.mem_of_getElem? (i := 977) (by decide +kernel)), (List.mem_of_getElem? (i := 979) (by decide +kernel)), (List.mem_of_getElem? (i := 61) (by decide +kernel))⟩
theorem s_X5_98 : Cond.methodLink RX5 98 (xmN M_takeOther) ∈ lw_tbl ∧ Cond.instanceMethod (xmN M_takeOther) ∈ lw_tbl ∧ Cond.selects (xmN M_takeOther).cls (xmN M_takeOther) (xmN M_takeOther) ∈ lw_tbl := ⟨(List.mem_of_getElem? (i := 981) (by decide +kernel)), (List.mem_of_getElem? (i := 983) (by decide +kernel)), (List.mem_of_getElem? (i := 62) (by decide +kernel))⟩
theorem s_X5_101 : Cond.methodLink RX5 101 (xmN M_canTurn) ∈ lw_tbl ∧ Cond.instanceMethod (xmN M_canTurn) ∈ lw_tbl ∧ Cond.selects (xmN M_canTurn).cls (xmN M_canTurn) (xmN M_canTurn) ∈ lw_tbl := ⟨(List.mem_of_getElem? (i := 989) (by decide +kernel)), (List.mem_of_getElem? (i := 991) (by decide +kernel)), (List.mem_of_getElem? (i := 63) (by decide +kernel))⟩
theorem s_X5_104 : Cond.methodLink RX5 104 (xmN M_layTurned) ∈ lw_tbl ∧ Cond.instanceMethod (xmN M_layTurned) ∈ lw_tbl ∧ Cond.selects (xmN M_layTurned).cls (xmN M_layTurned) (xmN M_layTurned) ∈ lw_tbl := ⟨(List.mem_of_getElem? (i := 993) (by decide +kernel)), (List.mem_of_getElem? (i := 995) (by decide +kernel)), (List.mem_of_getElem? (i := 64) (by decide +kernel))⟩
theorem s_X5_108 : Cond.methodLink RX5 108 (xmN M_isColour) ∈ lw_tbl ∧ Cond.static (xmN M_isColour) ∈ lw_tbl := ⟨(List.mem_of_getElem? (i := 966) (by decide +kernel)), (List.mem_of_getElem? (i := 967) (by decide +kernel))⟩
theorem s_X5_111 : Cond.methodLink RX5 111 (xmN M_isCell) ∈ lw_tbl ∧ Cond.instanceMethod (xmN M_isCell) ∈ lw_tbl ∧ Cond.selects (xmN M_isCell).cls (xmN M_isCell) (xmN M_isCell) ∈ lw_tbl := ⟨(List.mem_of_getElem? (i := 1005) (by decide +kernel)), (List.mem_of_getElem? (i := 1007) (by decide +kernel)), (List.mem_of_getElem? (i := 66) (by decide +kernel))⟩
theorem s_X5_115 : Cond.methodLink RX5 115 (xmN M_isSetting) ∈ lw_tbl ∧ Cond.static (xmN M_isSetting) ∈ lw_tbl := ⟨(List.mem_of_getElem? (i := 1013) (by decide +kernel)), (List.mem_of_getElem? (i := 1014) (by decide +kernel))⟩
theorem s_X5_118 : Cond.methodLink RX5 118 (xmN M_isValue) ∈ lw_tbl ∧ Cond.static (xmN M_isValue) ∈ lw_tbl := ⟨(List.mem_of_getElem? (i := 1016) (by decide +kernel)), (List.mem_of_getElem? (i := 1017) (by decide +kernel))⟩
theorem s_X5_121 : Cond.methodLink RX5 121 (xmN M_onLast) ∈ lw_tbl ∧ Cond.instanceMethod (xmN M_onLast) ∈ lw_tbl ∧ Cond.selects (xmN M_onLast).cls (xmN M_onLast) (xmN M_onLast) ∈ lw_tbl := ⟨(List.mem_of_getElem? (i := 1035) (by decide +kernel)), (List.mem_of_getElem? (i := 1037) (by decide +kernel)), (List.mem_of_getElem? (i := 69) (by decide +kernel))⟩
theorem s_X5_125 : Cond.methodLink RX5 125 (xmN M_wantNothing) ∈ lw_tbl ∧ Cond.instanceMethod (xmN M_wantNothing) ∈ lw_tbl ∧ Cond.selects (xmN M_wantNothing).cls (xmN M_wantNothing) (xmN M_wantNothing) ∈ lw_tbl := ⟨(List.mem_of_getElem? (i := 1027) (by decide +kernel)), (List.mem_of_getElem? (i := 1029) (by decide +kernel)), (List.mem_of_getElem? (i := 67) (by decide +kernel))⟩
theorem s_X5_128 : Cond.methodLink RX5 128 (xmN M_canString) ∈ lw_tbl ∧ Cond.instanceMethod (xmN M_canString) ∈ lw_tbl ∧ Cond.selects (xmN M_canString).cls (xmN M_canString) (xmN M_canString) ∈ lw_tbl := ⟨(List.mem_of_getElem? (i := 1031) (by decide +kernel)), (List.mem_of_getElem? (i := 1033) (by decide +kernel)), (List.mem_of_getElem? (i := 68) (by decide +kernel))⟩
theorem s_X5_131 : Cond.methodLink RX5 131 (xmN M_strings) ∈ lw_tbl ∧ Cond.instanceMethod (xmN M_strings) ∈ lw_tbl ∧ Cond.selects (xmN M_strings).cls (xmN M_strings) (xmN M_strings) ∈ lw_tbl := ⟨(List.mem_of_getElem? (i := 1039) (by decide +kernel)), (List.mem_of_getElem? (i := 1041) (by decide +kernel)), (List.mem_of_getElem? (i := 70) (by decide +kernel))⟩
theorem s_X5_137 : Cond.methodLink RX5 137 (xmN M_hides) ∈ lw_tbl ∧ Cond.instanceMethod (xmN M_hides) ∈ lw_tbl ∧ Cond.selects (xmN M_hides).cls (xmN M_hides) (xmN M_hides) ∈ lw_tbl := ⟨(List.mem_of_getElem? (i := 1071) (by decide +kernel)), (List.mem_of_getElem? (i := 1073) (by decide +kernel)), (List.mem_of_getElem? (i := 75) (by decide +kernel))⟩
theorem s_X5_140 : Cond.methodLink RX5 140 (xmN M_isBead) ∈ lw_tbl ∧ Cond.instanceMethod (xmN M_isBead) ∈ lw_tbl ∧ Cond.selects (xmN M_isBead).cls (xmN M_isBead) (xmN M_isBead) ∈ lw_tbl := ⟨(List.mem_of_getElem? (i := 1079) (by decide +kernel)), (List.mem_of_getElem? (i := 1081) (by decide +kernel)), (List.mem_of_getElem? (i := 76) (by decide +kernel))⟩
theorem s_X5_143 : Cond.methodLink RX5 143 (xmN M_stringOf) ∈ lw_tbl ∧ Cond.instanceMethod (xmN M_stringOf) ∈ lw_tbl ∧ Cond.selects (xmN M_stringOf).cls (xmN M_stringOf) (xmN M_stringOf) ∈ lw_tbl := ⟨(List.mem_of_getElem? (i := 1083) (by decide +kernel)), (List.mem_of_getElem? (i := 1085) (by decide +kernel)), (List.mem_of_getElem? (i := 77) (by decide +kernel))⟩
theorem s_X5_146 : Cond.methodLink RX5 146 (xmN M_endOf) ∈ lw_tbl ∧ Cond.instanceMethod (xmN M_endOf) ∈ lw_tbl ∧ Cond.selects (xmN M_endOf).cls (xmN M_endOf) (xmN M_endOf) ∈ lw_tbl := ⟨(List.mem_of_getElem? (i := 1087) (by decide +kernel)), (List.mem_of_getElem? (i := 1089) (by decide +kernel)), (List.mem_of_getElem? (i := 78) (by decide +kernel))⟩
theorem s_X5_159 : Cond.methodLink RX5 159 (xmN M_takesDigit) ∈ lw_tbl ∧ Cond.instanceMethod (xmN M_takesDigit) ∈ lw_tbl ∧ Cond.selects (xmN M_takesDigit).cls (xmN M_takesDigit) (xmN M_takesDigit) ∈ lw_tbl := ⟨(List.mem_of_getElem? (i := 958) (by decide +kernel)), (List.mem_of_getElem? (i := 960) (by decide +kernel)), (List.mem_of_getElem? (i := 57) (by decide +kernel))⟩
theorem s_X5_162 : Cond.methodLink RX5 162 (xmN M_takesColour) ∈ lw_tbl ∧ Cond.instanceMethod (xmN M_takesColour) ∈ lw_tbl ∧ Cond.selects (xmN M_takesColour).cls (xmN M_takesColour) (xmN M_takesColour) ∈ lw_tbl := ⟨(List.mem_of_getElem? (i := 962) (by decide +kernel)), (List.mem_of_getElem? (i := 964) (by decide +kernel)), (List.mem_of_getElem? (i := 58) (by decide +kernel))⟩
theorem s_X5_165 : Cond.methodLink RX5 165 (xmN M_takes) ∈ lw_tbl ∧ Cond.instanceMethod (xmN M_takes) ∈ lw_tbl ∧ Cond.selects (xmN M_takes).cls (xmN M_takes) (xmN M_takes) ∈ lw_tbl := ⟨(List.mem_of_getElem? (i := 947) (by decide +kernel)), (List.mem_of_getElem? (i := 949) (by decide +kernel)), (List.mem_of_getElem? (i := 55) (by decide +kernel))⟩
theorem s_X5_169 : Cond.methodLink RX5 169 (xmN M_cellsIn) ∈ lw_tbl ∧ Cond.instanceMethod (xmN M_cellsIn) ∈ lw_tbl ∧ Cond.selects (xmN M_cellsIn).cls (xmN M_cellsIn) (xmN M_cellsIn) ∈ lw_tbl := ⟨(List.mem_of_getElem? (i := 973) (by decide +kernel)), (List.mem_of_getElem? (i := 975) (by decide +kernel)), (List.mem_of_getElem? (i := 60) (by decide +kernel))⟩
theorem s_X5_172 : Cond.methodLink RX5 172 (xmN M_beadNow) ∈ lw_tbl ∧ Cond.instanceMethod (xmN M_beadNow) ∈ lw_tbl ∧ Cond.selects (xmN M_beadNow).cls (xmN M_beadNow) (xmN M_beadNow) ∈ lw_tbl := ⟨(List.mem_of_getElem? (i := 1123) (by decide +kernel)), (List.mem_of_getElem? (i := 1125) (by decide +kernel)), (List.mem_of_getElem? (i := 79) (by decide +kernel))⟩
theorem s_X5_175 : Cond.methodLink RX5 175 (xmN M_strandNow) ∈ lw_tbl ∧ Cond.instanceMethod (xmN M_strandNow) ∈ lw_tbl ∧ Cond.selects (xmN M_strandNow).cls (xmN M_strandNow) (xmN M_strandNow) ∈ lw_tbl := ⟨(List.mem_of_getElem? (i := 1135) (by decide +kernel)), (List.mem_of_getElem? (i := 1137) (by decide +kernel)), (List.mem_of_getElem? (i := 81) (by decide +kernel))⟩
theorem s_X5_178 : Cond.methodLink RX5 178 (xmN M_strung) ∈ lw_tbl ∧ Cond.instanceMethod (xmN M_strung) ∈ lw_tbl ∧ Cond.selects (xmN M_strung).cls (xmN M_strung) (xmN M_strung) ∈ lw_tbl := ⟨(List.mem_of_getElem? (i := 1151) (by decide +kernel)), (List.mem_of_getElem? (i := 1153) (by decide +kernel)), (List.mem_of_getElem? (i := 84) (by decide +kernel))⟩
theorem s_X5_182 : Cond.methodLink RX5 182 (xmN M_cellsOf) ∈ lw_tbl ∧ Cond.instanceMethod (xmN M_cellsOf) ∈ lw_tbl ∧ Cond.selects (xmN M_cellsOf).cls (xmN M_cellsOf) (xmN M_cellsOf) ∈ lw_tbl := ⟨(List.mem_of_getElem? (i := 1155) (by decide +kernel)), (List.mem_of_getElem? (i := 1157) (by decide +kernel)), (List.mem_of_getElem? (i := 85) (by decide +kernel))⟩
theorem s_X5_185 : Cond.methodLink RX5 185 (xmN M_colourNow) ∈ lw_tbl ∧ Cond.instanceMethod (xmN M_colourNow) ∈ lw_tbl ∧ Cond.selects (xmN M_colourNow).cls (xmN M_colourNow) (xmN M_colourNow) ∈ lw_tbl := ⟨(List.mem_of_getElem? (i := 1147) (by decide +kernel)), (List.mem_of_getElem? (i := 1149) (by decide +kernel)), (List.mem_of_getElem? (i := 83) (by decide +kernel))⟩
theorem s_X5_188 : Cond.methodLink RX5 188 (xmN M_wrongs) ∈ lw_tbl ∧ Cond.instanceMethod (xmN M_wrongs) ∈ lw_tbl ∧ Cond.selects (xmN M_wrongs).cls (xmN M_wrongs) (xmN M_wrongs) ∈ lw_tbl := ⟨(List.mem_of_getElem? (i := 1167) (by decide +kernel)), (List.mem_of_getElem? (i := 1169) (by decide +kernel)), (List.mem_of_getElem? (i := 87) (by decide +kernel))⟩
theorem s_X5_191 : Cond.methodLink RX5 191 (xmN M_bareKnots) ∈ lw_tbl ∧ Cond.instanceMethod (xmN M_bareKnots) ∈ lw_tbl ∧ Cond.selects (xmN M_bareKnots).cls (xmN M_bareKnots) (xmN M_bareKnots) ∈ lw_tbl := ⟨(List.mem_of_getElem? (i := 1171) (by decide +kernel)), (List.mem_of_getElem? (i := 1173) (by decide +kernel)), (List.mem_of_getElem? (i := 88) (by decide +kernel))⟩
theorem s_X5_194 : Cond.methodLink RX5 194 (xmN M_sumOf) ∈ lw_tbl ∧ Cond.instanceMethod (xmN M_sumOf) ∈ lw_tbl ∧ Cond.selects (xmN M_sumOf).cls (xmN M_sumOf) (xmN M_sumOf) ∈ lw_tbl := ⟨(List.mem_of_getElem? (i := 1175) (by decide +kernel)), (List.mem_of_getElem? (i := 1177) (by decide +kernel)), (List.mem_of_getElem? (i := 89) (by decide +kernel))⟩
theorem s_X5_197 : Cond.methodLink RX5 197 (xmN M_coloursThere) ∈ lw_tbl ∧ Cond.instanceMethod (xmN M_coloursThere) ∈ lw_tbl ∧ Cond.selects (xmN M_coloursThere).cls (xmN M_coloursThere) (xmN M_coloursThere) ∈ lw_tbl := ⟨(List.mem_of_getElem? (i := 1179) (by decide +kernel)), (List.mem_of_getElem? (i := 1181) (by decide +kernel)), (List.mem_of_getElem? (i := 90) (by decide +kernel))⟩
theorem s_X5_200 : Cond.methodLink RX5 200 (xmN M_room) ∈ lw_tbl ∧ Cond.instanceMethod (xmN M_room) ∈ lw_tbl ∧ Cond.selects (xmN M_room).cls (xmN M_room) (xmN M_room) ∈ lw_tbl := ⟨(List.mem_of_getElem? (i := 1183) (by decide +kernel)), (List.mem_of_getElem? (i := 1185) (by decide +kernel)), (List.mem_of_getElem? (i := 91) (by decide +kernel))⟩
theorem s_X5_203 : Cond.methodLink RX5 203 (xmN M_counted) ∈ lw_tbl ∧ Cond.instanceMethod (xmN M_counted) ∈ lw_tbl ∧ Cond.selects (xmN M_counted).cls (xmN M_counted) (xmN M_counted) ∈ lw_tbl := ⟨(List.mem_of_getElem? (i := 1163) (by decide +kernel)), (List.mem_of_getElem? (i := 1165) (by decide +kernel)), (List.mem_of_getElem? (i := 86) (by decide +kernel))⟩
theorem s_X5_206 : Cond.methodLink RX5 206 (xmN M_neededNow) ∈ lw_tbl ∧ Cond.instanceMethod (xmN M_neededNow) ∈ lw_tbl ∧ Cond.selects (xmN M_neededNow).cls (xmN M_neededNow) (xmN M_neededNow) ∈ lw_tbl := ⟨(List.mem_of_getElem? (i := 1195) (by decide +kernel)), (List.mem_of_getElem? (i := 1197) (by decide +kernel)), (List.mem_of_getElem? (i := 92) (by decide +kernel))⟩
theorem s_X5_210 : Cond.methodLink RX5 210 (xmN M_layFewest) ∈ lw_tbl ∧ Cond.instanceMethod (xmN M_layFewest) ∈ lw_tbl ∧ Cond.selects (xmN M_layFewest).cls (xmN M_layFewest) (xmN M_layFewest) ∈ lw_tbl := ⟨(List.mem_of_getElem? (i := 1207) (by decide +kernel)), (List.mem_of_getElem? (i := 1209) (by decide +kernel)), (List.mem_of_getElem? (i := 94) (by decide +kernel))⟩
theorem s_X5_213 : Cond.methodLink RX5 213 (xmN M_latest) ∈ lw_tbl ∧ Cond.instanceMethod (xmN M_latest) ∈ lw_tbl ∧ Cond.selects (xmN M_latest).cls (xmN M_latest) (xmN M_latest) ∈ lw_tbl := ⟨(List.mem_of_getElem? (i := 1212) (by decide +kernel)), (List.mem_of_getElem? (i := 1214) (by decide +kernel)), (List.mem_of_getElem? (i := 95) (by decide +kernel))⟩
theorem s_X5_216 : Cond.methodLink RX5 216 (xmN M_planNow) ∈ lw_tbl ∧ Cond.instanceMethod (xmN M_planNow) ∈ lw_tbl ∧ Cond.selects (xmN M_planNow).cls (xmN M_planNow) (xmN M_planNow) ∈ lw_tbl := ⟨(List.mem_of_getElem? (i := 1203) (by decide +kernel)), (List.mem_of_getElem? (i := 1205) (by decide +kernel)), (List.mem_of_getElem? (i := 93) (by decide +kernel))⟩
theorem s_X5_219 : Cond.methodLink RX5 219 (xmN M_wrongOne) ∈ lw_tbl ∧ Cond.instanceMethod (xmN M_wrongOne) ∈ lw_tbl ∧ Cond.selects (xmN M_wrongOne).cls (xmN M_wrongOne) (xmN M_wrongOne) ∈ lw_tbl := ⟨(List.mem_of_getElem? (i := 1220) (by decide +kernel)), (List.mem_of_getElem? (i := 1222) (by decide +kernel)), (List.mem_of_getElem? (i := 96) (by decide +kernel))⟩
theorem s_X5_222 : Cond.methodLink RX5 222 (xmN M_rightLeft) ∈ lw_tbl ∧ Cond.instanceMethod (xmN M_rightLeft) ∈ lw_tbl ∧ Cond.selects (xmN M_rightLeft).cls (xmN M_rightLeft) (xmN M_rightLeft) ∈ lw_tbl := ⟨(List.mem_of_getElem? (i := 1228) (by decide +kernel)), (List.mem_of_getElem? (i := 1230) (by decide +kernel)), (List.mem_of_getElem? (i := 97) (by decide +kernel))⟩
theorem s_X5_225 : Cond.methodLink RX5 225 (xmN M_slantNow) ∈ lw_tbl ∧ Cond.instanceMethod (xmN M_slantNow) ∈ lw_tbl ∧ Cond.selects (xmN M_slantNow).cls (xmN M_slantNow) (xmN M_slantNow) ∈ lw_tbl := ⟨(List.mem_of_getElem? (i := 1236) (by decide +kernel)), (List.mem_of_getElem? (i := 1238) (by decide +kernel)), (List.mem_of_getElem? (i := 98) (by decide +kernel))⟩
theorem s_X5_228 : Cond.methodLink RX5 228 (xmN M_wrongsTurned) ∈ lw_tbl ∧ Cond.instanceMethod (xmN M_wrongsTurned) ∈ lw_tbl ∧ Cond.selects (xmN M_wrongsTurned).cls (xmN M_wrongsTurned) (xmN M_wrongsTurned) ∈ lw_tbl := ⟨(List.mem_of_getElem? (i := 1248) (by decide +kernel)), (List.mem_of_getElem? (i := 1250) (by decide +kernel)), (List.mem_of_getElem? (i := 100) (by decide +kernel))⟩
theorem s_X5_231 : Cond.methodLink RX5 231 (xmN M_turnNow) ∈ lw_tbl ∧ Cond.instanceMethod (xmN M_turnNow) ∈ lw_tbl ∧ Cond.selects (xmN M_turnNow).cls (xmN M_turnNow) (xmN M_turnNow) ∈ lw_tbl := ⟨(List.mem_of_getElem? (i := 1244) (by decide +kernel)), (List.mem_of_getElem? (i := 1246) (by decide +kernel)), (List.mem_of_getElem? (i := 99) (by decide +kernel))⟩
theorem s_X5_234 : Cond.methodLink RX5 234 (xmN M_share) ∈ lw_tbl ∧ Cond.instanceMethod (xmN M_share) ∈ lw_tbl ∧ Cond.selects (xmN M_share).cls (xmN M_share) (xmN M_share) ∈ lw_tbl := ⟨(List.mem_of_getElem? (i := 1256) (by decide +kernel)), (List.mem_of_getElem? (i := 1258) (by decide +kernel)), (List.mem_of_getElem? (i := 101) (by decide +kernel))⟩
theorem s_X5_244 : Cond.methodLink RX5 244 (xmN M_mix) ∈ lw_tbl ∧ Cond.instanceMethod (xmN M_mix) ∈ lw_tbl ∧ Cond.selects (xmN M_mix).cls (xmN M_mix) (xmN M_mix) ∈ lw_tbl := ⟨(List.mem_of_getElem? (i := 1265) (by decide +kernel)), (List.mem_of_getElem? (i := 1267) (by decide +kernel)), (List.mem_of_getElem? (i := 102) (by decide +kernel))⟩
theorem s_X5_248 : Cond.methodLink RX5 248 (xmN D_doubleToLongBits) ∈ lw_tbl ∧ Cond.static (xmN D_doubleToLongBits) ∈ lw_tbl := ⟨(List.mem_of_getElem? (i := 1278) (by decide +kernel)), (List.mem_of_getElem? (i := 1279) (by decide +kernel))⟩
theorem s_X5_256 : Cond.methodLink RX5 256 (xmN M_mixChart) ∈ lw_tbl ∧ Cond.instanceMethod (xmN M_mixChart) ∈ lw_tbl ∧ Cond.selects (xmN M_mixChart).cls (xmN M_mixChart) (xmN M_mixChart) ∈ lw_tbl := ⟨(List.mem_of_getElem? (i := 1270) (by decide +kernel)), (List.mem_of_getElem? (i := 1272) (by decide +kernel)), (List.mem_of_getElem? (i := 103) (by decide +kernel))⟩
theorem s_X5_259 : Cond.methodLink RX5 259 (xmN M_mixWouldBe) ∈ lw_tbl ∧ Cond.instanceMethod (xmN M_mixWouldBe) ∈ lw_tbl ∧ Cond.selects (xmN M_mixWouldBe).cls (xmN M_mixWouldBe) (xmN M_mixWouldBe) ∈ lw_tbl := ⟨(List.mem_of_getElem? (i := 1274) (by decide +kernel)), (List.mem_of_getElem? (i := 1276) (by decide +kernel)), (List.mem_of_getElem? (i := 104) (by decide +kernel))⟩
theorem s_Jxe99ae_122 : Cond.methodLink RJxe99ae 122 (xmN D_isNaN) ∈ lw_tbl ∧ Cond.static (xmN D_isNaN) ∈ lw_tbl := ⟨(List.mem_of_getElem? (i := 1281) (by decide +kernel)), (List.mem_of_getElem? (i := 1282) (by decide +kernel))⟩
theorem s_Jxe99ae_134 : Cond.methodLink RJxe99ae 134 ⟨"java/lang/Double", "doubleToRawLongBits", "(D)J"⟩ ∈ lw_tbl := (List.mem_of_getElem? (i := 1284) (by decide +kernel))
theorem s_L_7 : Cond.methodLink RL 7 (xmN B_load) ∈ lw_tbl ∧ Cond.instanceMethod (xmN B_load) ∈ lw_tbl ∧ Cond.selects (xmN B_load).cls (xmN B_load) (xmN B_load) ∈ lw_tbl := ⟨(List.mem_of_getElem? (i := 492) (by decide +kernel)), (List.mem_of_getElem? (i := 493) (by decide +kernel)), (List.mem_of_getElem? (i := 494) (by decide +kernel))⟩
theorem s_L_17 : Cond.methodLink RL 17 (xmN B_turn) ∈ lw_tbl ∧ Cond.instanceMethod (xmN B_turn) ∈ lw_tbl ∧ Cond.selects (xmN B_turn).cls (xmN B_turn) (xmN B_turn) ∈ lw_tbl := ⟨(List.mem_of_getElem? (i := 617) (by decide +kernel)), (List.mem_of_getElem? (i := 618) (by decide +kernel)), (List.mem_of_getElem? (i := 619) (by decide +kernel))⟩
theorem s_L_21 : Cond.methodLink RL 21 (xmN B_recolour) ∈ lw_tbl ∧ Cond.instanceMethod (xmN B_recolour) ∈ lw_tbl ∧ Cond.selects (xmN B_recolour).cls (xmN B_recolour) (xmN B_recolour) ∈ lw_tbl := ⟨(List.mem_of_getElem? (i := 626) (by decide +kernel)), (List.mem_of_getElem? (i := 627) (by decide +kernel)), (List.mem_of_getElem? (i := 628) (by decide +kernel))⟩
theorem s_L_25 : Cond.methodLink RL 25 (xmN B_set) ∈ lw_tbl ∧ Cond.instanceMethod (xmN B_set) ∈ lw_tbl ∧ Cond.selects (xmN B_set).cls (xmN B_set) (xmN B_set) ∈ lw_tbl := ⟨(List.mem_of_getElem? (i := 642) (by decide +kernel)), (List.mem_of_getElem? (i := 643) (by decide +kernel)), (List.mem_of_getElem? (i := 644) (by decide +kernel))⟩
theorem s_L_30 : Cond.methodLink RL 30 (xmN B_buy) ∈ lw_tbl ∧ Cond.instanceMethod (xmN B_buy) ∈ lw_tbl ∧ Cond.selects (xmN B_buy).cls (xmN B_buy) (xmN B_buy) ∈ lw_tbl := ⟨(List.mem_of_getElem? (i := 672) (by decide +kernel)), (List.mem_of_getElem? (i := 673) (by decide +kernel)), (List.mem_of_getElem? (i := 674) (by decide +kernel))⟩
theorem s_L_33 : Cond.methodLink RL 33 (xmN B_string) ∈ lw_tbl ∧ Cond.instanceMethod (xmN B_string) ∈ lw_tbl ∧ Cond.selects (xmN B_string).cls (xmN B_string) (xmN B_string) ∈ lw_tbl := ⟨(List.mem_of_getElem? (i := 684) (by decide +kernel)), (List.mem_of_getElem? (i := 685) (by decide +kernel)), (List.mem_of_getElem? (i := 686) (by decide +kernel))⟩
theorem s_L_36 : Cond.methodLink RL 36 (xmN B_stringNext) ∈ lw_tbl ∧ Cond.instanceMethod (xmN B_stringNext) ∈ lw_tbl ∧ Cond.selects (xmN B_stringNext).cls (xmN B_stringNext) (xmN B_stringNext) ∈ lw_tbl := ⟨(List.mem_of_getElem? (i := 710) (by decide +kernel)), (List.mem_of_getElem? (i := 711) (by decide +kernel)), (List.mem_of_getElem? (i := 712) (by decide +kernel))⟩
theorem s_L_39 : Cond.methodLink RL 39 (xmN B_stringRow) ∈ lw_tbl ∧ Cond.instanceMethod (xmN B_stringRow) ∈ lw_tbl ∧ Cond.selects (xmN B_stringRow).cls (xmN B_stringRow) (xmN B_stringRow) ∈ lw_tbl := ⟨(List.mem_of_getElem? (i := 719) (by decide +kernel)), (List.mem_of_getElem? (i := 720) (by decide +kernel)), (List.mem_of_getElem? (i := 721) (by decide +kernel))⟩
theorem s_L_42 : Cond.methodLink RL 42 (xmN B_join) ∈ lw_tbl ∧ Cond.instanceMethod (xmN B_join) ∈ lw_tbl ∧ Cond.selects (xmN B_join).cls (xmN B_join) (xmN B_join) ∈ lw_tbl := ⟨(List.mem_of_getElem? (i := 731) (by decide +kernel)), (List.mem_of_getElem? (i := 732) (by decide +kernel)), (List.mem_of_getElem? (i := 733) (by decide +kernel))⟩
theorem s_L_45 : Cond.methodLink RL 45 (xmN B_crush) ∈ lw_tbl ∧ Cond.instanceMethod (xmN B_crush) ∈ lw_tbl ∧ Cond.selects (xmN B_crush).cls (xmN B_crush) (xmN B_crush) ∈ lw_tbl := ⟨(List.mem_of_getElem? (i := 741) (by decide +kernel)), (List.mem_of_getElem? (i := 742) (by decide +kernel)), (List.mem_of_getElem? (i := 743) (by decide +kernel))⟩
theorem s_L_48 : Cond.methodLink RL 48 (xmN B_unpick) ∈ lw_tbl ∧ Cond.instanceMethod (xmN B_unpick) ∈ lw_tbl ∧ Cond.selects (xmN B_unpick).cls (xmN B_unpick) (xmN B_unpick) ∈ lw_tbl := ⟨(List.mem_of_getElem? (i := 757) (by decide +kernel)), (List.mem_of_getElem? (i := 758) (by decide +kernel)), (List.mem_of_getElem? (i := 759) (by decide +kernel))⟩
theorem s_L_51 : Cond.methodLink RL 51 (xmN B_append) ∈ lw_tbl ∧ Cond.instanceMethod (xmN B_append) ∈ lw_tbl ∧ Cond.selects (xmN B_append).cls (xmN B_append) (xmN B_append) ∈ lw_tbl := ⟨(List.mem_of_getElem? (i := 769) (by decide +kernel)), (List.mem_of_getElem? (i := 770) (by decide +kernel)), (List.mem_of_getElem? (i := 771) (by decide +kernel))⟩
theorem s_L_54 : Cond.methodLink RL 54 (xmN B_undo) ∈ lw_tbl ∧ Cond.instanceMethod (xmN B_undo) ∈ lw_tbl ∧ Cond.selects (xmN B_undo).cls (xmN B_undo) (xmN B_undo) ∈ lw_tbl := ⟨(List.mem_of_getElem? (i := 778) (by decide +kernel)), (List.mem_of_getElem? (i := 779) (by decide +kernel)), (List.mem_of_getElem? (i := 780) (by decide +kernel))⟩
theorem s_L_57 : Cond.methodLink RL 57 (xmN B_cell) ∈ lw_tbl ∧ Cond.instanceMethod (xmN B_cell) ∈ lw_tbl ∧ Cond.selects (xmN B_cell).cls (xmN B_cell) (xmN B_cell) ∈ lw_tbl := ⟨(List.mem_of_getElem? (i := 790) (by decide +kernel)), (List.mem_of_getElem? (i := 791) (by decide +kernel)), (List.mem_of_getElem? (i := 792) (by decide +kernel))⟩
theorem s_L_60 : Cond.methodLink RL 60 (xmN B_pattern) ∈ lw_tbl ∧ Cond.instanceMethod (xmN B_pattern) ∈ lw_tbl ∧ Cond.selects (xmN B_pattern).cls (xmN B_pattern) (xmN B_pattern) ∈ lw_tbl := ⟨(List.mem_of_getElem? (i := 798) (by decide +kernel)), (List.mem_of_getElem? (i := 799) (by decide +kernel)), (List.mem_of_getElem? (i := 800) (by decide +kernel))⟩
theorem s_L_63 : Cond.methodLink RL 63 (xmN B_bead) ∈ lw_tbl ∧ Cond.instanceMethod (xmN B_bead) ∈ lw_tbl ∧ Cond.selects (xmN B_bead).cls (xmN B_bead) (xmN B_bead) ∈ lw_tbl := ⟨(List.mem_of_getElem? (i := 813) (by decide +kernel)), (List.mem_of_getElem? (i := 814) (by decide +kernel)), (List.mem_of_getElem? (i := 815) (by decide +kernel))⟩
theorem s_L_66 : Cond.methodLink RL 66 (xmN B_strand) ∈ lw_tbl ∧ Cond.instanceMethod (xmN B_strand) ∈ lw_tbl ∧ Cond.selects (xmN B_strand).cls (xmN B_strand) (xmN B_strand) ∈ lw_tbl := ⟨(List.mem_of_getElem? (i := 821) (by decide +kernel)), (List.mem_of_getElem? (i := 822) (by decide +kernel)), (List.mem_of_getElem? (i := 823) (by decide +kernel))⟩
theorem s_L_69 : Cond.methodLink RL 69 (xmN B_colour) ∈ lw_tbl ∧ Cond.instanceMethod (xmN B_colour) ∈ lw_tbl ∧ Cond.selects (xmN B_colour).cls (xmN B_colour) (xmN B_colour) ∈ lw_tbl := ⟨(List.mem_of_getElem? (i := 829) (by decide +kernel)), (List.mem_of_getElem? (i := 830) (by decide +kernel)), (List.mem_of_getElem? (i := 831) (by decide +kernel))⟩
theorem s_L_72 : Cond.methodLink RL 72 (xmN B_count) ∈ lw_tbl ∧ Cond.instanceMethod (xmN B_count) ∈ lw_tbl ∧ Cond.selects (xmN B_count).cls (xmN B_count) (xmN B_count) ∈ lw_tbl := ⟨(List.mem_of_getElem? (i := 837) (by decide +kernel)), (List.mem_of_getElem? (i := 838) (by decide +kernel)), (List.mem_of_getElem? (i := 839) (by decide +kernel))⟩
theorem s_L_75 : Cond.methodLink RL 75 (xmN B_setting) ∈ lw_tbl ∧ Cond.instanceMethod (xmN B_setting) ∈ lw_tbl ∧ Cond.selects (xmN B_setting).cls (xmN B_setting) (xmN B_setting) ∈ lw_tbl := ⟨(List.mem_of_getElem? (i := 845) (by decide +kernel)), (List.mem_of_getElem? (i := 846) (by decide +kernel)), (List.mem_of_getElem? (i := 847) (by decide +kernel))⟩
theorem s_L_78 : Cond.methodLink RL 78 (xmN B_needed) ∈ lw_tbl ∧ Cond.instanceMethod (xmN B_needed) ∈ lw_tbl ∧ Cond.selects (xmN B_needed).cls (xmN B_needed) (xmN B_needed) ∈ lw_tbl := ⟨(List.mem_of_getElem? (i := 852) (by decide +kernel)), (List.mem_of_getElem? (i := 853) (by decide +kernel)), (List.mem_of_getElem? (i := 854) (by decide +kernel))⟩
theorem s_L_81 : Cond.methodLink RL 81 (xmN B_plan) ∈ lw_tbl ∧ Cond.instanceMethod (xmN B_plan) ∈ lw_tbl ∧ Cond.selects (xmN B_plan).cls (xmN B_plan) (xmN B_plan) ∈ lw_tbl := ⟨(List.mem_of_getElem? (i := 863) (by decide +kernel)), (List.mem_of_getElem? (i := 864) (by decide +kernel)), (List.mem_of_getElem? (i := 865) (by decide +kernel))⟩
theorem s_L_84 : Cond.methodLink RL 84 (xmN B_init) ∈ lw_tbl ∧ Cond.instanceMethod (xmN B_init) ∈ lw_tbl := ⟨(List.mem_of_getElem? (i := 122) (by decide +kernel)), (List.mem_of_getElem? (i := 123) (by decide +kernel))⟩
theorem s_L_87 : Cond.methodLink RL 87 (xmN M_init) ∈ lw_tbl ∧ Cond.instanceMethod (xmN M_init) ∈ lw_tbl := ⟨(List.mem_of_getElem? (i := 870) (by decide +kernel)), (List.mem_of_getElem? (i := 871) (by decide +kernel))⟩
theorem s_L_88 : Cond.methodLink RL 88 (xmN L_load) ∈ lw_tbl ∧ Cond.static (xmN L_load) ∈ lw_tbl := ⟨(List.mem_of_getElem? (i := 487) (by decide +kernel)), (List.mem_of_getElem? (i := 488) (by decide +kernel))⟩
theorem s_L_93 : Cond.methodLink RL 93 (xmN M_load) ∈ lw_tbl ∧ Cond.instanceMethod (xmN M_load) ∈ lw_tbl ∧ Cond.selects (xmN M_load).cls (xmN M_load) (xmN M_load) ∈ lw_tbl := ⟨(List.mem_of_getElem? (i := 939) (by decide +kernel)), (List.mem_of_getElem? (i := 940) (by decide +kernel)), (List.mem_of_getElem? (i := 941) (by decide +kernel))⟩
theorem s_L_94 : Cond.methodLink RL 94 (xmN M_thrown) ∈ lw_tbl ∧ Cond.instanceMethod (xmN M_thrown) ∈ lw_tbl ∧ Cond.selects (xmN M_thrown).cls (xmN M_thrown) (xmN M_thrown) ∈ lw_tbl := ⟨(List.mem_of_getElem? (i := 935) (by decide +kernel)), (List.mem_of_getElem? (i := 936) (by decide +kernel)), (List.mem_of_getElem? (i := 937) (by decide +kernel))⟩
theorem s_L_97 : Cond.methodLink RL 97 (xmN L_turn) ∈ lw_tbl ∧ Cond.static (xmN L_turn) ∈ lw_tbl := ⟨(List.mem_of_getElem? (i := 614) (by decide +kernel)), (List.mem_of_getElem? (i := 615) (by decide +kernel))⟩
theorem s_L_100 : Cond.methodLink RL 100 (xmN M_turn) ∈ lw_tbl ∧ Cond.instanceMethod (xmN M_turn) ∈ lw_tbl ∧ Cond.selects (xmN M_turn).cls (xmN M_turn) (xmN M_turn) ∈ lw_tbl := ⟨(List.mem_of_getElem? (i := 985) (by decide +kernel)), (List.mem_of_getElem? (i := 986) (by decide +kernel)), (List.mem_of_getElem? (i := 987) (by decide +kernel))⟩
theorem s_L_101 : Cond.methodLink RL 101 (xmN L_recolour) ∈ lw_tbl ∧ Cond.static (xmN L_recolour) ∈ lw_tbl := ⟨(List.mem_of_getElem? (i := 623) (by decide +kernel)), (List.mem_of_getElem? (i := 624) (by decide +kernel))⟩
theorem s_L_104 : Cond.methodLink RL 104 (xmN M_recolour) ∈ lw_tbl ∧ Cond.instanceMethod (xmN M_recolour) ∈ lw_tbl ∧ Cond.selects (xmN M_recolour).cls (xmN M_recolour) (xmN M_recolour) ∈ lw_tbl := ⟨(List.mem_of_getElem? (i := 1001) (by decide +kernel)), (List.mem_of_getElem? (i := 1002) (by decide +kernel)), (List.mem_of_getElem? (i := 1003) (by decide +kernel))⟩
theorem s_L_105 : Cond.methodLink RL 105 (xmN L_set) ∈ lw_tbl ∧ Cond.static (xmN L_set) ∈ lw_tbl := ⟨(List.mem_of_getElem? (i := 638) (by decide +kernel)), (List.mem_of_getElem? (i := 639) (by decide +kernel))⟩
theorem s_L_107 : Cond.methodLink RL 107 (xmN M_set) ∈ lw_tbl ∧ Cond.instanceMethod (xmN M_set) ∈ lw_tbl ∧ Cond.selects (xmN M_set).cls (xmN M_set) (xmN M_set) ∈ lw_tbl := ⟨(List.mem_of_getElem? (i := 1009) (by decide +kernel)), (List.mem_of_getElem? (i := 1010) (by decide +kernel)), (List.mem_of_getElem? (i := 1011) (by decide +kernel))⟩
theorem s_L_108 : Cond.methodLink RL 108 (xmN L_buy) ∈ lw_tbl ∧ Cond.static (xmN L_buy) ∈ lw_tbl := ⟨(List.mem_of_getElem? (i := 669) (by decide +kernel)), (List.mem_of_getElem? (i := 670) (by decide +kernel))⟩
theorem s_L_110 : Cond.methodLink RL 110 (xmN M_buy) ∈ lw_tbl ∧ Cond.instanceMethod (xmN M_buy) ∈ lw_tbl ∧ Cond.selects (xmN M_buy).cls (xmN M_buy) (xmN M_buy) ∈ lw_tbl := ⟨(List.mem_of_getElem? (i := 1019) (by decide +kernel)), (List.mem_of_getElem? (i := 1020) (by decide +kernel)), (List.mem_of_getElem? (i := 1021) (by decide +kernel))⟩
theorem s_L_111 : Cond.methodLink RL 111 (xmN L_string) ∈ lw_tbl ∧ Cond.static (xmN L_string) ∈ lw_tbl := ⟨(List.mem_of_getElem? (i := 681) (by decide +kernel)), (List.mem_of_getElem? (i := 682) (by decide +kernel))⟩
theorem s_L_113 : Cond.methodLink RL 113 (xmN M_string) ∈ lw_tbl ∧ Cond.instanceMethod (xmN M_string) ∈ lw_tbl ∧ Cond.selects (xmN M_string).cls (xmN M_string) (xmN M_string) ∈ lw_tbl := ⟨(List.mem_of_getElem? (i := 1023) (by decide +kernel)), (List.mem_of_getElem? (i := 1024) (by decide +kernel)), (List.mem_of_getElem? (i := 1025) (by decide +kernel))⟩
theorem s_L_114 : Cond.methodLink RL 114 (xmN L_stringNext) ∈ lw_tbl ∧ Cond.static (xmN L_stringNext) ∈ lw_tbl := ⟨(List.mem_of_getElem? (i := 707) (by decide +kernel)), (List.mem_of_getElem? (i := 708) (by decide +kernel))⟩
theorem s_L_116 : Cond.methodLink RL 116 (xmN M_stringNext) ∈ lw_tbl ∧ Cond.instanceMethod (xmN M_stringNext) ∈ lw_tbl ∧ Cond.selects (xmN M_stringNext).cls (xmN M_stringNext) (xmN M_stringNext) ∈ lw_tbl := ⟨(List.mem_of_getElem? (i := 1043) (by decide +kernel)), (List.mem_of_getElem? (i := 1044) (by decide +kernel)), (List.mem_of_getElem? (i := 1045) (by decide +kernel))⟩
theorem s_L_117 : Cond.methodLink RL 117 (xmN L_stringRow) ∈ lw_tbl ∧ Cond.static (xmN L_stringRow) ∈ lw_tbl := ⟨(List.mem_of_getElem? (i := 716) (by decide +kernel)), (List.mem_of_getElem? (i := 717) (by decide +kernel))⟩
theorem s_L_119 : Cond.methodLink RL 119 (xmN M_stringRow) ∈ lw_tbl ∧ Cond.instanceMethod (xmN M_stringRow) ∈ lw_tbl ∧ Cond.selects (xmN M_stringRow).cls (xmN M_stringRow) (xmN M_stringRow) ∈ lw_tbl := ⟨(List.mem_of_getElem? (i := 1063) (by decide +kernel)), (List.mem_of_getElem? (i := 1064) (by decide +kernel)), (List.mem_of_getElem? (i := 1065) (by decide +kernel))⟩
theorem s_L_120 : Cond.methodLink RL 120 (xmN L_join) ∈ lw_tbl ∧ Cond.static (xmN L_join) ∈ lw_tbl := ⟨(List.mem_of_getElem? (i := 728) (by decide +kernel)), (List.mem_of_getElem? (i := 729) (by decide +kernel))⟩
theorem s_L_122 : Cond.methodLink RL 122 (xmN M_join) ∈ lw_tbl ∧ Cond.instanceMethod (xmN M_join) ∈ lw_tbl ∧ Cond.selects (xmN M_join).cls (xmN M_join) (xmN M_join) ∈ lw_tbl := ⟨(List.mem_of_getElem? (i := 1067) (by decide +kernel)), (List.mem_of_getElem? (i := 1068) (by decide +kernel)), (List.mem_of_getElem? (i := 1069) (by decide +kernel))⟩
theorem s_L_123 : Cond.methodLink RL 123 (xmN L_crush) ∈ lw_tbl ∧ Cond.static (xmN L_crush) ∈ lw_tbl := ⟨(List.mem_of_getElem? (i := 738) (by decide +kernel)), (List.mem_of_getElem? (i := 739) (by decide +kernel))⟩
theorem s_L_125 : Cond.methodLink RL 125 (xmN M_crush) ∈ lw_tbl ∧ Cond.instanceMethod (xmN M_crush) ∈ lw_tbl ∧ Cond.selects (xmN M_crush).cls (xmN M_crush) (xmN M_crush) ∈ lw_tbl := ⟨(List.mem_of_getElem? (i := 1075) (by decide +kernel)), (List.mem_of_getElem? (i := 1076) (by decide +kernel)), (List.mem_of_getElem? (i := 1077) (by decide +kernel))⟩
theorem s_L_126 : Cond.methodLink RL 126 (xmN L_unpick) ∈ lw_tbl ∧ Cond.static (xmN L_unpick) ∈ lw_tbl := ⟨(List.mem_of_getElem? (i := 754) (by decide +kernel)), (List.mem_of_getElem? (i := 755) (by decide +kernel))⟩
theorem s_L_128 : Cond.methodLink RL 128 (xmN M_unpick) ∈ lw_tbl ∧ Cond.instanceMethod (xmN M_unpick) ∈ lw_tbl ∧ Cond.selects (xmN M_unpick).cls (xmN M_unpick) (xmN M_unpick) ∈ lw_tbl := ⟨(List.mem_of_getElem? (i := 1091) (by decide +kernel)), (List.mem_of_getElem? (i := 1092) (by decide +kernel)), (List.mem_of_getElem? (i := 1093) (by decide +kernel))⟩
theorem s_L_129 : Cond.methodLink RL 129 (xmN L_append) ∈ lw_tbl ∧ Cond.static (xmN L_append) ∈ lw_tbl := ⟨(List.mem_of_getElem? (i := 766) (by decide +kernel)), (List.mem_of_getElem? (i := 767) (by decide +kernel))⟩
theorem s_L_131 : Cond.methodLink RL 131 (xmN M_append) ∈ lw_tbl ∧ Cond.instanceMethod (xmN M_append) ∈ lw_tbl ∧ Cond.selects (xmN M_append).cls (xmN M_append) (xmN M_append) ∈ lw_tbl := ⟨(List.mem_of_getElem? (i := 1095) (by decide +kernel)), (List.mem_of_getElem? (i := 1096) (by decide +kernel)), (List.mem_of_getElem? (i := 1097) (by decide +kernel))⟩
theorem s_L_132 : Cond.methodLink RL 132 (xmN B_clearBuffer) ∈ lw_tbl ∧ Cond.instanceMethod (xmN B_clearBuffer) ∈ lw_tbl ∧ Cond.selects (xmN B_clearBuffer).cls (xmN B_clearBuffer) (xmN B_clearBuffer) ∈ lw_tbl := ⟨(List.mem_of_getElem? (i := 254) (by decide +kernel)), (List.mem_of_getElem? (i := 255) (by decide +kernel)), (List.mem_of_getElem? (i := 256) (by decide +kernel))⟩
theorem s_L_135 : Cond.methodLink RL 135 (xmN M_clearBuffer) ∈ lw_tbl ∧ Cond.instanceMethod (xmN M_clearBuffer) ∈ lw_tbl ∧ Cond.selects (xmN M_clearBuffer).cls (xmN M_clearBuffer) (xmN M_clearBuffer) ∈ lw_tbl := ⟨(List.mem_of_getElem? (i := 1099) (by decide +kernel)), (List.mem_of_getElem? (i := 1100) (by decide +kernel)), (List.mem_of_getElem? (i := 1101) (by decide +kernel))⟩
theorem s_L_136 : Cond.methodLink RL 136 (xmN B_firstError) ∈ lw_tbl ∧ Cond.instanceMethod (xmN B_firstError) ∈ lw_tbl ∧ Cond.selects (xmN B_firstError).cls (xmN B_firstError) (xmN B_firstError) ∈ lw_tbl := ⟨(List.mem_of_getElem? (i := 262) (by decide +kernel)), (List.mem_of_getElem? (i := 263) (by decide +kernel)), (List.mem_of_getElem? (i := 264) (by decide +kernel))⟩
theorem s_L_140 : Cond.methodLink RL 140 (xmN M_firstError) ∈ lw_tbl ∧ Cond.instanceMethod (xmN M_firstError) ∈ lw_tbl ∧ Cond.selects (xmN M_firstError).cls (xmN M_firstError) (xmN M_firstError) ∈ lw_tbl := ⟨(List.mem_of_getElem? (i := 1103) (by decide +kernel)), (List.mem_of_getElem? (i := 1104) (by decide +kernel)), (List.mem_of_getElem? (i := 1105) (by decide +kernel))⟩
theorem s_L_141 : Cond.methodLink RL 141 (xmN L_undo) ∈ lw_tbl ∧ Cond.static (xmN L_undo) ∈ lw_tbl := ⟨(List.mem_of_getElem? (i := 775) (by decide +kernel)), (List.mem_of_getElem? (i := 776) (by decide +kernel))⟩
theorem s_L_143 : Cond.methodLink RL 143 (xmN M_undo) ∈ lw_tbl ∧ Cond.instanceMethod (xmN M_undo) ∈ lw_tbl ∧ Cond.selects (xmN M_undo).cls (xmN M_undo) (xmN M_undo) ∈ lw_tbl := ⟨(List.mem_of_getElem? (i := 1107) (by decide +kernel)), (List.mem_of_getElem? (i := 1108) (by decide +kernel)), (List.mem_of_getElem? (i := 1109) (by decide +kernel))⟩
theorem s_L_144 : Cond.methodLink RL 144 (xmN L_cell) ∈ lw_tbl ∧ Cond.static (xmN L_cell) ∈ lw_tbl := ⟨(List.mem_of_getElem? (i := 787) (by decide +kernel)), (List.mem_of_getElem? (i := 788) (by decide +kernel))⟩
theorem s_L_146 : Cond.methodLink RL 146 (xmN M_cell) ∈ lw_tbl ∧ Cond.instanceMethod (xmN M_cell) ∈ lw_tbl ∧ Cond.selects (xmN M_cell).cls (xmN M_cell) (xmN M_cell) ∈ lw_tbl := ⟨(List.mem_of_getElem? (i := 1111) (by decide +kernel)), (List.mem_of_getElem? (i := 1112) (by decide +kernel)), (List.mem_of_getElem? (i := 1113) (by decide +kernel))⟩
theorem s_L_147 : Cond.methodLink RL 147 (xmN L_pattern) ∈ lw_tbl ∧ Cond.static (xmN L_pattern) ∈ lw_tbl := ⟨(List.mem_of_getElem? (i := 795) (by decide +kernel)), (List.mem_of_getElem? (i := 796) (by decide +kernel))⟩
theorem s_L_149 : Cond.methodLink RL 149 (xmN M_pattern) ∈ lw_tbl ∧ Cond.instanceMethod (xmN M_pattern) ∈ lw_tbl ∧ Cond.selects (xmN M_pattern).cls (xmN M_pattern) (xmN M_pattern) ∈ lw_tbl := ⟨(List.mem_of_getElem? (i := 1115) (by decide +kernel)), (List.mem_of_getElem? (i := 1116) (by decide +kernel)), (List.mem_of_getElem? (i := 1117) (by decide +kernel))⟩
theorem s_L_150 : Cond.methodLink RL 150 (xmN L_bead) ∈ lw_tbl ∧ Cond.static (xmN L_bead) ∈ lw_tbl := ⟨(List.mem_of_getElem? (i := 810) (by decide +kernel)), (List.mem_of_getElem? (i := 811) (by decide +kernel))⟩
theorem s_L_152 : Cond.methodLink RL 152 (xmN M_bead) ∈ lw_tbl ∧ Cond.instanceMethod (xmN M_bead) ∈ lw_tbl ∧ Cond.selects (xmN M_bead).cls (xmN M_bead) (xmN M_bead) ∈ lw_tbl := ⟨(List.mem_of_getElem? (i := 1119) (by decide +kernel)), (List.mem_of_getElem? (i := 1120) (by decide +kernel)), (List.mem_of_getElem? (i := 1121) (by decide +kernel))⟩
theorem s_L_153 : Cond.methodLink RL 153 (xmN L_strand) ∈ lw_tbl ∧ Cond.static (xmN L_strand) ∈ lw_tbl := ⟨(List.mem_of_getElem? (i := 818) (by decide +kernel)), (List.mem_of_getElem? (i := 819) (by decide +kernel))⟩
theorem s_L_155 : Cond.methodLink RL 155 (xmN M_strand) ∈ lw_tbl ∧ Cond.instanceMethod (xmN M_strand) ∈ lw_tbl ∧ Cond.selects (xmN M_strand).cls (xmN M_strand) (xmN M_strand) ∈ lw_tbl := ⟨(List.mem_of_getElem? (i := 1131) (by decide +kernel)), (List.mem_of_getElem? (i := 1132) (by decide +kernel)), (List.mem_of_getElem? (i := 1133) (by decide +kernel))⟩
theorem s_L_156 : Cond.methodLink RL 156 (xmN L_colour) ∈ lw_tbl ∧ Cond.static (xmN L_colour) ∈ lw_tbl := ⟨(List.mem_of_getElem? (i := 826) (by decide +kernel)), (List.mem_of_getElem? (i := 827) (by decide +kernel))⟩
theorem s_L_158 : Cond.methodLink RL 158 (xmN M_colour) ∈ lw_tbl ∧ Cond.instanceMethod (xmN M_colour) ∈ lw_tbl ∧ Cond.selects (xmN M_colour).cls (xmN M_colour) (xmN M_colour) ∈ lw_tbl := ⟨(List.mem_of_getElem? (i := 1143) (by decide +kernel)), (List.mem_of_getElem? (i := 1144) (by decide +kernel)), (List.mem_of_getElem? (i := 1145) (by decide +kernel))⟩
theorem s_L_159 : Cond.methodLink RL 159 (xmN L_count) ∈ lw_tbl ∧ Cond.static (xmN L_count) ∈ lw_tbl := ⟨(List.mem_of_getElem? (i := 834) (by decide +kernel)), (List.mem_of_getElem? (i := 835) (by decide +kernel))⟩
theorem s_L_161 : Cond.methodLink RL 161 (xmN M_count) ∈ lw_tbl ∧ Cond.instanceMethod (xmN M_count) ∈ lw_tbl ∧ Cond.selects (xmN M_count).cls (xmN M_count) (xmN M_count) ∈ lw_tbl := ⟨(List.mem_of_getElem? (i := 1159) (by decide +kernel)), (List.mem_of_getElem? (i := 1160) (by decide +kernel)), (List.mem_of_getElem? (i := 1161) (by decide +kernel))⟩
theorem s_L_162 : Cond.methodLink RL 162 (xmN L_setting) ∈ lw_tbl ∧ Cond.static (xmN L_setting) ∈ lw_tbl := ⟨(List.mem_of_getElem? (i := 842) (by decide +kernel)), (List.mem_of_getElem? (i := 843) (by decide +kernel))⟩
theorem s_L_164 : Cond.methodLink RL 164 (xmN M_setting) ∈ lw_tbl ∧ Cond.instanceMethod (xmN M_setting) ∈ lw_tbl ∧ Cond.selects (xmN M_setting).cls (xmN M_setting) (xmN M_setting) ∈ lw_tbl := ⟨(List.mem_of_getElem? (i := 1187) (by decide +kernel)), (List.mem_of_getElem? (i := 1188) (by decide +kernel)), (List.mem_of_getElem? (i := 1189) (by decide +kernel))⟩
theorem s_L_165 : Cond.methodLink RL 165 (xmN L_needed) ∈ lw_tbl ∧ Cond.static (xmN L_needed) ∈ lw_tbl := ⟨(List.mem_of_getElem? (i := 849) (by decide +kernel)), (List.mem_of_getElem? (i := 850) (by decide +kernel))⟩
theorem s_L_167 : Cond.methodLink RL 167 (xmN M_needed) ∈ lw_tbl ∧ Cond.instanceMethod (xmN M_needed) ∈ lw_tbl ∧ Cond.selects (xmN M_needed).cls (xmN M_needed) (xmN M_needed) ∈ lw_tbl := ⟨(List.mem_of_getElem? (i := 1191) (by decide +kernel)), (List.mem_of_getElem? (i := 1192) (by decide +kernel)), (List.mem_of_getElem? (i := 1193) (by decide +kernel))⟩
theorem s_L_168 : Cond.methodLink RL 168 (xmN L_plan) ∈ lw_tbl ∧ Cond.static (xmN L_plan) ∈ lw_tbl := ⟨(List.mem_of_getElem? (i := 860) (by decide +kernel)), (List.mem_of_getElem? (i := 861) (by decide +kernel))⟩
theorem s_L_170 : Cond.methodLink RL 170 (xmN M_plan) ∈ lw_tbl ∧ Cond.instanceMethod (xmN M_plan) ∈ lw_tbl ∧ Cond.selects (xmN M_plan).cls (xmN M_plan) (xmN M_plan) ∈ lw_tbl := ⟨(List.mem_of_getElem? (i := 1199) (by decide +kernel)), (List.mem_of_getElem? (i := 1200) (by decide +kernel)), (List.mem_of_getElem? (i := 1201) (by decide +kernel))⟩
theorem s_L_171 : Cond.methodLink RL 171 (xmN B_firstWrong) ∈ lw_tbl ∧ Cond.instanceMethod (xmN B_firstWrong) ∈ lw_tbl ∧ Cond.selects (xmN B_firstWrong).cls (xmN B_firstWrong) (xmN B_firstWrong) ∈ lw_tbl := ⟨(List.mem_of_getElem? (i := 288) (by decide +kernel)), (List.mem_of_getElem? (i := 289) (by decide +kernel)), (List.mem_of_getElem? (i := 290) (by decide +kernel))⟩
theorem s_L_174 : Cond.methodLink RL 174 (xmN M_firstWrong) ∈ lw_tbl ∧ Cond.instanceMethod (xmN M_firstWrong) ∈ lw_tbl ∧ Cond.selects (xmN M_firstWrong).cls (xmN M_firstWrong) (xmN M_firstWrong) ∈ lw_tbl := ⟨(List.mem_of_getElem? (i := 1216) (by decide +kernel)), (List.mem_of_getElem? (i := 1217) (by decide +kernel)), (List.mem_of_getElem? (i := 1218) (by decide +kernel))⟩
theorem s_L_175 : Cond.methodLink RL 175 (xmN B_bestCrush) ∈ lw_tbl ∧ Cond.instanceMethod (xmN B_bestCrush) ∈ lw_tbl ∧ Cond.selects (xmN B_bestCrush).cls (xmN B_bestCrush) (xmN B_bestCrush) ∈ lw_tbl := ⟨(List.mem_of_getElem? (i := 309) (by decide +kernel)), (List.mem_of_getElem? (i := 310) (by decide +kernel)), (List.mem_of_getElem? (i := 311) (by decide +kernel))⟩
theorem s_L_178 : Cond.methodLink RL 178 (xmN M_bestCrush) ∈ lw_tbl ∧ Cond.instanceMethod (xmN M_bestCrush) ∈ lw_tbl ∧ Cond.selects (xmN M_bestCrush).cls (xmN M_bestCrush) (xmN M_bestCrush) ∈ lw_tbl := ⟨(List.mem_of_getElem? (i := 1224) (by decide +kernel)), (List.mem_of_getElem? (i := 1225) (by decide +kernel)), (List.mem_of_getElem? (i := 1226) (by decide +kernel))⟩
theorem s_L_179 : Cond.methodLink RL 179 (xmN B_bestSlant) ∈ lw_tbl ∧ Cond.instanceMethod (xmN B_bestSlant) ∈ lw_tbl ∧ Cond.selects (xmN B_bestSlant).cls (xmN B_bestSlant) (xmN B_bestSlant) ∈ lw_tbl := ⟨(List.mem_of_getElem? (i := 317) (by decide +kernel)), (List.mem_of_getElem? (i := 318) (by decide +kernel)), (List.mem_of_getElem? (i := 319) (by decide +kernel))⟩
theorem s_L_182 : Cond.methodLink RL 182 (xmN M_bestSlant) ∈ lw_tbl ∧ Cond.instanceMethod (xmN M_bestSlant) ∈ lw_tbl ∧ Cond.selects (xmN M_bestSlant).cls (xmN M_bestSlant) (xmN M_bestSlant) ∈ lw_tbl := ⟨(List.mem_of_getElem? (i := 1232) (by decide +kernel)), (List.mem_of_getElem? (i := 1233) (by decide +kernel)), (List.mem_of_getElem? (i := 1234) (by decide +kernel))⟩
theorem s_L_183 : Cond.methodLink RL 183 (xmN B_bestTurn) ∈ lw_tbl ∧ Cond.instanceMethod (xmN B_bestTurn) ∈ lw_tbl ∧ Cond.selects (xmN B_bestTurn).cls (xmN B_bestTurn) (xmN B_bestTurn) ∈ lw_tbl := ⟨(List.mem_of_getElem? (i := 328) (by decide +kernel)), (List.mem_of_getElem? (i := 329) (by decide +kernel)), (List.mem_of_getElem? (i := 330) (by decide +kernel))⟩
theorem s_L_186 : Cond.methodLink RL 186 (xmN M_bestTurn) ∈ lw_tbl ∧ Cond.instanceMethod (xmN M_bestTurn) ∈ lw_tbl ∧ Cond.selects (xmN M_bestTurn).cls (xmN M_bestTurn) (xmN M_bestTurn) ∈ lw_tbl := ⟨(List.mem_of_getElem? (i := 1240) (by decide +kernel)), (List.mem_of_getElem? (i := 1241) (by decide +kernel)), (List.mem_of_getElem? (i := 1242) (by decide +kernel))⟩
theorem s_L_187 : Cond.methodLink RL 187 (xmN B_wrongShare) ∈ lw_tbl ∧ Cond.instanceMethod (xmN B_wrongShare) ∈ lw_tbl ∧ Cond.selects (xmN B_wrongShare).cls (xmN B_wrongShare) (xmN B_wrongShare) ∈ lw_tbl := ⟨(List.mem_of_getElem? (i := 359) (by decide +kernel)), (List.mem_of_getElem? (i := 360) (by decide +kernel)), (List.mem_of_getElem? (i := 361) (by decide +kernel))⟩
theorem s_L_191 : Cond.methodLink RL 191 (xmN M_wrongShare) ∈ lw_tbl ∧ Cond.instanceMethod (xmN M_wrongShare) ∈ lw_tbl ∧ Cond.selects (xmN M_wrongShare).cls (xmN M_wrongShare) (xmN M_wrongShare) ∈ lw_tbl := ⟨(List.mem_of_getElem? (i := 1252) (by decide +kernel)), (List.mem_of_getElem? (i := 1253) (by decide +kernel)), (List.mem_of_getElem? (i := 1254) (by decide +kernel))⟩
theorem s_L_192 : Cond.methodLink RL 192 (xmN B_digest) ∈ lw_tbl ∧ Cond.instanceMethod (xmN B_digest) ∈ lw_tbl ∧ Cond.selects (xmN B_digest).cls (xmN B_digest) (xmN B_digest) ∈ lw_tbl := ⟨(List.mem_of_getElem? (i := 367) (by decide +kernel)), (List.mem_of_getElem? (i := 368) (by decide +kernel)), (List.mem_of_getElem? (i := 369) (by decide +kernel))⟩
theorem s_L_196 : Cond.methodLink RL 196 (xmN M_digest) ∈ lw_tbl ∧ Cond.instanceMethod (xmN M_digest) ∈ lw_tbl ∧ Cond.selects (xmN M_digest).cls (xmN M_digest) (xmN M_digest) ∈ lw_tbl := ⟨(List.mem_of_getElem? (i := 1260) (by decide +kernel)), (List.mem_of_getElem? (i := 1261) (by decide +kernel)), (List.mem_of_getElem? (i := 1262) (by decide +kernel))⟩
theorem f_X0_9 : xFldOk RX0 9 0 0 (.array .int) true := ⟨RX0, TX0, 3, tyX0, rfl, by decide, xin0, tyX0_ok, nmX0, rfl, rfl, Or.inl (List.mem_of_getElem? (i := 140) (by decide +kernel))⟩
theorem ff_X0_9 : ∀ (C : String) (T : u_T) (N : Nat), xCl[0]? = some (C, T, N) → Cond.fieldLink RX0 9 (T 0).1 (T 0).2.1 (T 0).2.2.1 ∈ lw_tbl ∧ (T 0).1 = RX0 := by
  intro C T N h
  cases h
  exact ⟨(List.mem_of_getElem? (i := 140) (by decide +kernel)), rfl⟩
theorem f_X0_15 : xFldOk RX0 15 0 1 .int false := ⟨RX0, TX0, 3, tyX0, rfl, by decide, xin0, tyX0_ok, nmX0, rfl, rfl, Or.inl (List.mem_of_getElem? (i := 142) (by decide +kernel))⟩
theorem f_X0_19 : xFldOk RX0 19 0 2 .int false := ⟨RX0, TX0, 3, tyX0, rfl, by decide, xin0, tyX0_ok, nmX0, rfl, rfl, Or.inl (List.mem_of_getElem? (i := 145) (by decide +kernel))⟩
theorem f_X1_11 : xFldOk RX1 11 1 0 (.array (.object "BeadSpirals$Work")) true := ⟨RX1, TX1, 3, tyX1, rfl, by decide, xin1, tyX1_ok, nmX1, rfl, rfl, Or.inl (List.mem_of_getElem? (i := 210) (by decide +kernel))⟩
theorem ff_X1_11 : ∀ (C : String) (T : u_T) (N : Nat), xCl[1]? = some (C, T, N) → Cond.fieldLink RX1 11 (T 0).1 (T 0).2.1 (T 0).2.2.1 ∈ lw_tbl ∧ (T 0).1 = RX1 := by
  intro C T N h
  cases h
  exact ⟨(List.mem_of_getElem? (i := 210) (by decide +kernel)), rfl⟩
theorem f_X1_18 : xFldOk RX1 18 1 1 .int false := ⟨RX1, TX1, 3, tyX1, rfl, by decide, xin1, tyX1_ok, nmX1, rfl, rfl, Or.inl (List.mem_of_getElem? (i := 211) (by decide +kernel))⟩
theorem f_X1_22 : xFldOk RX1 22 1 2 .int false := ⟨RX1, TX1, 3, tyX1, rfl, by decide, xin1, tyX1_ok, nmX1, rfl, rfl, Or.inl (List.mem_of_getElem? (i := 212) (by decide +kernel))⟩
theorem f_X2_9 : xFldOk RX2 9 2 0 (.array .int) true := ⟨RX2, TX2, 2, tyX2, rfl, by decide, xin2, tyX2_ok, nmX2, rfl, rfl, Or.inl (List.mem_of_getElem? (i := 227) (by decide +kernel))⟩
theorem ff_X2_9 : ∀ (C : String) (T : u_T) (N : Nat), xCl[2]? = some (C, T, N) → Cond.fieldLink RX2 9 (T 0).1 (T 0).2.1 (T 0).2.2.1 ∈ lw_tbl ∧ (T 0).1 = RX2 := by
  intro C T N h
  cases h
  exact ⟨(List.mem_of_getElem? (i := 227) (by decide +kernel)), rfl⟩
theorem f_X2_15 : xFldOk RX2 15 2 1 .int false := ⟨RX2, TX2, 2, tyX2, rfl, by decide, xin2, tyX2_ok, nmX2, rfl, rfl, Or.inl (List.mem_of_getElem? (i := 229) (by decide +kernel))⟩
theorem f_X2_65 : xFldOk RX2 65 0 1 .int false := ⟨RX0, TX0, 3, tyX0, rfl, by decide, xin0, tyX0_ok, nmX0, rfl, rfl, Or.inr ⟨"BeadSpirals", (List.mem_of_getElem? (i := 144) (by decide +kernel))⟩⟩
theorem f_X2_68 : xFldOk RX2 68 0 2 .int false := ⟨RX0, TX0, 3, tyX0, rfl, by decide, xin0, tyX0_ok, nmX0, rfl, rfl, Or.inr ⟨"BeadSpirals", (List.mem_of_getElem? (i := 146) (by decide +kernel))⟩⟩
theorem f_X3_12 : xFldOk RX3 12 3 0 (.object "BeadSpirals$Chart") true := ⟨RX3, TX3, 10, tyX3, rfl, by decide, xin3, tyX3_ok, nmX3, rfl, rfl, Or.inl (List.mem_of_getElem? (i := 161) (by decide +kernel))⟩
theorem ff_X3_12 : ∀ (C : String) (T : u_T) (N : Nat), xCl[3]? = some (C, T, N) → Cond.fieldLink RX3 12 (T 0).1 (T 0).2.1 (T 0).2.2.1 ∈ lw_tbl ∧ (T 0).1 = RX3 := by
  intro C T N h
  cases h
  exact ⟨(List.mem_of_getElem? (i := 161) (by decide +kernel)), rfl⟩
theorem f_X3_18 : xFldOk RX3 18 3 1 (.array .int) true := ⟨RX3, TX3, 10, tyX3, rfl, by decide, xin3, tyX3_ok, nmX3, rfl, rfl, Or.inl (List.mem_of_getElem? (i := 163) (by decide +kernel))⟩
theorem ff_X3_18 : ∀ (C : String) (T : u_T) (N : Nat), xCl[3]? = some (C, T, N) → Cond.fieldLink RX3 18 (T 1).1 (T 1).2.1 (T 1).2.2.1 ∈ lw_tbl ∧ (T 1).1 = RX3 := by
  intro C T N h
  cases h
  exact ⟨(List.mem_of_getElem? (i := 163) (by decide +kernel)), rfl⟩
theorem g_X3_22 : Cond.fieldLink RX3 22 RX4 (xStat 1) "[I" ∈ lw_tbl ∨ ∃ host, Cond.fieldLinkNest RX3 22 RX4 (xStat 1) "[I" host ∈ lw_tbl := Or.inr ⟨"BeadSpirals", (List.mem_of_getElem? (i := 156) (by decide +kernel))⟩
theorem f_X3_29 : xFldOk RX3 29 3 2 (.array .int) true := ⟨RX3, TX3, 10, tyX3, rfl, by decide, xin3, tyX3_ok, nmX3, rfl, rfl, Or.inl (List.mem_of_getElem? (i := 165) (by decide +kernel))⟩
theorem ff_X3_29 : ∀ (C : String) (T : u_T) (N : Nat), xCl[3]? = some (C, T, N) → Cond.fieldLink RX3 29 (T 2).1 (T 2).2.1 (T 2).2.2.1 ∈ lw_tbl ∧ (T 2).1 = RX3 := by
  intro C T N h
  cases h
  exact ⟨(List.mem_of_getElem? (i := 165) (by decide +kernel)), rfl⟩
theorem f_X3_32 : xFldOk RX3 32 3 3 (.array .int) true := ⟨RX3, TX3, 10, tyX3, rfl, by decide, xin3, tyX3_ok, nmX3, rfl, rfl, Or.inl (List.mem_of_getElem? (i := 167) (by decide +kernel))⟩
theorem ff_X3_32 : ∀ (C : String) (T : u_T) (N : Nat), xCl[3]? = some (C, T, N) → Cond.fieldLink RX3 32 (T 3).1 (T 3).2.1 (T 3).2.2.1 ∈ lw_tbl ∧ (T 3).1 = RX3 := by
  intro C T N h
  cases h
  exact ⟨(List.mem_of_getElem? (i := 167) (by decide +kernel)), rfl⟩
theorem f_X3_35 : xFldOk RX3 35 3 4 (.array .int) true := ⟨RX3, TX3, 10, tyX3, rfl, by decide, xin3, tyX3_ok, nmX3, rfl, rfl, Or.inl (List.mem_of_getElem? (i := 169) (by decide +kernel))⟩
theorem ff_X3_35 : ∀ (C : String) (T : u_T) (N : Nat), xCl[3]? = some (C, T, N) → Cond.fieldLink RX3 35 (T 4).1 (T 4).2.1 (T 4).2.2.1 ∈ lw_tbl ∧ (T 4).1 = RX3 := by
  intro C T N h
  cases h
  exact ⟨(List.mem_of_getElem? (i := 169) (by decide +kernel)), rfl⟩
theorem f_X3_38 : xFldOk RX3 38 3 5 (.array .int) true := ⟨RX3, TX3, 10, tyX3, rfl, by decide, xin3, tyX3_ok, nmX3, rfl, rfl, Or.inl (List.mem_of_getElem? (i := 171) (by decide +kernel))⟩
theorem ff_X3_38 : ∀ (C : String) (T : u_T) (N : Nat), xCl[3]? = some (C, T, N) → Cond.fieldLink RX3 38 (T 5).1 (T 5).2.1 (T 5).2.2.1 ∈ lw_tbl ∧ (T 5).1 = RX3 := by
  intro C T N h
  cases h
  exact ⟨(List.mem_of_getElem? (i := 171) (by decide +kernel)), rfl⟩
theorem f_X3_41 : xFldOk RX3 41 3 6 (.array .int) true := ⟨RX3, TX3, 10, tyX3, rfl, by decide, xin3, tyX3_ok, nmX3, rfl, rfl, Or.inl (List.mem_of_getElem? (i := 172) (by decide +kernel))⟩
theorem ff_X3_41 : ∀ (C : String) (T : u_T) (N : Nat), xCl[3]? = some (C, T, N) → Cond.fieldLink RX3 41 (T 6).1 (T 6).2.1 (T 6).2.2.1 ∈ lw_tbl ∧ (T 6).1 = RX3 := by
  intro C T N h
  cases h
  exact ⟨(List.mem_of_getElem? (i := 172) (by decide +kernel)), rfl⟩
theorem f_X3_44 : xFldOk RX3 44 3 7 .int false := ⟨RX3, TX3, 10, tyX3, rfl, by decide, xin3, tyX3_ok, nmX3, rfl, rfl, Or.inl (List.mem_of_getElem? (i := 174) (by decide +kernel))⟩
theorem f_X3_48 : xFldOk RX3 48 3 8 .int false := ⟨RX3, TX3, 10, tyX3, rfl, by decide, xin3, tyX3_ok, nmX3, rfl, rfl, Or.inl (List.mem_of_getElem? (i := 176) (by decide +kernel))⟩
theorem f_X3_51 : xFldOk RX3 51 3 9 .int false := ⟨RX3, TX3, 10, tyX3, rfl, by decide, xin3, tyX3_ok, nmX3, rfl, rfl, Or.inl (List.mem_of_getElem? (i := 178) (by decide +kernel))⟩
theorem f_X3_66 : xFldOk RX3 66 0 0 (.array .int) true := ⟨RX0, TX0, 3, tyX0, rfl, by decide, xin0, tyX0_ok, nmX0, rfl, rfl, Or.inr ⟨"BeadSpirals", (List.mem_of_getElem? (i := 141) (by decide +kernel))⟩⟩
theorem f_X4_10 : xFldOk RX4 10 4 0 (.object "BeadSpirals$Work") true := ⟨RX4, TX4, 5, tyX4, rfl, by decide, xin4, tyX4_ok, nmX4, rfl, rfl, Or.inl (List.mem_of_getElem? (i := 238) (by decide +kernel))⟩
theorem ff_X4_10 : ∀ (C : String) (T : u_T) (N : Nat), xCl[4]? = some (C, T, N) → Cond.fieldLink RX4 10 (T 0).1 (T 0).2.1 (T 0).2.2.1 ∈ lw_tbl ∧ (T 0).1 = RX4 := by
  intro C T N h
  cases h
  exact ⟨(List.mem_of_getElem? (i := 238) (by decide +kernel)), rfl⟩
theorem f_X4_19 : xFldOk RX4 19 4 1 (.object "BeadSpirals$History") true := ⟨RX4, TX4, 5, tyX4, rfl, by decide, xin4, tyX4_ok, nmX4, rfl, rfl, Or.inl (List.mem_of_getElem? (i := 239) (by decide +kernel))⟩
theorem ff_X4_19 : ∀ (C : String) (T : u_T) (N : Nat), xCl[4]? = some (C, T, N) → Cond.fieldLink RX4 19 (T 1).1 (T 1).2.1 (T 1).2.2.1 ∈ lw_tbl ∧ (T 1).1 = RX4 := by
  intro C T N h
  cases h
  exact ⟨(List.mem_of_getElem? (i := 239) (by decide +kernel)), rfl⟩
theorem f_X4_26 : xFldOk RX4 26 4 2 (.object "BeadSpirals$Text") true := ⟨RX4, TX4, 5, tyX4, rfl, by decide, xin4, tyX4_ok, nmX4, rfl, rfl, Or.inl (List.mem_of_getElem? (i := 240) (by decide +kernel))⟩
theorem ff_X4_26 : ∀ (C : String) (T : u_T) (N : Nat), xCl[4]? = some (C, T, N) → Cond.fieldLink RX4 26 (T 2).1 (T 2).2.1 (T 2).2.2.1 ∈ lw_tbl ∧ (T 2).1 = RX4 := by
  intro C T N h
  cases h
  exact ⟨(List.mem_of_getElem? (i := 240) (by decide +kernel)), rfl⟩
theorem f_X4_33 : xFldOk RX4 33 4 3 (.object "BeadSpirals$Chart") true := ⟨RX4, TX4, 5, tyX4, rfl, by decide, xin4, tyX4_ok, nmX4, rfl, rfl, Or.inl (List.mem_of_getElem? (i := 241) (by decide +kernel))⟩
theorem ff_X4_33 : ∀ (C : String) (T : u_T) (N : Nat), xCl[4]? = some (C, T, N) → Cond.fieldLink RX4 33 (T 3).1 (T 3).2.1 (T 3).2.2.1 ∈ lw_tbl ∧ (T 3).1 = RX4 := by
  intro C T N h
  cases h
  exact ⟨(List.mem_of_getElem? (i := 241) (by decide +kernel)), rfl⟩
theorem f_X4_37 : xFldOk RX4 37 4 4 (.array .int) true := ⟨RX4, TX4, 5, tyX4, rfl, by decide, xin4, tyX4_ok, nmX4, rfl, rfl, Or.inl (List.mem_of_getElem? (i := 242) (by decide +kernel))⟩
theorem ff_X4_37 : ∀ (C : String) (T : u_T) (N : Nat), xCl[4]? = some (C, T, N) → Cond.fieldLink RX4 37 (T 4).1 (T 4).2.1 (T 4).2.2.1 ∈ lw_tbl ∧ (T 4).1 = RX4 := by
  intro C T N h
  cases h
  exact ⟨(List.mem_of_getElem? (i := 242) (by decide +kernel)), rfl⟩
theorem f_X4_65 : xFldOk RX4 65 3 0 (.object "BeadSpirals$Chart") true := ⟨RX3, TX3, 10, tyX3, rfl, by decide, xin3, tyX3_ok, nmX3, rfl, rfl, Or.inr ⟨"BeadSpirals", (List.mem_of_getElem? (i := 162) (by decide +kernel))⟩⟩
theorem f_X4_75 : xFldOk RX4 75 0 1 .int false := ⟨RX0, TX0, 3, tyX0, rfl, by decide, xin0, tyX0_ok, nmX0, rfl, rfl, Or.inr ⟨"BeadSpirals", (List.mem_of_getElem? (i := 143) (by decide +kernel))⟩⟩
theorem g_X4_108 : Cond.fieldLink RX4 108 RX4 (xStat 2) "[I" ∈ lw_tbl ∨ ∃ host, Cond.fieldLinkNest RX4 108 RX4 (xStat 2) "[I" host ∈ lw_tbl := Or.inl (List.mem_of_getElem? (i := 665) (by decide +kernel))
theorem g_X4_115 : Cond.fieldLink RX4 115 RX4 (xStat 3) "[I" ∈ lw_tbl ∨ ∃ host, Cond.fieldLinkNest RX4 115 RX4 (xStat 3) "[I" host ∈ lw_tbl := Or.inl (List.mem_of_getElem? (i := 321) (by decide +kernel))
theorem f_X4_120 : xFldOk RX4 120 3 1 (.array .int) true := ⟨RX3, TX3, 10, tyX3, rfl, by decide, xin3, tyX3_ok, nmX3, rfl, rfl, Or.inr ⟨"BeadSpirals", (List.mem_of_getElem? (i := 164) (by decide +kernel))⟩⟩
theorem f_X4_129 : xFldOk RX4 129 3 3 (.array .int) true := ⟨RX3, TX3, 10, tyX3, rfl, by decide, xin3, tyX3_ok, nmX3, rfl, rfl, Or.inr ⟨"BeadSpirals", (List.mem_of_getElem? (i := 168) (by decide +kernel))⟩⟩
theorem f_X4_137 : xFldOk RX4 137 3 2 (.array .int) true := ⟨RX3, TX3, 10, tyX3, rfl, by decide, xin3, tyX3_ok, nmX3, rfl, rfl, Or.inr ⟨"BeadSpirals", (List.mem_of_getElem? (i := 166) (by decide +kernel))⟩⟩
theorem f_X4_149 : xFldOk RX4 149 3 7 .int false := ⟨RX3, TX3, 10, tyX3, rfl, by decide, xin3, tyX3_ok, nmX3, rfl, rfl, Or.inr ⟨"BeadSpirals", (List.mem_of_getElem? (i := 175) (by decide +kernel))⟩⟩
theorem f_X4_161 : xFldOk RX4 161 3 8 .int false := ⟨RX3, TX3, 10, tyX3, rfl, by decide, xin3, tyX3_ok, nmX3, rfl, rfl, Or.inr ⟨"BeadSpirals", (List.mem_of_getElem? (i := 177) (by decide +kernel))⟩⟩
theorem f_X4_169 : xFldOk RX4 169 3 6 (.array .int) true := ⟨RX3, TX3, 10, tyX3, rfl, by decide, xin3, tyX3_ok, nmX3, rfl, rfl, Or.inr ⟨"BeadSpirals", (List.mem_of_getElem? (i := 173) (by decide +kernel))⟩⟩
theorem f_X4_191 : xFldOk RX4 191 2 1 .int false := ⟨RX2, TX2, 2, tyX2, rfl, by decide, xin2, tyX2_ok, nmX2, rfl, rfl, Or.inr ⟨"BeadSpirals", (List.mem_of_getElem? (i := 230) (by decide +kernel))⟩⟩
theorem f_X4_196 : xFldOk RX4 196 2 0 (.array .int) true := ⟨RX2, TX2, 2, tyX2, rfl, by decide, xin2, tyX2_ok, nmX2, rfl, rfl, Or.inr ⟨"BeadSpirals", (List.mem_of_getElem? (i := 228) (by decide +kernel))⟩⟩
theorem f_X4_203 : xFldOk RX4 203 1 2 .int false := ⟨RX1, TX1, 3, tyX1, rfl, by decide, xin1, tyX1_ok, nmX1, rfl, rfl, Or.inr ⟨"BeadSpirals", (List.mem_of_getElem? (i := 213) (by decide +kernel))⟩⟩
theorem f_X4_211 : xFldOk RX4 211 0 2 .int false := ⟨RX0, TX0, 3, tyX0, rfl, by decide, xin0, tyX0_ok, nmX0, rfl, rfl, Or.inr ⟨"BeadSpirals", (List.mem_of_getElem? (i := 147) (by decide +kernel))⟩⟩
theorem f_X4_332 : xFldOk RX4 332 3 4 (.array .int) true := ⟨RX3, TX3, 10, tyX3, rfl, by decide, xin3, tyX3_ok, nmX3, rfl, rfl, Or.inr ⟨"BeadSpirals", (List.mem_of_getElem? (i := 170) (by decide +kernel))⟩⟩
theorem f_X4_335 : xFldOk RX4 335 3 9 .int false := ⟨RX3, TX3, 10, tyX3, rfl, by decide, xin3, tyX3_ok, nmX3, rfl, rfl, Or.inr ⟨"BeadSpirals", (List.mem_of_getElem? (i := 179) (by decide +kernel))⟩⟩
theorem f_X5_7 : xFldOk RX5 7 5 0 (.array .int) true := ⟨RX5, TX5, 20, tyX5, rfl, by decide, xin5, tyX5_ok, nmX5, rfl, rfl, Or.inl (List.mem_of_getElem? (i := 874) (by decide +kernel))⟩
theorem ff_X5_7 : ∀ (C : String) (T : u_T) (N : Nat), xCl[5]? = some (C, T, N) → Cond.fieldLink RX5 7 (T 0).1 (T 0).2.1 (T 0).2.2.1 ∈ lw_tbl ∧ (T 0).1 = RX5 := by
  intro C T N h
  cases h
  exact ⟨(List.mem_of_getElem? (i := 874) (by decide +kernel)), rfl⟩
theorem f_X5_13 : xFldOk RX5 13 5 2 (.array .int) true := ⟨RX5, TX5, 20, tyX5, rfl, by decide, xin5, tyX5_ok, nmX5, rfl, rfl, Or.inl (List.mem_of_getElem? (i := 876) (by decide +kernel))⟩
theorem ff_X5_13 : ∀ (C : String) (T : u_T) (N : Nat), xCl[5]? = some (C, T, N) → Cond.fieldLink RX5 13 (T 2).1 (T 2).2.1 (T 2).2.2.1 ∈ lw_tbl ∧ (T 2).1 = RX5 := by
  intro C T N h
  cases h
  exact ⟨(List.mem_of_getElem? (i := 876) (by decide +kernel)), rfl⟩
theorem f_X5_16 : xFldOk RX5 16 5 4 (.array .int) true := ⟨RX5, TX5, 20, tyX5, rfl, by decide, xin5, tyX5_ok, nmX5, rfl, rfl, Or.inl (List.mem_of_getElem? (i := 878) (by decide +kernel))⟩
theorem ff_X5_16 : ∀ (C : String) (T : u_T) (N : Nat), xCl[5]? = some (C, T, N) → Cond.fieldLink RX5 16 (T 4).1 (T 4).2.1 (T 4).2.2.1 ∈ lw_tbl ∧ (T 4).1 = RX5 := by
  intro C T N h
  cases h
  exact ⟨(List.mem_of_getElem? (i := 878) (by decide +kernel)), rfl⟩
theorem f_X5_19 : xFldOk RX5 19 5 6 (.array .int) true := ⟨RX5, TX5, 20, tyX5, rfl, by decide, xin5, tyX5_ok, nmX5, rfl, rfl, Or.inl (List.mem_of_getElem? (i := 880) (by decide +kernel))⟩
theorem ff_X5_19 : ∀ (C : String) (T : u_T) (N : Nat), xCl[5]? = some (C, T, N) → Cond.fieldLink RX5 19 (T 6).1 (T 6).2.1 (T 6).2.2.1 ∈ lw_tbl ∧ (T 6).1 = RX5 := by
  intro C T N h
  cases h
  exact ⟨(List.mem_of_getElem? (i := 880) (by decide +kernel)), rfl⟩
theorem f_X5_22 : xFldOk RX5 22 5 9 (.array .int) true := ⟨RX5, TX5, 20, tyX5, rfl, by decide, xin5, tyX5_ok, nmX5, rfl, rfl, Or.inl (List.mem_of_getElem? (i := 883) (by decide +kernel))⟩
theorem ff_X5_22 : ∀ (C : String) (T : u_T) (N : Nat), xCl[5]? = some (C, T, N) → Cond.fieldLink RX5 22 (T 9).1 (T 9).2.1 (T 9).2.2.1 ∈ lw_tbl ∧ (T 9).1 = RX5 := by
  intro C T N h
  cases h
  exact ⟨(List.mem_of_getElem? (i := 883) (by decide +kernel)), rfl⟩
theorem f_X5_25 : xFldOk RX5 25 5 10 (.array .int) true := ⟨RX5, TX5, 20, tyX5, rfl, by decide, xin5, tyX5_ok, nmX5, rfl, rfl, Or.inl (List.mem_of_getElem? (i := 884) (by decide +kernel))⟩
theorem ff_X5_25 : ∀ (C : String) (T : u_T) (N : Nat), xCl[5]? = some (C, T, N) → Cond.fieldLink RX5 25 (T 10).1 (T 10).2.1 (T 10).2.2.1 ∈ lw_tbl ∧ (T 10).1 = RX5 := by
  intro C T N h
  cases h
  exact ⟨(List.mem_of_getElem? (i := 884) (by decide +kernel)), rfl⟩
theorem f_X5_28 : xFldOk RX5 28 5 11 (.array .int) true := ⟨RX5, TX5, 20, tyX5, rfl, by decide, xin5, tyX5_ok, nmX5, rfl, rfl, Or.inl (List.mem_of_getElem? (i := 885) (by decide +kernel))⟩
theorem ff_X5_28 : ∀ (C : String) (T : u_T) (N : Nat), xCl[5]? = some (C, T, N) → Cond.fieldLink RX5 28 (T 11).1 (T 11).2.1 (T 11).2.2.1 ∈ lw_tbl ∧ (T 11).1 = RX5 := by
  intro C T N h
  cases h
  exact ⟨(List.mem_of_getElem? (i := 885) (by decide +kernel)), rfl⟩
theorem f_X5_31 : xFldOk RX5 31 5 12 (.array .int) true := ⟨RX5, TX5, 20, tyX5, rfl, by decide, xin5, tyX5_ok, nmX5, rfl, rfl, Or.inl (List.mem_of_getElem? (i := 886) (by decide +kernel))⟩
theorem ff_X5_31 : ∀ (C : String) (T : u_T) (N : Nat), xCl[5]? = some (C, T, N) → Cond.fieldLink RX5 31 (T 12).1 (T 12).2.1 (T 12).2.2.1 ∈ lw_tbl ∧ (T 12).1 = RX5 := by
  intro C T N h
  cases h
  exact ⟨(List.mem_of_getElem? (i := 886) (by decide +kernel)), rfl⟩
theorem f_X5_34 : xFldOk RX5 34 5 17 (.array .int) true := ⟨RX5, TX5, 20, tyX5, rfl, by decide, xin5, tyX5_ok, nmX5, rfl, rfl, Or.inl (List.mem_of_getElem? (i := 891) (by decide +kernel))⟩
theorem ff_X5_34 : ∀ (C : String) (T : u_T) (N : Nat), xCl[5]? = some (C, T, N) → Cond.fieldLink RX5 34 (T 17).1 (T 17).2.1 (T 17).2.2.1 ∈ lw_tbl ∧ (T 17).1 = RX5 := by
  intro C T N h
  cases h
  exact ⟨(List.mem_of_getElem? (i := 891) (by decide +kernel)), rfl⟩
theorem f_X5_37 : xFldOk RX5 37 5 18 (.array .int) true := ⟨RX5, TX5, 20, tyX5, rfl, by decide, xin5, tyX5_ok, nmX5, rfl, rfl, Or.inl (List.mem_of_getElem? (i := 892) (by decide +kernel))⟩
theorem ff_X5_37 : ∀ (C : String) (T : u_T) (N : Nat), xCl[5]? = some (C, T, N) → Cond.fieldLink RX5 37 (T 18).1 (T 18).2.1 (T 18).2.2.1 ∈ lw_tbl ∧ (T 18).1 = RX5 := by
  intro C T N h
  cases h
  exact ⟨(List.mem_of_getElem? (i := 892) (by decide +kernel)), rfl⟩
theorem f_X5_40 : xFldOk RX5 40 5 5 .int false := ⟨RX5, TX5, 20, tyX5, rfl, by decide, xin5, tyX5_ok, nmX5, rfl, rfl, Or.inl (List.mem_of_getElem? (i := 879) (by decide +kernel))⟩
theorem f_X5_44 : xFldOk RX5 44 5 1 .int false := ⟨RX5, TX5, 20, tyX5, rfl, by decide, xin5, tyX5_ok, nmX5, rfl, rfl, Or.inl (List.mem_of_getElem? (i := 875) (by decide +kernel))⟩
theorem f_X5_75 : xFldOk RX5 75 5 7 .int false := ⟨RX5, TX5, 20, tyX5, rfl, by decide, xin5, tyX5_ok, nmX5, rfl, rfl, Or.inl (List.mem_of_getElem? (i := 881) (by decide +kernel))⟩
theorem f_X5_78 : xFldOk RX5 78 5 8 .int false := ⟨RX5, TX5, 20, tyX5, rfl, by decide, xin5, tyX5_ok, nmX5, rfl, rfl, Or.inl (List.mem_of_getElem? (i := 882) (by decide +kernel))⟩
theorem f_X5_85 : xFldOk RX5 85 5 3 .int false := ⟨RX5, TX5, 20, tyX5, rfl, by decide, xin5, tyX5_ok, nmX5, rfl, rfl, Or.inl (List.mem_of_getElem? (i := 877) (by decide +kernel))⟩
theorem f_X5_134 : xFldOk RX5 134 5 13 .int false := ⟨RX5, TX5, 20, tyX5, rfl, by decide, xin5, tyX5_ok, nmX5, rfl, rfl, Or.inl (List.mem_of_getElem? (i := 887) (by decide +kernel))⟩
theorem f_X5_149 : xFldOk RX5 149 5 16 .int false := ⟨RX5, TX5, 20, tyX5, rfl, by decide, xin5, tyX5_ok, nmX5, rfl, rfl, Or.inl (List.mem_of_getElem? (i := 890) (by decide +kernel))⟩
theorem f_X5_152 : xFldOk RX5 152 5 14 .int false := ⟨RX5, TX5, 20, tyX5, rfl, by decide, xin5, tyX5_ok, nmX5, rfl, rfl, Or.inl (List.mem_of_getElem? (i := 888) (by decide +kernel))⟩
theorem f_X5_155 : xFldOk RX5 155 5 15 .boolean false := ⟨RX5, TX5, 20, tyX5, rfl, by decide, xin5, tyX5_ok, nmX5, rfl, rfl, Or.inl (List.mem_of_getElem? (i := 889) (by decide +kernel))⟩
theorem f_X5_240 : xFldOk RX5 240 5 19 .long false := ⟨RX5, TX5, 20, tyX5, rfl, by decide, xin5, tyX5_ok, nmX5, rfl, rfl, Or.inl (List.mem_of_getElem? (i := 893) (by decide +kernel))⟩
theorem c_X1_9 : Cond.classLink RX1 9 RX3 ∈ lw_tbl := (List.mem_of_getElem? (i := 207) (by decide +kernel))
theorem n_X1_9 : xNewOk RX1 9 3 10 [.null, .null, .null, .null, .null, .null, .null, .int 0, .int 0, .int 0] := ⟨RX3, TX3, tyX3, rfl, xin3, tyX3_ok, by decide +kernel, (List.mem_of_getElem? (i := 207) (by decide +kernel)), (List.mem_of_getElem? (i := 129) (by decide +kernel)), (List.mem_of_getElem? (i := 107) (by decide +kernel))⟩
theorem n_X3_9 : xNewOk RX3 9 0 3 [.null, .int 0, .int 0] := ⟨RX0, TX0, tyX0, rfl, xin0, tyX0_ok, by decide +kernel, (List.mem_of_getElem? (i := 134) (by decide +kernel)), (List.mem_of_getElem? (i := 135) (by decide +kernel)), (List.mem_of_getElem? (i := 108) (by decide +kernel))⟩
theorem n_X4_7 : xNewOk RX4 7 3 10 [.null, .null, .null, .null, .null, .null, .null, .int 0, .int 0, .int 0] := ⟨RX3, TX3, tyX3, rfl, xin3, tyX3_ok, by decide +kernel, (List.mem_of_getElem? (i := 128) (by decide +kernel)), (List.mem_of_getElem? (i := 129) (by decide +kernel)), (List.mem_of_getElem? (i := 107) (by decide +kernel))⟩
theorem n_X4_16 : xNewOk RX4 16 1 3 [.null, .int 0, .int 0] := ⟨RX1, TX1, tyX1, rfl, xin1, tyX1_ok, by decide +kernel, (List.mem_of_getElem? (i := 201) (by decide +kernel)), (List.mem_of_getElem? (i := 202) (by decide +kernel)), (List.mem_of_getElem? (i := 109) (by decide +kernel))⟩
theorem n_X4_23 : xNewOk RX4 23 2 2 [.null, .int 0] := ⟨RX2, TX2, tyX2, rfl, xin2, tyX2_ok, by decide +kernel, (List.mem_of_getElem? (i := 221) (by decide +kernel)), (List.mem_of_getElem? (i := 222) (by decide +kernel)), (List.mem_of_getElem? (i := 110) (by decide +kernel))⟩
theorem n_X4_30 : xNewOk RX4 30 0 3 [.null, .int 0, .int 0] := ⟨RX0, TX0, tyX0, rfl, xin0, tyX0_ok, by decide +kernel, (List.mem_of_getElem? (i := 236) (by decide +kernel)), (List.mem_of_getElem? (i := 135) (by decide +kernel)), (List.mem_of_getElem? (i := 108) (by decide +kernel))⟩
set_option maxRecDepth 20000 in
theorem t_X4_45 : xThrOk RX4 45 49 xIA := ⟨(List.mem_of_getElem? (i := 501) (by decide +kernel)), (List.mem_of_getElem? (i := 115) (by decide +kernel)), by decide +kernel, fun w hw => by
  have h : (vx_atS RX4 49 xIA xNm).all (fun w => decide (w ∈ lw_tbl) && (w.onTables && w.keepsFace)) = true := by decide +kernel
  have h1 := List.all_eq_true.mp h w hw
  simp only [Bool.and_eq_true, decide_eq_true_eq] at h1
  exact ⟨h1.1, Or.inl h1.2⟩⟩
set_option maxRecDepth 20000 in
theorem t_X4_56 : xThrOk RX4 56 60 xIS := ⟨(List.mem_of_getElem? (i := 580) (by decide +kernel)), (List.mem_of_getElem? (i := 117) (by decide +kernel)), by decide +kernel, fun w hw => by
  have h : (vx_atS RX4 60 xIS xNm).all (fun w => decide (w ∈ lw_tbl) && (w.onTables && w.keepsFace)) = true := by decide +kernel
  have h1 := List.all_eq_true.mp h w hw
  simp only [Bool.and_eq_true, decide_eq_true_eq] at h1
  exact ⟨h1.1, Or.inl h1.2⟩⟩
set_option maxRecDepth 20000 in
theorem t_X4_103 : xThrOk RX4 103 107 xIX := ⟨(List.mem_of_getElem? (i := 649) (by decide +kernel)), (List.mem_of_getElem? (i := 118) (by decide +kernel)), by decide +kernel, fun w hw => by
  have h : (vx_atS RX4 107 xIX xNm).all (fun w => decide (w ∈ lw_tbl) && (w.onTables && w.keepsFace)) = true := by decide +kernel
  have h1 := List.all_eq_true.mp h w hw
  simp only [Bool.and_eq_true, decide_eq_true_eq] at h1
  exact ⟨h1.1, Or.inl h1.2⟩⟩
theorem n_L_8 : xNewOk RL 8 4 5 [.null, .null, .null, .null, .null] := ⟨RX4, TX4, tyX4, rfl, xin4, tyX4_ok, by decide +kernel, (List.mem_of_getElem? (i := 120) (by decide +kernel)), (List.mem_of_getElem? (i := 121) (by decide +kernel)), (List.mem_of_getElem? (i := 106) (by decide +kernel))⟩
theorem n_L_85 : xNewOk RL 85 5 20 [.null, .int 0, .null, .int 0, .null, .int 0, .null, .int 0, .int 0, .null, .null, .null, .null, .int 0, .int 0, .int 0, .int 0, .null, .null, .long 0] := ⟨RX5, TX5, tyX5, rfl, xin5, tyX5_ok, by decide +kernel, (List.mem_of_getElem? (i := 868) (by decide +kernel)), (List.mem_of_getElem? (i := 869) (by decide +kernel)), (List.mem_of_getElem? (i := 111) (by decide +kernel))⟩
theorem x_X4_47 : Cond.stringRef RX4 47 "the buffer is not a complete chart" ∈ lw_tbl := (List.mem_of_getElem? (i := 542) (by decide +kernel))
theorem x_X4_58 : Cond.stringRef RX4 58 "too many rows, too many columns, or unequal rows" ∈ lw_tbl := (List.mem_of_getElem? (i := 589) (by decide +kernel))
theorem x_X4_79 : Cond.stringRef RX4 79 "no such way to turn" ∈ lw_tbl := (List.mem_of_getElem? (i := 621) (by decide +kernel))
theorem x_X4_85 : Cond.stringRef RX4 85 "too many rows" ∈ lw_tbl := (List.mem_of_getElem? (i := 622) (by decide +kernel))
theorem x_X4_94 : Cond.stringRef RX4 94 "no such colour" ∈ lw_tbl := (List.mem_of_getElem? (i := 633) (by decide +kernel))
theorem x_X4_105 : Cond.stringRef RX4 105 "no such setting" ∈ lw_tbl := (List.mem_of_getElem? (i := 658) (by decide +kernel))
theorem x_X4_118 : Cond.stringRef RX4 118 "value out of range" ∈ lw_tbl := (List.mem_of_getElem? (i := 667) (by decide +kernel))
theorem x_X4_127 : Cond.stringRef RX4 127 "colour or number of beads out of range" ∈ lw_tbl := (List.mem_of_getElem? (i := 676) (by decide +kernel))
theorem x_X4_132 : Cond.stringRef RX4 132 "too many beads of this colour bought" ∈ lw_tbl := (List.mem_of_getElem? (i := 677) (by decide +kernel))
theorem x_X4_147 : Cond.stringRef RX4 147 "number of beads out of range" ∈ lw_tbl := (List.mem_of_getElem? (i := 714) (by decide +kernel))
theorem x_X4_155 : Cond.stringRef RX4 155 "the buffer is not a complete row of beads" ∈ lw_tbl := (List.mem_of_getElem? (i := 723) (by decide +kernel))
theorem x_X4_167 : Cond.stringRef RX4 167 "the last string is empty, or it is the last allowed" ∈ lw_tbl := (List.mem_of_getElem? (i := 736) (by decide +kernel))
theorem x_X4_178 : Cond.stringRef RX4 178 "no such bead" ∈ lw_tbl := (List.mem_of_getElem? (i := 749) (by decide +kernel))
theorem x_X4_184 : Cond.stringRef RX4 184 "there are fewer beads" ∈ lw_tbl := (List.mem_of_getElem? (i := 761) (by decide +kernel))
theorem x_X4_189 : Cond.stringRef RX4 189 "no such character" ∈ lw_tbl := (List.mem_of_getElem? (i := 773) (by decide +kernel))
theorem x_X4_194 : Cond.stringRef RX4 194 "the buffer is full" ∈ lw_tbl := (List.mem_of_getElem? (i := 774) (by decide +kernel))
theorem x_X4_206 : Cond.stringRef RX4 206 "no state is saved" ∈ lw_tbl := (List.mem_of_getElem? (i := 782) (by decide +kernel))
theorem x_X4_214 : Cond.stringRef RX4 214 "no such cell" ∈ lw_tbl := (List.mem_of_getElem? (i := 794) (by decide +kernel))
theorem x_X4_219 : Cond.stringRef RX4 219 "bead or what out of range" ∈ lw_tbl := (List.mem_of_getElem? (i := 802) (by decide +kernel))
theorem x_X4_224 : Cond.stringRef RX4 224 "no such property" ∈ lw_tbl := (List.mem_of_getElem? (i := 817) (by decide +kernel))
theorem x_X4_229 : Cond.stringRef RX4 229 "no such string" ∈ lw_tbl := (List.mem_of_getElem? (i := 825) (by decide +kernel))
theorem x_X4_234 : Cond.stringRef RX4 234 "colour or what out of range" ∈ lw_tbl := (List.mem_of_getElem? (i := 833) (by decide +kernel))
theorem x_X4_239 : Cond.stringRef RX4 239 "no such number" ∈ lw_tbl := (List.mem_of_getElem? (i := 841) (by decide +kernel))
theorem x_X4_247 : Cond.stringRef RX4 247 "colour or total out of range" ∈ lw_tbl := (List.mem_of_getElem? (i := 859) (by decide +kernel))
theorem x_X4_252 : Cond.stringRef RX4 252 "total or strand out of range" ∈ lw_tbl := (List.mem_of_getElem? (i := 867) (by decide +kernel))
theorem x_X4_320 : Cond.stringRef RX4 320 "not enough beads in the stock, or no room for them" ∈ lw_tbl := (List.mem_of_getElem? (i := 700) (by decide +kernel))
theorem h_L_13 : Cond.classLink RL 13 xIA ∈ lw_tbl ∧ Cond.castable xIA xIA ∈ lw_tbl := ⟨(List.mem_of_getElem? (i := 490) (by decide +kernel)), (List.mem_of_getElem? (i := 503) (by decide +kernel))⟩
theorem h_L_15 : Cond.classLink RL 15 xIS ∈ lw_tbl ∧ Cond.castable xIS xIS ∈ lw_tbl := ⟨(List.mem_of_getElem? (i := 491) (by decide +kernel)), (List.mem_of_getElem? (i := 582) (by decide +kernel))⟩
theorem h_L_28 : Cond.classLink RL 28 xIX ∈ lw_tbl ∧ Cond.castable xIX xIX ∈ lw_tbl := ⟨(List.mem_of_getElem? (i := 641) (by decide +kernel)), (List.mem_of_getElem? (i := 651) (by decide +kernel))⟩
theorem k_X4_271 : Cond.constantLong RX4 271 (2351 : Int64) ∈ lw_tbl := (List.mem_of_getElem? (i := 371) (by decide +kernel))
theorem k_X4_349 : Cond.constantLong RX4 349 (31 : Int64) ∈ lw_tbl := (List.mem_of_getElem? (i := 413) (by decide +kernel))
theorem k_X4_351 : Cond.constantLong RX4 351 (1023 : Int64) ∈ lw_tbl := (List.mem_of_getElem? (i := 480) (by decide +kernel))
theorem k_X4_353 : Cond.constantDouble RX4 353 (4611686018427387904 : UInt64) ∈ lw_tbl := (List.mem_of_getElem? (i := 481) (by decide +kernel))
theorem k_X4_355 : Cond.constantDouble RX4 355 (4841369599423283200 : UInt64) ∈ lw_tbl := (List.mem_of_getElem? (i := 482) (by decide +kernel))
theorem k_X5_209 : Cond.constant RX5 209 (100000 : Int32) ∈ lw_tbl := (List.mem_of_getElem? (i := 1211) (by decide +kernel))
theorem k_X5_254 : Cond.constantLong RX5 254 (2351 : Int64) ∈ lw_tbl := (List.mem_of_getElem? (i := 1264) (by decide +kernel))
theorem k_X5_238 : Cond.constantLong RX5 238 (31 : Int64) ∈ lw_tbl := (List.mem_of_getElem? (i := 1269) (by decide +kernel))
theorem k_Jxe99ae_137 : Cond.constantLong RJxe99ae 137 (9221120237041090560 : Int64) ∈ lw_tbl := (List.mem_of_getElem? (i := 1287) (by decide +kernel))

/-! ===== printed by program: methods, sites, fields as the xw rows want them ===== -/
theorem xin_of (ws : List Cond) (ps : List Nat) (hp : ws = ps.filterMap (fun i => lw_tbl[i]?)) (h : ws.all (fun w => w.onTables && w.keepsFace) = true) : ∀ w ∈ ws, w ∈ lw_tbl ∧ xGoodP w := by
  intro w hw
  have h1 := List.all_eq_true.mp h w hw
  rw [Bool.and_eq_true] at h1
  rw [hp] at hw
  obtain ⟨i, -, hi⟩ := List.mem_filterMap.mp hw
  exact ⟨List.mem_of_getElem? hi, Or.inl h1⟩
theorem xin0 : ∀ w ∈ u_ws RX0 TX0 3, w ∈ lw_tbl ∧ xGoodP w := xin_of _ [78, 80, 82] (by decide +kernel) (by decide +kernel)
theorem xin1 : ∀ w ∈ u_ws RX1 TX1 3, w ∈ lw_tbl ∧ xGoodP w := xin_of _ [144, 146, 148] (by decide +kernel) (by decide +kernel)
theorem xin2 : ∀ w ∈ u_ws RX2 TX2 2, w ∈ lw_tbl ∧ xGoodP w := xin_of _ [161, 163] (by decide +kernel) (by decide +kernel)
theorem xin3 : ∀ w ∈ u_ws RX3 TX3 10, w ∈ lw_tbl ∧ xGoodP w := xin_of _ [110, 112, 114, 116, 118, 120, 122, 124, 126, 128] (by decide +kernel) (by decide +kernel)
theorem xin4 : ∀ w ∈ u_ws RX4 TX4 5, w ∈ lw_tbl ∧ xGoodP w := xin_of _ [173, 175, 177, 179, 181] (by decide +kernel) (by decide +kernel)
def C_init : xM := (yX0_init, cX0_init, 1, none, [], 1, 20)
theorem ok_C_init : xMok C_init 0 := ⟨⟨by decide +kernel, (List.mem_of_getElem? (i := 40) (by decide +kernel)), ⟨by decide +kernel, by decide +kernel⟩, by decide +kernel⟩, (List.mem_of_getElem? (i := 68) (by decide +kernel)), rfl⟩
def C_copyFrom : xM := (yX0_copyFrom, cX0_copyFrom, 2, none, [], 1, 22)
theorem ok_C_copyFrom : xMok C_copyFrom 1 := ⟨⟨by decide +kernel, (List.mem_of_getElem? (i := 40) (by decide +kernel)), ⟨by decide +kernel, by decide +kernel⟩, by decide +kernel⟩, (List.mem_of_getElem? (i := 374) (by decide +kernel)), rfl⟩
def C_cellAt : xM := (yX0_cellAt, cX0_cellAt, 3, (some (.int)), [], 1, 21)
theorem ok_C_cellAt : xMok C_cellAt 2 := ⟨⟨by decide +kernel, (List.mem_of_getElem? (i := 40) (by decide +kernel)), ⟨by decide +kernel, by decide +kernel⟩, by decide +kernel⟩, (List.mem_of_getElem? (i := 317) (by decide +kernel)), rfl⟩
def C_putCell : xM := (yX0_putCell, cX0_putCell, 4, none, [], 1, 22)
theorem ok_C_putCell : xMok C_putCell 3 := ⟨⟨by decide +kernel, (List.mem_of_getElem? (i := 40) (by decide +kernel)), ⟨by decide +kernel, by decide +kernel⟩, by decide +kernel⟩, (List.mem_of_getElem? (i := 449) (by decide +kernel)), rfl⟩
def C_placeFor : xM := (yX0_placeFor, cX0_placeFor, 5, (some (.int)), [], 0, 0)
theorem ok_C_placeFor : xMok C_placeFor 3 := ⟨⟨by decide +kernel, (List.mem_of_getElem? (i := 40) (by decide +kernel)), ⟨by decide +kernel, by decide +kernel⟩, by decide +kernel⟩, (List.mem_of_getElem? (i := 294) (by decide +kernel)), rfl⟩
def C_cellsOf : xM := (yX0_cellsOf, cX0_cellsOf, 5, (some (.int)), [], 2, 43)
theorem ok_C_cellsOf : xMok C_cellsOf 1 := ⟨⟨by decide +kernel, (List.mem_of_getElem? (i := 40) (by decide +kernel)), ⟨by decide +kernel, by decide +kernel⟩, by decide +kernel⟩, (List.mem_of_getElem? (i := 313) (by decide +kernel)), rfl⟩
def C_differentColours : xM := (yX0_differentColours, cX0_differentColours, 3, (some (.int)), [], 3, 67)
theorem ok_C_differentColours : xMok C_differentColours 0 := ⟨⟨by decide +kernel, (List.mem_of_getElem? (i := 40) (by decide +kernel)), ⟨by decide +kernel, by decide +kernel⟩, by decide +kernel⟩, (List.mem_of_getElem? (i := 309) (by decide +kernel)), rfl⟩
def C_swapColours : xM := (yX0_swapColours, cX0_swapColours, 7, (some (.int)), [], 2, 45)
theorem ok_C_swapColours : xMok C_swapColours 2 := ⟨⟨by decide +kernel, (List.mem_of_getElem? (i := 40) (by decide +kernel)), ⟨by decide +kernel, by decide +kernel⟩, by decide +kernel⟩, (List.mem_of_getElem? (i := 464) (by decide +kernel)), rfl⟩
def H_init : xM := (yX1_init, cX1_init, 2, none, [], 3, 60)
theorem ok_H_init : xMok H_init 0 := ⟨⟨by decide +kernel, (List.mem_of_getElem? (i := 41) (by decide +kernel)), ⟨by decide +kernel, by decide +kernel⟩, by decide +kernel⟩, (List.mem_of_getElem? (i := 135) (by decide +kernel)), rfl⟩
def H_slot : xM := (yX1_slot, cX1_slot, 3, (some (.object "BeadSpirals$Work")), [], 0, 0)
theorem ok_H_slot : xMok H_slot 1 := ⟨⟨by decide +kernel, (List.mem_of_getElem? (i := 41) (by decide +kernel)), ⟨by decide +kernel, by decide +kernel⟩, by decide +kernel⟩, (List.mem_of_getElem? (i := 366) (by decide +kernel)), rfl⟩
def H_save : xM := (yX1_save, cX1_save, 3, none, [], 3, 64)
theorem ok_H_save : xMok H_save 1 := ⟨⟨by decide +kernel, (List.mem_of_getElem? (i := 41) (by decide +kernel)), ⟨by decide +kernel, by decide +kernel⟩, by decide +kernel⟩, (List.mem_of_getElem? (i := 362) (by decide +kernel)), rfl⟩
def T_init : xM := (yX2_init, cX2_init, 1, none, [], 1, 20)
theorem ok_T_init : xMok T_init 0 := ⟨⟨by decide +kernel, (List.mem_of_getElem? (i := 42) (by decide +kernel)), ⟨by decide +kernel, by decide +kernel⟩, by decide +kernel⟩, (List.mem_of_getElem? (i := 155) (by decide +kernel)), rfl⟩
def T_empty : xM := (yX2_empty, cX2_empty, 1, none, [], 0, 0)
theorem ok_T_empty : xMok T_empty 0 := ⟨⟨by decide +kernel, (List.mem_of_getElem? (i := 42) (by decide +kernel)), ⟨by decide +kernel, by decide +kernel⟩, by decide +kernel⟩, (List.mem_of_getElem? (i := 392) (by decide +kernel)), rfl⟩
def T_errorIndex : xM := (yX2_errorIndex, cX2_errorIndex, 4, (some (.int)), [], 4, 82)
theorem ok_T_errorIndex : xMok T_errorIndex 1 := ⟨⟨by decide +kernel, (List.mem_of_getElem? (i := 42) (by decide +kernel)), ⟨by decide +kernel, by decide +kernel⟩, by decide +kernel⟩, (List.mem_of_getElem? (i := 406) (by decide +kernel)), rfl⟩
def T_isComplete : xM := (yX2_isComplete, cX2_isComplete, 2, (some (.boolean)), [], 5, 105)
theorem ok_T_isComplete : xMok T_isComplete 1 := ⟨⟨by decide +kernel, (List.mem_of_getElem? (i := 42) (by decide +kernel)), ⟨by decide +kernel, by decide +kernel⟩, by decide +kernel⟩, (List.mem_of_getElem? (i := 433) (by decide +kernel)), rfl⟩
def T_stateBehind : xM := (yX2_stateBehind, cX2_stateBehind, 3, (some (.int)), [], 3, 60)
theorem ok_T_stateBehind : xMok T_stateBehind 3 := ⟨⟨by decide +kernel, (List.mem_of_getElem? (i := 42) (by decide +kernel)), ⟨by decide +kernel, by decide +kernel⟩, by decide +kernel⟩, (List.mem_of_getElem? (i := 410) (by decide +kernel)), rfl⟩
def T_stateInPart : xM := (yX2_stateInPart, cX2_stateInPart, 1, (some (.int)), [], 2, 40)
theorem ok_T_stateInPart : xMok T_stateInPart 1 := ⟨⟨by decide +kernel, (List.mem_of_getElem? (i := 42) (by decide +kernel)), ⟨by decide +kernel, by decide +kernel⟩, by decide +kernel⟩, (List.mem_of_getElem? (i := 413) (by decide +kernel)), rfl⟩
def T_stateBehindNumber : xM := (yX2_stateBehindNumber, cX2_stateBehindNumber, 1, (some (.int)), [], 1, 20)
theorem ok_T_stateBehindNumber : xMok T_stateBehindNumber 1 := ⟨⟨by decide +kernel, (List.mem_of_getElem? (i := 42) (by decide +kernel)), ⟨by decide +kernel, by decide +kernel⟩, by decide +kernel⟩, (List.mem_of_getElem? (i := 419) (by decide +kernel)), rfl⟩
def T_isLetter : xM := (yX2_isLetter, cX2_isLetter, 1, (some (.boolean)), [], 0, 0)
theorem ok_T_isLetter : xMok T_isLetter 1 := ⟨⟨by decide +kernel, (List.mem_of_getElem? (i := 42) (by decide +kernel)), ⟨by decide +kernel, by decide +kernel⟩, by decide +kernel⟩, (List.mem_of_getElem? (i := 422) (by decide +kernel)), rfl⟩
def T_isDigit : xM := (yX2_isDigit, cX2_isDigit, 1, (some (.boolean)), [], 0, 0)
theorem ok_T_isDigit : xMok T_isDigit 1 := ⟨⟨by decide +kernel, (List.mem_of_getElem? (i := 42) (by decide +kernel)), ⟨by decide +kernel, by decide +kernel⟩, by decide +kernel⟩, (List.mem_of_getElem? (i := 416) (by decide +kernel)), rfl⟩
def T_readBeads : xM := (yX2_readBeads, cX2_readBeads, 10, (some (.int)), [], 1, 22)
theorem ok_T_readBeads : xMok T_readBeads 3 := ⟨⟨by decide +kernel, (List.mem_of_getElem? (i := 42) (by decide +kernel)), ⟨by decide +kernel, by decide +kernel⟩, by decide +kernel⟩, (List.mem_of_getElem? (i := 443) (by decide +kernel)), rfl⟩
def T_readChart : xM := (yX2_readChart, cX2_readChart, 9, (some (.boolean)), [], 2, 51)
theorem ok_T_readChart : xMok T_readChart 2 := ⟨⟨by decide +kernel, (List.mem_of_getElem? (i := 42) (by decide +kernel)), ⟨by decide +kernel, by decide +kernel⟩, by decide +kernel⟩, (List.mem_of_getElem? (i := 439) (by decide +kernel)), rfl⟩
def W_init : xM := (yX3_init, cX3_init, 1, none, [], 2, 40)
theorem ok_W_init : xMok W_init 0 := ⟨⟨by decide +kernel, (List.mem_of_getElem? (i := 39) (by decide +kernel)), ⟨by decide +kernel, by decide +kernel⟩, by decide +kernel⟩, (List.mem_of_getElem? (i := 62) (by decide +kernel)), rfl⟩
def W_copyFrom : xM := (yX3_copyFrom, cX3_copyFrom, 2, none, [], 2, 43)
theorem ok_W_copyFrom : xMok W_copyFrom 1 := ⟨⟨by decide +kernel, (List.mem_of_getElem? (i := 39) (by decide +kernel)), ⟨by decide +kernel, by decide +kernel⟩, by decide +kernel⟩, (List.mem_of_getElem? (i := 370) (by decide +kernel)), rfl⟩
def W_patternColour : xM := (yX3_patternColour, cX3_patternColour, 3, (some (.int)), [], 1, 24)
theorem ok_W_patternColour : xMok W_patternColour 1 := ⟨⟨by decide +kernel, (List.mem_of_getElem? (i := 39) (by decide +kernel)), ⟨by decide +kernel, by decide +kernel⟩, by decide +kernel⟩, (List.mem_of_getElem? (i := 290) (by decide +kernel)), rfl⟩
def W_patternNumber : xM := (yX3_patternNumber, cX3_patternNumber, 5, (some (.int)), [], 1, 24)
theorem ok_W_patternNumber : xMok W_patternNumber 2 := ⟨⟨by decide +kernel, (List.mem_of_getElem? (i := 39) (by decide +kernel)), ⟨by decide +kernel, by decide +kernel⟩, by decide +kernel⟩, (List.mem_of_getElem? (i := 612) (by decide +kernel)), rfl⟩
def W_isWrong : xM := (yX3_isWrong, cX3_isWrong, 2, (some (.boolean)), [], 2, 46)
theorem ok_W_isWrong : xMok W_isWrong 1 := ⟨⟨by decide +kernel, (List.mem_of_getElem? (i := 39) (by decide +kernel)), ⟨by decide +kernel, by decide +kernel⟩, by decide +kernel⟩, (List.mem_of_getElem? (i := 283) (by decide +kernel)), rfl⟩
def W_wrongBetween : xM := (yX3_wrongBetween, cX3_wrongBetween, 5, (some (.int)), [], 3, 67)
theorem ok_W_wrongBetween : xMok W_wrongBetween 2 := ⟨⟨by decide +kernel, (List.mem_of_getElem? (i := 39) (by decide +kernel)), ⟨by decide +kernel, by decide +kernel⟩, by decide +kernel⟩, (List.mem_of_getElem? (i := 279) (by decide +kernel)), rfl⟩
def W_wrongOf : xM := (yX3_wrongOf, cX3_wrongOf, 4, (some (.int)), [], 3, 67)
theorem ok_W_wrongOf : xMok W_wrongOf 1 := ⟨⟨by decide +kernel, (List.mem_of_getElem? (i := 39) (by decide +kernel)), ⟨by decide +kernel, by decide +kernel⟩, by decide +kernel⟩, (List.mem_of_getElem? (i := 581) (by decide +kernel)), rfl⟩
def W_endOf : xM := (yX3_endOf, cX3_endOf, 2, (some (.int)), [], 1, 21)
theorem ok_W_endOf : xMok W_endOf 1 := ⟨⟨by decide +kernel, (List.mem_of_getElem? (i := 39) (by decide +kernel)), ⟨by decide +kernel, by decide +kernel⟩, by decide +kernel⟩, (List.mem_of_getElem? (i := 330) (by decide +kernel)), rfl⟩
def W_lengthOf : xM := (yX3_lengthOf, cX3_lengthOf, 2, (some (.int)), [], 2, 42)
theorem ok_W_lengthOf : xMok W_lengthOf 1 := ⟨⟨by decide +kernel, (List.mem_of_getElem? (i := 39) (by decide +kernel)), ⟨by decide +kernel, by decide +kernel⟩, by decide +kernel⟩, (List.mem_of_getElem? (i := 326) (by decide +kernel)), rfl⟩
def W_stringOf : xM := (yX3_stringOf, cX3_stringOf, 3, (some (.int)), [], 1, 21)
theorem ok_W_stringOf : xMok W_stringOf 1 := ⟨⟨by decide +kernel, (List.mem_of_getElem? (i := 39) (by decide +kernel)), ⟨by decide +kernel, by decide +kernel⟩, by decide +kernel⟩, (List.mem_of_getElem? (i := 564) (by decide +kernel)), rfl⟩
def W_isHidden : xM := (yX3_isHidden, cX3_isHidden, 2, (some (.boolean)), [], 2, 46)
theorem ok_W_isHidden : xMok W_isHidden 1 := ⟨⟨by decide +kernel, (List.mem_of_getElem? (i := 39) (by decide +kernel)), ⟨by decide +kernel, by decide +kernel⟩, by decide +kernel⟩, (List.mem_of_getElem? (i := 302) (by decide +kernel)), rfl⟩
def W_openKnots : xM := (yX3_openKnots, cX3_openKnots, 3, (some (.int)), [], 3, 67)
theorem ok_W_openKnots : xMok W_openKnots 0 := ⟨⟨by decide +kernel, (List.mem_of_getElem? (i := 39) (by decide +kernel)), ⟨by decide +kernel, by decide +kernel⟩, by decide +kernel⟩, (List.mem_of_getElem? (i := 298) (by decide +kernel)), rfl⟩
def W_room : xM := (yX3_room, cX3_room, 1, (some (.int)), [], 3, 63)
theorem ok_W_room : xMok W_room 0 := ⟨⟨by decide +kernel, (List.mem_of_getElem? (i := 39) (by decide +kernel)), ⟨by decide +kernel, by decide +kernel⟩, by decide +kernel⟩, (List.mem_of_getElem? (i := 322) (by decide +kernel)), rfl⟩
def W_beadNumber : xM := (yX3_beadNumber, cX3_beadNumber, 3, (some (.int)), [], 3, 67)
theorem ok_W_beadNumber : xMok W_beadNumber 2 := ⟨⟨by decide +kernel, (List.mem_of_getElem? (i := 39) (by decide +kernel)), ⟨by decide +kernel, by decide +kernel⟩, by decide +kernel⟩, (List.mem_of_getElem? (i := 603) (by decide +kernel)), rfl⟩
def W_stringNumber : xM := (yX3_stringNumber, cX3_stringNumber, 3, (some (.int)), [], 4, 91)
theorem ok_W_stringNumber : xMok W_stringNumber 2 := ⟨⟨by decide +kernel, (List.mem_of_getElem? (i := 39) (by decide +kernel)), ⟨by decide +kernel, by decide +kernel⟩, by decide +kernel⟩, (List.mem_of_getElem? (i := 591) (by decide +kernel)), rfl⟩
def W_colourNumber : xM := (yX3_colourNumber, cX3_colourNumber, 3, (some (.int)), [], 4, 90)
theorem ok_W_colourNumber : xMok W_colourNumber 2 := ⟨⟨by decide +kernel, (List.mem_of_getElem? (i := 39) (by decide +kernel)), ⟨by decide +kernel, by decide +kernel⟩, by decide +kernel⟩, (List.mem_of_getElem? (i := 576) (by decide +kernel)), rfl⟩
def W_canTake : xM := (yX3_canTake, cX3_canTake, 4, (some (.boolean)), [], 4, 83)
theorem ok_W_canTake : xMok W_canTake 2 := ⟨⟨by decide +kernel, (List.mem_of_getElem? (i := 39) (by decide +kernel)), ⟨by decide +kernel, by decide +kernel⟩, by decide +kernel⟩, (List.mem_of_getElem? (i := 514) (by decide +kernel)), rfl⟩
def W_takeOn : xM := (yX3_takeOn, cX3_takeOn, 5, none, [], 2, 44)
theorem ok_W_takeOn : xMok W_takeOn 2 := ⟨⟨by decide +kernel, (List.mem_of_getElem? (i := 39) (by decide +kernel)), ⟨by decide +kernel, by decide +kernel⟩, by decide +kernel⟩, (List.mem_of_getElem? (i := 523) (by decide +kernel)), rfl⟩
def W_takeOff : xM := (yX3_takeOff, cX3_takeOff, 5, none, [], 2, 44)
theorem ok_W_takeOff : xMok W_takeOff 1 := ⟨⟨by decide +kernel, (List.mem_of_getElem? (i := 39) (by decide +kernel)), ⟨by decide +kernel, by decide +kernel⟩, by decide +kernel⟩, (List.mem_of_getElem? (i := 547) (by decide +kernel)), rfl⟩
def W_crushBead : xM := (yX3_crushBead, cX3_crushBead, 5, none, [], 3, 63)
theorem ok_W_crushBead : xMok W_crushBead 1 := ⟨⟨by decide +kernel, (List.mem_of_getElem? (i := 39) (by decide +kernel)), ⟨by decide +kernel, by decide +kernel⟩, by decide +kernel⟩, (List.mem_of_getElem? (i := 560) (by decide +kernel)), rfl⟩
def B_init : xM := (yX4_init, cX4_init, 1, none, [], 4, 81)
theorem ok_B_init : xMok B_init 0 := ⟨⟨by decide +kernel, (List.mem_of_getElem? (i := 38) (by decide +kernel)), ⟨by decide +kernel, by decide +kernel⟩, by decide +kernel⟩, (List.mem_of_getElem? (i := 54) (by decide +kernel)), rfl⟩
def B_load : xM := (yX4_load, cX4_load, 1, (some (.int)), [], 6, 126)
theorem ok_B_load : xMok B_load 0 := ⟨⟨by decide +kernel, (List.mem_of_getElem? (i := 38) (by decide +kernel)), ⟨by decide +kernel, by decide +kernel⟩, by decide +kernel⟩, (List.mem_of_getElem? (i := 429) (by decide +kernel)), rfl⟩
def B_recolour : xM := (yX4_recolour, cX4_recolour, 3, (some (.int)), [], 6, 90)
theorem ok_B_recolour : xMok B_recolour 2 := ⟨⟨by decide +kernel, (List.mem_of_getElem? (i := 38) (by decide +kernel)), ⟨by decide +kernel, by decide +kernel⟩, by decide +kernel⟩, (List.mem_of_getElem? (i := 459) (by decide +kernel)), rfl⟩
def B_set : xM := (yX4_set, cX4_set, 4, (some (.int)), [], 6, 90)
theorem ok_B_set : xMok B_set 2 := ⟨⟨by decide +kernel, (List.mem_of_getElem? (i := 38) (by decide +kernel)), ⟨by decide +kernel, by decide +kernel⟩, by decide +kernel⟩, (List.mem_of_getElem? (i := 469) (by decide +kernel)), rfl⟩
def B_buy : xM := (yX4_buy, cX4_buy, 3, (some (.int)), [], 6, 90)
theorem ok_B_buy : xMok B_buy 2 := ⟨⟨by decide +kernel, (List.mem_of_getElem? (i := 38) (by decide +kernel)), ⟨by decide +kernel, by decide +kernel⟩, by decide +kernel⟩, (List.mem_of_getElem? (i := 337) (by decide +kernel)), rfl⟩
def B_string : xM := (yX4_string, cX4_string, 4, (some (.int)), [], 7, 127)
theorem ok_B_string : xMok B_string 2 := ⟨⟨by decide +kernel, (List.mem_of_getElem? (i := 38) (by decide +kernel)), ⟨by decide +kernel, by decide +kernel⟩, by decide +kernel⟩, (List.mem_of_getElem? (i := 503) (by decide +kernel)), rfl⟩
def B_stringNext : xM := (yX4_stringNext, cX4_stringNext, 3, (some (.int)), [], 7, 127)
theorem ok_B_stringNext : xMok B_stringNext 1 := ⟨⟨by decide +kernel, (List.mem_of_getElem? (i := 38) (by decide +kernel)), ⟨by decide +kernel, by decide +kernel⟩, by decide +kernel⟩, (List.mem_of_getElem? (i := 529) (by decide +kernel)), rfl⟩
def B_join : xM := (yX4_join, cX4_join, 1, (some (.int)), [], 6, 90)
theorem ok_B_join : xMok B_join 0 := ⟨⟨by decide +kernel, (List.mem_of_getElem? (i := 38) (by decide +kernel)), ⟨by decide +kernel, by decide +kernel⟩, by decide +kernel⟩, (List.mem_of_getElem? (i := 535) (by decide +kernel)), rfl⟩
def B_crush : xM := (yX4_crush, cX4_crush, 2, (some (.int)), [], 6, 90)
theorem ok_B_crush : xMok B_crush 1 := ⟨⟨by decide +kernel, (List.mem_of_getElem? (i := 38) (by decide +kernel)), ⟨by decide +kernel, by decide +kernel⟩, by decide +kernel⟩, (List.mem_of_getElem? (i := 551) (by decide +kernel)), rfl⟩
def B_unpick : xM := (yX4_unpick, cX4_unpick, 2, (some (.int)), [], 6, 90)
theorem ok_B_unpick : xMok B_unpick 1 := ⟨⟨by decide +kernel, (List.mem_of_getElem? (i := 38) (by decide +kernel)), ⟨by decide +kernel, by decide +kernel⟩, by decide +kernel⟩, (List.mem_of_getElem? (i := 542) (by decide +kernel)), rfl⟩
def B_append : xM := (yX4_append, cX4_append, 2, (some (.int)), [], 6, 90)
theorem ok_B_append : xMok B_append 1 := ⟨⟨by decide +kernel, (List.mem_of_getElem? (i := 38) (by decide +kernel)), ⟨by decide +kernel, by decide +kernel⟩, by decide +kernel⟩, (List.mem_of_getElem? (i := 396) (by decide +kernel)), rfl⟩
def B_clearBuffer : xM := (yX4_clearBuffer, cX4_clearBuffer, 2, (some (.int)), [], 1, 20)
theorem ok_B_clearBuffer : xMok B_clearBuffer 0 := ⟨⟨by decide +kernel, (List.mem_of_getElem? (i := 38) (by decide +kernel)), ⟨by decide +kernel, by decide +kernel⟩, by decide +kernel⟩, (List.mem_of_getElem? (i := 388) (by decide +kernel)), rfl⟩
def B_firstError : xM := (yX4_firstError, cX4_firstError, 2, (some (.int)), [], 5, 105)
theorem ok_B_firstError : xMok B_firstError 1 := ⟨⟨by decide +kernel, (List.mem_of_getElem? (i := 38) (by decide +kernel)), ⟨by decide +kernel, by decide +kernel⟩, by decide +kernel⟩, (List.mem_of_getElem? (i := 402) (by decide +kernel)), rfl⟩
def B_pattern : xM := (yX4_pattern, cX4_pattern, 3, (some (.int)), [], 6, 90)
theorem ok_B_pattern : xMok B_pattern 2 := ⟨⟨by decide +kernel, (List.mem_of_getElem? (i := 38) (by decide +kernel)), ⟨by decide +kernel, by decide +kernel⟩, by decide +kernel⟩, (List.mem_of_getElem? (i := 607) (by decide +kernel)), rfl⟩
def B_bead : xM := (yX4_bead, cX4_bead, 3, (some (.int)), [], 6, 90)
theorem ok_B_bead : xMok B_bead 2 := ⟨⟨by decide +kernel, (List.mem_of_getElem? (i := 38) (by decide +kernel)), ⟨by decide +kernel, by decide +kernel⟩, by decide +kernel⟩, (List.mem_of_getElem? (i := 599) (by decide +kernel)), rfl⟩
def B_strand : xM := (yX4_strand, cX4_strand, 3, (some (.int)), [], 6, 113)
theorem ok_B_strand : xMok B_strand 2 := ⟨⟨by decide +kernel, (List.mem_of_getElem? (i := 38) (by decide +kernel)), ⟨by decide +kernel, by decide +kernel⟩, by decide +kernel⟩, (List.mem_of_getElem? (i := 585) (by decide +kernel)), rfl⟩
def B_colour : xM := (yX4_colour, cX4_colour, 3, (some (.int)), [], 6, 112)
theorem ok_B_colour : xMok B_colour 2 := ⟨⟨by decide +kernel, (List.mem_of_getElem? (i := 38) (by decide +kernel)), ⟨by decide +kernel, by decide +kernel⟩, by decide +kernel⟩, (List.mem_of_getElem? (i := 571) (by decide +kernel)), rfl⟩
def B_count : xM := (yX4_count, cX4_count, 2, (some (.int)), [], 6, 112)
theorem ok_B_count : xMok B_count 1 := ⟨⟨by decide +kernel, (List.mem_of_getElem? (i := 38) (by decide +kernel)), ⟨by decide +kernel, by decide +kernel⟩, by decide +kernel⟩, (List.mem_of_getElem? (i := 203) (by decide +kernel)), rfl⟩
def B_stringFresh : xM := (yX4_stringFresh, cX4_stringFresh, 2, (some (.int)), [], 6, 106)
theorem ok_B_stringFresh : xMok B_stringFresh 1 := ⟨⟨by decide +kernel, (List.mem_of_getElem? (i := 38) (by decide +kernel)), ⟨by decide +kernel, by decide +kernel⟩, by decide +kernel⟩, (List.mem_of_getElem? (i := 510) (by decide +kernel)), rfl⟩
def B_numberOf : xM := (yX4_numberOf, cX4_numberOf, 2, (some (.int)), [], 4, 91)
theorem ok_B_numberOf : xMok B_numberOf 1 := ⟨⟨by decide +kernel, (List.mem_of_getElem? (i := 38) (by decide +kernel)), ⟨by decide +kernel, by decide +kernel⟩, by decide +kernel⟩, (List.mem_of_getElem? (i := 275) (by decide +kernel)), rfl⟩
def B_isStrung : xM := (yX4_isStrung, cX4_isStrung, 2, (some (.boolean)), [], 0, 0)
theorem ok_B_isStrung : xMok B_isStrung 1 := ⟨⟨by decide +kernel, (List.mem_of_getElem? (i := 38) (by decide +kernel)), ⟨by decide +kernel, by decide +kernel⟩, by decide +kernel⟩, (List.mem_of_getElem? (i := 555) (by decide +kernel)), rfl⟩
def B_isColour : xM := (yX4_isColour, cX4_isColour, 1, (some (.boolean)), [], 0, 0)
theorem ok_B_isColour : xMok B_isColour 1 := ⟨⟨by decide +kernel, (List.mem_of_getElem? (i := 38) (by decide +kernel)), ⟨by decide +kernel, by decide +kernel⟩, by decide +kernel⟩, (List.mem_of_getElem? (i := 340) (by decide +kernel)), rfl⟩
def B_isSetting : xM := (yX4_isSetting, cX4_isSetting, 1, (some (.boolean)), [], 0, 0)
theorem ok_B_isSetting : xMok B_isSetting 1 := ⟨⟨by decide +kernel, (List.mem_of_getElem? (i := 38) (by decide +kernel)), ⟨by decide +kernel, by decide +kernel⟩, by decide +kernel⟩, (List.mem_of_getElem? (i := 472) (by decide +kernel)), rfl⟩
def B_canBeStrungAtOnce : xM := (yX4_canBeStrungAtOnce, cX4_canBeStrungAtOnce, 1, (some (.boolean)), [], 0, 0)
theorem ok_B_canBeStrungAtOnce : xMok B_canBeStrungAtOnce 1 := ⟨⟨by decide +kernel, (List.mem_of_getElem? (i := 38) (by decide +kernel)), ⟨by decide +kernel, by decide +kernel⟩, by decide +kernel⟩, (List.mem_of_getElem? (i := 506) (by decide +kernel)), rfl⟩
def B_at : xM := (yX4_at, cX4_at, 2, (some (.int)), [], 0, 0)
theorem ok_B_at : xMok B_at 2 := ⟨⟨by decide +kernel, (List.mem_of_getElem? (i := 38) (by decide +kernel)), ⟨by decide +kernel, by decide +kernel⟩, by decide +kernel⟩, (List.mem_of_getElem? (i := 286) (by decide +kernel)), rfl⟩
def B_put : xM := (yX4_put, cX4_put, 3, none, [], 0, 0)
theorem ok_B_put : xMok B_put 3 := ⟨⟨by decide +kernel, (List.mem_of_getElem? (i := 38) (by decide +kernel)), ⟨by decide +kernel, by decide +kernel⟩, by decide +kernel⟩, (List.mem_of_getElem? (i := 381) (by decide +kernel)), rfl⟩
def B_add : xM := (yX4_add, cX4_add, 3, none, [], 1, 22)
theorem ok_B_add : xMok B_add 3 := ⟨⟨by decide +kernel, (List.mem_of_getElem? (i := 38) (by decide +kernel)), ⟨by decide +kernel, by decide +kernel⟩, by decide +kernel⟩, (List.mem_of_getElem? (i := 378) (by decide +kernel)), rfl⟩
def B_copy : xM := (yX4_copy, cX4_copy, 3, none, [], 0, 0)
theorem ok_B_copy : xMok B_copy 2 := ⟨⟨by decide +kernel, (List.mem_of_getElem? (i := 38) (by decide +kernel)), ⟨by decide +kernel, by decide +kernel⟩, by decide +kernel⟩, (List.mem_of_getElem? (i := 90) (by decide +kernel)), rfl⟩
def B_sum : xM := (yX4_sum, cX4_sum, 3, (some (.int)), [], 0, 0)
theorem ok_B_sum : xMok B_sum 1 := ⟨⟨by decide +kernel, (List.mem_of_getElem? (i := 38) (by decide +kernel)), ⟨by decide +kernel, by decide +kernel⟩, by decide +kernel⟩, (List.mem_of_getElem? (i := 305) (by decide +kernel)), rfl⟩
def B_occurrences : xM := (yX4_occurrences, cX4_occurrences, 5, (some (.int)), [], 1, 21)
theorem ok_B_occurrences : xMok B_occurrences 3 := ⟨⟨by decide +kernel, (List.mem_of_getElem? (i := 38) (by decide +kernel)), ⟨by decide +kernel, by decide +kernel⟩, by decide +kernel⟩, (List.mem_of_getElem? (i := 518) (by decide +kernel)), rfl⟩
def B_quotient : xM := (yX4_quotient, cX4_quotient, 2, (some (.int)), [], 0, 0)
theorem ok_B_quotient : xMok B_quotient 2 := ⟨⟨by decide +kernel, (List.mem_of_getElem? (i := 38) (by decide +kernel)), ⟨by decide +kernel, by decide +kernel⟩, by decide +kernel⟩, (List.mem_of_getElem? (i := 615) (by decide +kernel)), rfl⟩
def L_cell : xM := (yL_cell, cL_cell, 2, (some (.int)), [], 0, 0)
theorem ok_L_cell : xMok L_cell 2 := ⟨⟨by decide +kernel, (List.mem_of_getElem? (i := 37) (by decide +kernel)), ⟨by decide +kernel, by decide +kernel⟩, by decide +kernel⟩, (List.mem_of_getElem? (i := 186) (by decide +kernel)), rfl⟩
def L_at : xM := (yL_at, cL_at, 2, (some (.int)), [], 0, 0)
theorem ok_L_at : xMok L_at 2 := ⟨⟨by decide +kernel, (List.mem_of_getElem? (i := 37) (by decide +kernel)), ⟨by decide +kernel, by decide +kernel⟩, by decide +kernel⟩, (List.mem_of_getElem? (i := 190) (by decide +kernel)), rfl⟩
def L_colour : xM := (yL_colour, cL_colour, 2, (some (.int)), [], 0, 0)
theorem ok_L_colour : xMok L_colour 2 := ⟨⟨by decide +kernel, (List.mem_of_getElem? (i := 37) (by decide +kernel)), ⟨by decide +kernel, by decide +kernel⟩, by decide +kernel⟩, (List.mem_of_getElem? (i := 455) (by decide +kernel)), rfl⟩
def L_put : xM := (yL_put, cL_put, 3, none, [], 0, 0)
theorem ok_L_put : xMok L_put 3 := ⟨⟨by decide +kernel, (List.mem_of_getElem? (i := 37) (by decide +kernel)), ⟨by decide +kernel, by decide +kernel⟩, by decide +kernel⟩, (List.mem_of_getElem? (i := 425) (by decide +kernel)), rfl⟩
def L_told : xM := (yL_told, cL_told, 6, (some (.int)), [], 1, 21)
theorem ok_L_told : xMok L_told 3 := ⟨⟨by decide +kernel, (List.mem_of_getElem? (i := 37) (by decide +kernel)), ⟨by decide +kernel, by decide +kernel⟩, by decide +kernel⟩, (List.mem_of_getElem? (i := 499) (by decide +kernel)), rfl⟩
def L_wrongs : xM := (yL_wrongs, cL_wrongs, 7, (some (.int)), [], 2, 46)
theorem od_L_wrongs : (parseMethodDescriptor (xmN L_wrongs).desc).map (fun d => d.parameters.length) = some 5 := by
  rw [show (xmN L_wrongs).desc = "([I[I[III)I" from rfl]
  exact pd_wrongs
theorem ok_L_wrongs : xMok L_wrongs 5 := ⟨⟨by decide +kernel, (List.mem_of_getElem? (i := 37) (by decide +kernel)), ⟨by decide +kernel, by decide +kernel⟩, od_L_wrongs⟩, (List.mem_of_getElem? (i := 595) (by decide +kernel)), rfl⟩
def L_fresh : xM := (yL_fresh, cL_fresh, 1, none, [], 0, 0)
theorem ok_L_fresh : xMok L_fresh 1 := ⟨⟨by decide +kernel, (List.mem_of_getElem? (i := 37) (by decide +kernel)), ⟨by decide +kernel, by decide +kernel⟩, by decide +kernel⟩, (List.mem_of_getElem? (i := 193) (by decide +kernel)), rfl⟩
def L_chart : xM := (yL_chart, cL_chart, 12, (some (.boolean)), [], 7, 146)
theorem od_L_chart : (parseMethodDescriptor (xmN L_chart).desc).map (fun d => d.parameters.length) = some 5 := by
  rw [show (xmN L_chart).desc = "(LBeadSpirals;II[I[I)Z" from rfl]
  exact pd_shop
set_option maxRecDepth 20000 in
theorem wd_L_chart : lw_tbl[384]? = some (Cond.code yL_chart cL_chart 12 (some (.boolean))) := by rfl
theorem ok_L_chart : xMok L_chart 5 := ⟨⟨by decide +kernel, (List.mem_of_getElem? (i := 37) (by decide +kernel)), ⟨by decide +kernel, by decide +kernel⟩, od_L_chart⟩, List.mem_of_getElem? wd_L_chart, rfl⟩
def L_save : xM := (yL_save, cL_save, 1, none, [], 0, 0)
theorem ok_L_save : xMok L_save 1 := ⟨⟨by decide +kernel, (List.mem_of_getElem? (i := 37) (by decide +kernel)), ⟨by decide +kernel, by decide +kernel⟩, by decide +kernel⟩, (List.mem_of_getElem? (i := 199) (by decide +kernel)), rfl⟩
def L_shop : xM := (yL_shop, cL_shop, 10, (some (.boolean)), [], 8, 177)
theorem od_L_shop : (parseMethodDescriptor (xmN L_shop).desc).map (fun d => d.parameters.length) = some 5 := by
  rw [show (xmN L_shop).desc = "(LBeadSpirals;II[I[I)Z" from rfl]
  exact pd_shop
set_option maxRecDepth 20000 in
theorem wd_L_shop : lw_tbl[196]? = some (Cond.code yL_shop cL_shop 10 (some (.boolean))) := by rfl
theorem ok_L_shop : xMok L_shop 5 := ⟨⟨by decide +kernel, (List.mem_of_getElem? (i := 37) (by decide +kernel)), ⟨by decide +kernel, by decide +kernel⟩, od_L_shop⟩, List.mem_of_getElem? wd_L_shop, rfl⟩
def L_strings : xM := (yL_strings, cL_strings, 14, (some (.boolean)), [], 8, 150)
theorem od_L_strings : (parseMethodDescriptor (xmN L_strings).desc).map (fun d => d.parameters.length) = some 7 := by
  rw [show (xmN L_strings).desc = "(LBeadSpirals;II[I[I[I[I)Z" from rfl]
  exact pd_strings
set_option maxRecDepth 20000 in
theorem wd_L_strings : lw_tbl[496]? = some (Cond.code yL_strings cL_strings 14 (some (.boolean))) := by rfl
theorem ok_L_strings : xMok L_strings 7 := ⟨⟨by decide +kernel, (List.mem_of_getElem? (i := 37) (by decide +kernel)), ⟨by decide +kernel, by decide +kernel⟩, od_L_strings⟩, List.mem_of_getElem? wd_L_strings, rfl⟩
def L_agree : xM := (yL_agree, cL_agree, 13, (some (.boolean)), [], 7, 135)
theorem od_L_agree : (parseMethodDescriptor (xmN L_agree).desc).map (fun d => d.parameters.length) = some 5 := by
  rw [show (xmN L_agree).desc = "(LBeadSpirals;[I[I[I[I)Z" from rfl]
  exact pd_agree
set_option maxRecDepth 20000 in
theorem wd_L_agree : lw_tbl[567]? = some (Cond.code yL_agree cL_agree 13 (some (.boolean))) := by rfl
theorem ok_L_agree : xMok L_agree 5 := ⟨⟨by decide +kernel, (List.mem_of_getElem? (i := 37) (by decide +kernel)), ⟨by decide +kernel, by decide +kernel⟩, od_L_agree⟩, List.mem_of_getElem? wd_L_agree, rfl⟩
def L_law : xM := (yL_law, cL_law, 11, some .boolean, [], 9, 206)
theorem s_X0_3 : Cond.methodLink RX0 3 ⟨"java/lang/Object", "<init>", "()V"⟩ ∈ lw_tbl := (List.mem_of_getElem? (i := 69) (by decide +kernel))
theorem s_X0_22 : Cond.methodLinkNest RX0 22 (xmN B_copy) "BeadSpirals" ∈ lw_tbl ∧ Cond.static (xmN B_copy) ∈ lw_tbl := ⟨(List.mem_of_getElem? (i := 375) (by decide +kernel)), (List.mem_of_getElem? (i := 89) (by decide +kernel))⟩
theorem s_X0_26 : Cond.methodLinkNest RX0 26 (xmN B_at) "BeadSpirals" ∈ lw_tbl ∧ Cond.static (xmN B_at) ∈ lw_tbl := ⟨(List.mem_of_getElem? (i := 318) (by decide +kernel)), (List.mem_of_getElem? (i := 285) (by decide +kernel))⟩
theorem s_X0_30 : Cond.methodLinkNest RX0 30 (xmN B_put) "BeadSpirals" ∈ lw_tbl ∧ Cond.static (xmN B_put) ∈ lw_tbl := ⟨(List.mem_of_getElem? (i := 450) (by decide +kernel)), (List.mem_of_getElem? (i := 380) (by decide +kernel))⟩
theorem s_X0_34 : Cond.methodLink RX0 34 (xmN C_cellAt) ∈ lw_tbl ∧ Cond.instanceMethod (xmN C_cellAt) ∈ lw_tbl ∧ Cond.selects (xmN C_cellAt).cls (xmN C_cellAt) (xmN C_cellAt) ∈ lw_tbl := ⟨(List.mem_of_getElem? (i := 314) (by decide +kernel)), (List.mem_of_getElem? (i := 316) (by decide +kernel)), (List.mem_of_getElem? (i := 10) (by decide +kernel))⟩
theorem s_X0_38 : Cond.methodLink RX0 38 (xmN C_cellsOf) ∈ lw_tbl ∧ Cond.instanceMethod (xmN C_cellsOf) ∈ lw_tbl ∧ Cond.selects (xmN C_cellsOf).cls (xmN C_cellsOf) (xmN C_cellsOf) ∈ lw_tbl := ⟨(List.mem_of_getElem? (i := 310) (by decide +kernel)), (List.mem_of_getElem? (i := 312) (by decide +kernel)), (List.mem_of_getElem? (i := 9) (by decide +kernel))⟩
theorem s_X0_42 : Cond.methodLink RX0 42 (xmN C_putCell) ∈ lw_tbl ∧ Cond.instanceMethod (xmN C_putCell) ∈ lw_tbl ∧ Cond.selects (xmN C_putCell).cls (xmN C_putCell) (xmN C_putCell) ∈ lw_tbl := ⟨(List.mem_of_getElem? (i := 465) (by decide +kernel)), (List.mem_of_getElem? (i := 448) (by decide +kernel)), (List.mem_of_getElem? (i := 23) (by decide +kernel))⟩
theorem s_X1_3 : Cond.methodLink RX1 3 ⟨"java/lang/Object", "<init>", "()V"⟩ ∈ lw_tbl := (List.mem_of_getElem? (i := 136) (by decide +kernel))
theorem s_X1_17 : Cond.methodLinkNest RX1 17 (xmN W_init) "BeadSpirals" ∈ lw_tbl ∧ Cond.instanceMethod (xmN W_init) ∈ lw_tbl := ⟨(List.mem_of_getElem? (i := 139) (by decide +kernel)), (List.mem_of_getElem? (i := 61) (by decide +kernel))⟩
theorem s_X1_25 : Cond.methodLink RX1 25 (xmN H_slot) ∈ lw_tbl ∧ Cond.instanceMethod (xmN H_slot) ∈ lw_tbl ∧ Cond.selects (xmN H_slot).cls (xmN H_slot) (xmN H_slot) ∈ lw_tbl := ⟨(List.mem_of_getElem? (i := 363) (by decide +kernel)), (List.mem_of_getElem? (i := 365) (by decide +kernel)), (List.mem_of_getElem? (i := 15) (by decide +kernel))⟩
theorem s_X1_29 : Cond.methodLinkNest RX1 29 (xmN W_copyFrom) "BeadSpirals" ∈ lw_tbl ∧ Cond.instanceMethod (xmN W_copyFrom) ∈ lw_tbl ∧ Cond.selects (xmN W_copyFrom).cls (xmN W_copyFrom) (xmN W_copyFrom) ∈ lw_tbl := ⟨(List.mem_of_getElem? (i := 367) (by decide +kernel)), (List.mem_of_getElem? (i := 369) (by decide +kernel)), (List.mem_of_getElem? (i := 16) (by decide +kernel))⟩
theorem s_X2_3 : Cond.methodLink RX2 3 ⟨"java/lang/Object", "<init>", "()V"⟩ ∈ lw_tbl := (List.mem_of_getElem? (i := 156) (by decide +kernel))
theorem s_X2_19 : Cond.methodLinkNest RX2 19 (xmN B_at) "BeadSpirals" ∈ lw_tbl ∧ Cond.static (xmN B_at) ∈ lw_tbl := ⟨(List.mem_of_getElem? (i := 407) (by decide +kernel)), (List.mem_of_getElem? (i := 285) (by decide +kernel))⟩
theorem s_X2_23 : Cond.methodLink RX2 23 (xmN T_stateBehind) ∈ lw_tbl ∧ Cond.static (xmN T_stateBehind) ∈ lw_tbl := ⟨(List.mem_of_getElem? (i := 408) (by decide +kernel)), (List.mem_of_getElem? (i := 409) (by decide +kernel))⟩
theorem s_X2_27 : Cond.methodLink RX2 27 (xmN T_errorIndex) ∈ lw_tbl ∧ Cond.instanceMethod (xmN T_errorIndex) ∈ lw_tbl ∧ Cond.selects (xmN T_errorIndex).cls (xmN T_errorIndex) (xmN T_errorIndex) ∈ lw_tbl := ⟨(List.mem_of_getElem? (i := 434) (by decide +kernel)), (List.mem_of_getElem? (i := 405) (by decide +kernel)), (List.mem_of_getElem? (i := 19) (by decide +kernel))⟩
theorem s_X2_31 : Cond.methodLink RX2 31 (xmN T_isLetter) ∈ lw_tbl ∧ Cond.static (xmN T_isLetter) ∈ lw_tbl := ⟨(List.mem_of_getElem? (i := 420) (by decide +kernel)), (List.mem_of_getElem? (i := 421) (by decide +kernel))⟩
theorem s_X2_35 : Cond.methodLink RX2 35 (xmN T_stateInPart) ∈ lw_tbl ∧ Cond.static (xmN T_stateInPart) ∈ lw_tbl := ⟨(List.mem_of_getElem? (i := 411) (by decide +kernel)), (List.mem_of_getElem? (i := 412) (by decide +kernel))⟩
theorem s_X2_39 : Cond.methodLink RX2 39 (xmN T_isDigit) ∈ lw_tbl ∧ Cond.static (xmN T_isDigit) ∈ lw_tbl := ⟨(List.mem_of_getElem? (i := 414) (by decide +kernel)), (List.mem_of_getElem? (i := 415) (by decide +kernel))⟩
theorem s_X2_42 : Cond.methodLink RX2 42 (xmN T_stateBehindNumber) ∈ lw_tbl ∧ Cond.static (xmN T_stateBehindNumber) ∈ lw_tbl := ⟨(List.mem_of_getElem? (i := 417) (by decide +kernel)), (List.mem_of_getElem? (i := 418) (by decide +kernel))⟩
theorem s_X2_49 : Cond.methodLink RX2 49 ⟨"java/lang/Math", "max", "(II)I"⟩ ∈ lw_tbl := (List.mem_of_getElem? (i := 444) (by decide +kernel))
theorem s_X2_55 : Cond.methodLinkNest RX2 55 (xmN B_put) "BeadSpirals" ∈ lw_tbl ∧ Cond.static (xmN B_put) ∈ lw_tbl := ⟨(List.mem_of_getElem? (i := 445) (by decide +kernel)), (List.mem_of_getElem? (i := 380) (by decide +kernel))⟩
theorem s_X2_45 : Cond.methodLink RX2 45 (xmN T_readBeads) ∈ lw_tbl ∧ Cond.instanceMethod (xmN T_readBeads) ∈ lw_tbl ∧ Cond.selects (xmN T_readBeads).cls (xmN T_readBeads) (xmN T_readBeads) ∈ lw_tbl := ⟨(List.mem_of_getElem? (i := 440) (by decide +kernel)), (List.mem_of_getElem? (i := 442) (by decide +kernel)), (List.mem_of_getElem? (i := 22) (by decide +kernel))⟩
theorem s_X2_59 : Cond.methodLinkNest RX2 59 (xmN C_putCell) "BeadSpirals" ∈ lw_tbl ∧ Cond.instanceMethod (xmN C_putCell) ∈ lw_tbl ∧ Cond.selects (xmN C_putCell).cls (xmN C_putCell) (xmN C_putCell) ∈ lw_tbl := ⟨(List.mem_of_getElem? (i := 446) (by decide +kernel)), (List.mem_of_getElem? (i := 448) (by decide +kernel)), (List.mem_of_getElem? (i := 23) (by decide +kernel))⟩
theorem s_X3_3 : Cond.methodLink RX3 3 ⟨"java/lang/Object", "<init>", "()V"⟩ ∈ lw_tbl := (List.mem_of_getElem? (i := 63) (by decide +kernel))
theorem s_X3_11 : Cond.methodLinkNest RX3 11 (xmN C_init) "BeadSpirals" ∈ lw_tbl ∧ Cond.instanceMethod (xmN C_init) ∈ lw_tbl := ⟨(List.mem_of_getElem? (i := 66) (by decide +kernel)), (List.mem_of_getElem? (i := 67) (by decide +kernel))⟩
theorem s_X3_25 : Cond.methodLinkNest RX3 25 (xmN B_copy) "BeadSpirals" ∈ lw_tbl ∧ Cond.static (xmN B_copy) ∈ lw_tbl := ⟨(List.mem_of_getElem? (i := 88) (by decide +kernel)), (List.mem_of_getElem? (i := 89) (by decide +kernel))⟩
theorem s_X3_54 : Cond.methodLinkNest RX3 54 (xmN C_copyFrom) "BeadSpirals" ∈ lw_tbl ∧ Cond.instanceMethod (xmN C_copyFrom) ∈ lw_tbl ∧ Cond.selects (xmN C_copyFrom).cls (xmN C_copyFrom) (xmN C_copyFrom) ∈ lw_tbl := ⟨(List.mem_of_getElem? (i := 371) (by decide +kernel)), (List.mem_of_getElem? (i := 373) (by decide +kernel)), (List.mem_of_getElem? (i := 17) (by decide +kernel))⟩
theorem s_X3_58 : Cond.methodLinkNest RX3 58 (xmN B_at) "BeadSpirals" ∈ lw_tbl ∧ Cond.static (xmN B_at) ∈ lw_tbl := ⟨(List.mem_of_getElem? (i := 284) (by decide +kernel)), (List.mem_of_getElem? (i := 285) (by decide +kernel))⟩
theorem s_X3_62 : Cond.methodLinkNest RX3 62 (xmN C_placeFor) "BeadSpirals" ∈ lw_tbl ∧ Cond.instanceMethod (xmN C_placeFor) ∈ lw_tbl ∧ Cond.selects (xmN C_placeFor).cls (xmN C_placeFor) (xmN C_placeFor) ∈ lw_tbl := ⟨(List.mem_of_getElem? (i := 291) (by decide +kernel)), (List.mem_of_getElem? (i := 293) (by decide +kernel)), (List.mem_of_getElem? (i := 5) (by decide +kernel))⟩
theorem s_X3_69 : Cond.methodLinkNest RX3 69 (xmN B_quotient) "BeadSpirals" ∈ lw_tbl ∧ Cond.static (xmN B_quotient) ∈ lw_tbl := ⟨(List.mem_of_getElem? (i := 613) (by decide +kernel)), (List.mem_of_getElem? (i := 614) (by decide +kernel))⟩
theorem s_X3_73 : Cond.methodLink RX3 73 (xmN W_patternColour) ∈ lw_tbl ∧ Cond.instanceMethod (xmN W_patternColour) ∈ lw_tbl ∧ Cond.selects (xmN W_patternColour).cls (xmN W_patternColour) (xmN W_patternColour) ∈ lw_tbl := ⟨(List.mem_of_getElem? (i := 287) (by decide +kernel)), (List.mem_of_getElem? (i := 289) (by decide +kernel)), (List.mem_of_getElem? (i := 4) (by decide +kernel))⟩
theorem s_X3_77 : Cond.methodLink RX3 77 (xmN W_isWrong) ∈ lw_tbl ∧ Cond.instanceMethod (xmN W_isWrong) ∈ lw_tbl ∧ Cond.selects (xmN W_isWrong).cls (xmN W_isWrong) (xmN W_isWrong) ∈ lw_tbl := ⟨(List.mem_of_getElem? (i := 280) (by decide +kernel)), (List.mem_of_getElem? (i := 282) (by decide +kernel)), (List.mem_of_getElem? (i := 3) (by decide +kernel))⟩
theorem s_X3_81 : Cond.methodLink RX3 81 (xmN W_endOf) ∈ lw_tbl ∧ Cond.instanceMethod (xmN W_endOf) ∈ lw_tbl ∧ Cond.selects (xmN W_endOf).cls (xmN W_endOf) (xmN W_endOf) ∈ lw_tbl := ⟨(List.mem_of_getElem? (i := 327) (by decide +kernel)), (List.mem_of_getElem? (i := 329) (by decide +kernel)), (List.mem_of_getElem? (i := 13) (by decide +kernel))⟩
theorem s_X3_84 : Cond.methodLink RX3 84 (xmN W_isHidden) ∈ lw_tbl ∧ Cond.instanceMethod (xmN W_isHidden) ∈ lw_tbl ∧ Cond.selects (xmN W_isHidden).cls (xmN W_isHidden) (xmN W_isHidden) ∈ lw_tbl := ⟨(List.mem_of_getElem? (i := 299) (by decide +kernel)), (List.mem_of_getElem? (i := 301) (by decide +kernel)), (List.mem_of_getElem? (i := 7) (by decide +kernel))⟩
theorem s_X3_87 : Cond.methodLink RX3 87 (xmN W_lengthOf) ∈ lw_tbl ∧ Cond.instanceMethod (xmN W_lengthOf) ∈ lw_tbl ∧ Cond.selects (xmN W_lengthOf).cls (xmN W_lengthOf) (xmN W_lengthOf) ∈ lw_tbl := ⟨(List.mem_of_getElem? (i := 323) (by decide +kernel)), (List.mem_of_getElem? (i := 325) (by decide +kernel)), (List.mem_of_getElem? (i := 12) (by decide +kernel))⟩
theorem s_X3_90 : Cond.methodLink RX3 90 (xmN W_stringOf) ∈ lw_tbl ∧ Cond.instanceMethod (xmN W_stringOf) ∈ lw_tbl ∧ Cond.selects (xmN W_stringOf).cls (xmN W_stringOf) (xmN W_stringOf) ∈ lw_tbl := ⟨(List.mem_of_getElem? (i := 561) (by decide +kernel)), (List.mem_of_getElem? (i := 563) (by decide +kernel)), (List.mem_of_getElem? (i := 31) (by decide +kernel))⟩
theorem s_X3_93 : Cond.methodLink RX3 93 (xmN W_wrongBetween) ∈ lw_tbl ∧ Cond.instanceMethod (xmN W_wrongBetween) ∈ lw_tbl ∧ Cond.selects (xmN W_wrongBetween).cls (xmN W_wrongBetween) (xmN W_wrongBetween) ∈ lw_tbl := ⟨(List.mem_of_getElem? (i := 592) (by decide +kernel)), (List.mem_of_getElem? (i := 278) (by decide +kernel)), (List.mem_of_getElem? (i := 2) (by decide +kernel))⟩
theorem s_X3_96 : Cond.methodLinkNest RX3 96 (xmN B_occurrences) "BeadSpirals" ∈ lw_tbl ∧ Cond.static (xmN B_occurrences) ∈ lw_tbl := ⟨(List.mem_of_getElem? (i := 516) (by decide +kernel)), (List.mem_of_getElem? (i := 517) (by decide +kernel))⟩
theorem s_X3_100 : Cond.methodLinkNest RX3 100 (xmN C_cellsOf) "BeadSpirals" ∈ lw_tbl ∧ Cond.instanceMethod (xmN C_cellsOf) ∈ lw_tbl ∧ Cond.selects (xmN C_cellsOf).cls (xmN C_cellsOf) (xmN C_cellsOf) ∈ lw_tbl := ⟨(List.mem_of_getElem? (i := 577) (by decide +kernel)), (List.mem_of_getElem? (i := 312) (by decide +kernel)), (List.mem_of_getElem? (i := 9) (by decide +kernel))⟩
theorem s_X3_103 : Cond.methodLink RX3 103 (xmN W_wrongOf) ∈ lw_tbl ∧ Cond.instanceMethod (xmN W_wrongOf) ∈ lw_tbl ∧ Cond.selects (xmN W_wrongOf).cls (xmN W_wrongOf) (xmN W_wrongOf) ∈ lw_tbl := ⟨(List.mem_of_getElem? (i := 578) (by decide +kernel)), (List.mem_of_getElem? (i := 580) (by decide +kernel)), (List.mem_of_getElem? (i := 33) (by decide +kernel))⟩
theorem s_X3_106 : Cond.methodLink RX3 106 (xmN W_room) ∈ lw_tbl ∧ Cond.instanceMethod (xmN W_room) ∈ lw_tbl ∧ Cond.selects (xmN W_room).cls (xmN W_room) (xmN W_room) ∈ lw_tbl := ⟨(List.mem_of_getElem? (i := 515) (by decide +kernel)), (List.mem_of_getElem? (i := 321) (by decide +kernel)), (List.mem_of_getElem? (i := 11) (by decide +kernel))⟩
theorem s_X3_110 : Cond.methodLinkNest RX3 110 (xmN B_put) "BeadSpirals" ∈ lw_tbl ∧ Cond.static (xmN B_put) ∈ lw_tbl := ⟨(List.mem_of_getElem? (i := 524) (by decide +kernel)), (List.mem_of_getElem? (i := 380) (by decide +kernel))⟩
theorem s_X3_114 : Cond.methodLinkNest RX3 114 (xmN B_add) "BeadSpirals" ∈ lw_tbl ∧ Cond.static (xmN B_add) ∈ lw_tbl := ⟨(List.mem_of_getElem? (i := 525) (by decide +kernel)), (List.mem_of_getElem? (i := 377) (by decide +kernel))⟩
theorem s_X4_1 : Cond.methodLink RX4 1 ⟨"java/lang/Object", "<init>", "()V"⟩ ∈ lw_tbl := (List.mem_of_getElem? (i := 55) (by decide +kernel))
theorem s_X4_9 : Cond.methodLinkNest RX4 9 (xmN W_init) "BeadSpirals" ∈ lw_tbl ∧ Cond.instanceMethod (xmN W_init) ∈ lw_tbl := ⟨(List.mem_of_getElem? (i := 60) (by decide +kernel)), (List.mem_of_getElem? (i := 61) (by decide +kernel))⟩
theorem s_X4_18 : Cond.methodLinkNest RX4 18 (xmN H_init) "BeadSpirals" ∈ lw_tbl ∧ Cond.instanceMethod (xmN H_init) ∈ lw_tbl := ⟨(List.mem_of_getElem? (i := 133) (by decide +kernel)), (List.mem_of_getElem? (i := 134) (by decide +kernel))⟩
theorem s_X4_25 : Cond.methodLinkNest RX4 25 (xmN T_init) "BeadSpirals" ∈ lw_tbl ∧ Cond.instanceMethod (xmN T_init) ∈ lw_tbl := ⟨(List.mem_of_getElem? (i := 153) (by decide +kernel)), (List.mem_of_getElem? (i := 154) (by decide +kernel))⟩
theorem s_X4_32 : Cond.methodLinkNest RX4 32 (xmN C_init) "BeadSpirals" ∈ lw_tbl ∧ Cond.instanceMethod (xmN C_init) ∈ lw_tbl := ⟨(List.mem_of_getElem? (i := 167) (by decide +kernel)), (List.mem_of_getElem? (i := 67) (by decide +kernel))⟩
theorem s_X4_41 : Cond.methodLinkNest RX4 41 (xmN T_isComplete) "BeadSpirals" ∈ lw_tbl ∧ Cond.instanceMethod (xmN T_isComplete) ∈ lw_tbl ∧ Cond.selects (xmN T_isComplete).cls (xmN T_isComplete) (xmN T_isComplete) ∈ lw_tbl := ⟨(List.mem_of_getElem? (i := 430) (by decide +kernel)), (List.mem_of_getElem? (i := 432) (by decide +kernel)), (List.mem_of_getElem? (i := 20) (by decide +kernel))⟩
theorem s_X4_49 : Cond.methodLink RX4 49 ⟨"java/lang/IllegalArgumentException", "<init>", "(Ljava/lang/String;)V"⟩ ∈ lw_tbl := (List.mem_of_getElem? (i := 246) (by decide +kernel))
theorem s_X4_52 : Cond.methodLinkNest RX4 52 (xmN T_readChart) "BeadSpirals" ∈ lw_tbl ∧ Cond.instanceMethod (xmN T_readChart) ∈ lw_tbl ∧ Cond.selects (xmN T_readChart).cls (xmN T_readChart) (xmN T_readChart) ∈ lw_tbl := ⟨(List.mem_of_getElem? (i := 436) (by decide +kernel)), (List.mem_of_getElem? (i := 438) (by decide +kernel)), (List.mem_of_getElem? (i := 21) (by decide +kernel))⟩
theorem s_X4_60 : Cond.methodLink RX4 60 ⟨"java/lang/IllegalStateException", "<init>", "(Ljava/lang/String;)V"⟩ ∈ lw_tbl := (List.mem_of_getElem? (i := 353) (by decide +kernel))
theorem s_X4_61 : Cond.methodLinkNest RX4 61 (xmN H_save) "BeadSpirals" ∈ lw_tbl ∧ Cond.instanceMethod (xmN H_save) ∈ lw_tbl ∧ Cond.selects (xmN H_save).cls (xmN H_save) (xmN H_save) ∈ lw_tbl := ⟨(List.mem_of_getElem? (i := 359) (by decide +kernel)), (List.mem_of_getElem? (i := 361) (by decide +kernel)), (List.mem_of_getElem? (i := 14) (by decide +kernel))⟩
theorem s_X4_68 : Cond.methodLinkNest RX4 68 (xmN C_copyFrom) "BeadSpirals" ∈ lw_tbl ∧ Cond.instanceMethod (xmN C_copyFrom) ∈ lw_tbl ∧ Cond.selects (xmN C_copyFrom).cls (xmN C_copyFrom) (xmN C_copyFrom) ∈ lw_tbl := ⟨(List.mem_of_getElem? (i := 452) (by decide +kernel)), (List.mem_of_getElem? (i := 373) (by decide +kernel)), (List.mem_of_getElem? (i := 17) (by decide +kernel))⟩
theorem s_X4_72 : Cond.methodLinkNest RX4 72 (xmN T_empty) "BeadSpirals" ∈ lw_tbl ∧ Cond.instanceMethod (xmN T_empty) ∈ lw_tbl ∧ Cond.selects (xmN T_empty).cls (xmN T_empty) (xmN T_empty) ∈ lw_tbl := ⟨(List.mem_of_getElem? (i := 389) (by decide +kernel)), (List.mem_of_getElem? (i := 391) (by decide +kernel)), (List.mem_of_getElem? (i := 18) (by decide +kernel))⟩
theorem s_X4_91 : Cond.methodLink RX4 91 (xmN B_isColour) ∈ lw_tbl ∧ Cond.static (xmN B_isColour) ∈ lw_tbl := ⟨(List.mem_of_getElem? (i := 338) (by decide +kernel)), (List.mem_of_getElem? (i := 339) (by decide +kernel))⟩
theorem s_X4_96 : Cond.methodLinkNest RX4 96 (xmN C_swapColours) "BeadSpirals" ∈ lw_tbl ∧ Cond.instanceMethod (xmN C_swapColours) ∈ lw_tbl ∧ Cond.selects (xmN C_swapColours).cls (xmN C_swapColours) (xmN C_swapColours) ∈ lw_tbl := ⟨(List.mem_of_getElem? (i := 461) (by decide +kernel)), (List.mem_of_getElem? (i := 463) (by decide +kernel)), (List.mem_of_getElem? (i := 24) (by decide +kernel))⟩
theorem s_X4_100 : Cond.methodLink RX4 100 (xmN B_isSetting) ∈ lw_tbl ∧ Cond.static (xmN B_isSetting) ∈ lw_tbl := ⟨(List.mem_of_getElem? (i := 470) (by decide +kernel)), (List.mem_of_getElem? (i := 471) (by decide +kernel))⟩
theorem s_X4_107 : Cond.methodLink RX4 107 ⟨"java/lang/IndexOutOfBoundsException", "<init>", "(Ljava/lang/String;)V"⟩ ∈ lw_tbl := (List.mem_of_getElem? (i := 483) (by decide +kernel))
theorem s_X4_111 : Cond.methodLink RX4 111 (xmN B_at) ∈ lw_tbl ∧ Cond.static (xmN B_at) ∈ lw_tbl := ⟨(List.mem_of_getElem? (i := 342) (by decide +kernel)), (List.mem_of_getElem? (i := 285) (by decide +kernel))⟩
theorem s_X4_123 : Cond.methodLink RX4 123 (xmN B_put) ∈ lw_tbl ∧ Cond.static (xmN B_put) ∈ lw_tbl := ⟨(List.mem_of_getElem? (i := 379) (by decide +kernel)), (List.mem_of_getElem? (i := 380) (by decide +kernel))⟩
theorem s_X4_134 : Cond.methodLink RX4 134 (xmN B_add) ∈ lw_tbl ∧ Cond.static (xmN B_add) ∈ lw_tbl := ⟨(List.mem_of_getElem? (i := 376) (by decide +kernel)), (List.mem_of_getElem? (i := 377) (by decide +kernel))⟩
theorem s_X4_140 : Cond.methodLink RX4 140 (xmN B_canBeStrungAtOnce) ∈ lw_tbl ∧ Cond.static (xmN B_canBeStrungAtOnce) ∈ lw_tbl := ⟨(List.mem_of_getElem? (i := 504) (by decide +kernel)), (List.mem_of_getElem? (i := 505) (by decide +kernel))⟩
theorem s_X4_143 : Cond.methodLink RX4 143 (xmN B_stringFresh) ∈ lw_tbl ∧ Cond.instanceMethod (xmN B_stringFresh) ∈ lw_tbl ∧ Cond.selects (xmN B_stringFresh).cls (xmN B_stringFresh) (xmN B_stringFresh) ∈ lw_tbl := ⟨(List.mem_of_getElem? (i := 507) (by decide +kernel)), (List.mem_of_getElem? (i := 509) (by decide +kernel)), (List.mem_of_getElem? (i := 25) (by decide +kernel))⟩
theorem s_X4_152 : Cond.methodLinkNest RX4 152 (xmN W_patternColour) "BeadSpirals" ∈ lw_tbl ∧ Cond.instanceMethod (xmN W_patternColour) ∈ lw_tbl ∧ Cond.selects (xmN W_patternColour).cls (xmN W_patternColour) (xmN W_patternColour) ∈ lw_tbl := ⟨(List.mem_of_getElem? (i := 531) (by decide +kernel)), (List.mem_of_getElem? (i := 289) (by decide +kernel)), (List.mem_of_getElem? (i := 4) (by decide +kernel))⟩
theorem s_X4_164 : Cond.methodLinkNest RX4 164 (xmN W_lengthOf) "BeadSpirals" ∈ lw_tbl ∧ Cond.instanceMethod (xmN W_lengthOf) ∈ lw_tbl ∧ Cond.selects (xmN W_lengthOf).cls (xmN W_lengthOf) (xmN W_lengthOf) ∈ lw_tbl := ⟨(List.mem_of_getElem? (i := 536) (by decide +kernel)), (List.mem_of_getElem? (i := 325) (by decide +kernel)), (List.mem_of_getElem? (i := 12) (by decide +kernel))⟩
theorem s_X4_172 : Cond.methodLinkNest RX4 172 (xmN W_isHidden) "BeadSpirals" ∈ lw_tbl ∧ Cond.instanceMethod (xmN W_isHidden) ∈ lw_tbl ∧ Cond.selects (xmN W_isHidden).cls (xmN W_isHidden) (xmN W_isHidden) ∈ lw_tbl := ⟨(List.mem_of_getElem? (i := 538) (by decide +kernel)), (List.mem_of_getElem? (i := 301) (by decide +kernel)), (List.mem_of_getElem? (i := 7) (by decide +kernel))⟩
theorem s_X4_175 : Cond.methodLink RX4 175 (xmN B_isStrung) ∈ lw_tbl ∧ Cond.instanceMethod (xmN B_isStrung) ∈ lw_tbl ∧ Cond.selects (xmN B_isStrung).cls (xmN B_isStrung) (xmN B_isStrung) ∈ lw_tbl := ⟨(List.mem_of_getElem? (i := 552) (by decide +kernel)), (List.mem_of_getElem? (i := 554) (by decide +kernel)), (List.mem_of_getElem? (i := 29) (by decide +kernel))⟩
theorem s_X4_180 : Cond.methodLinkNest RX4 180 (xmN W_crushBead) "BeadSpirals" ∈ lw_tbl ∧ Cond.instanceMethod (xmN W_crushBead) ∈ lw_tbl ∧ Cond.selects (xmN W_crushBead).cls (xmN W_crushBead) (xmN W_crushBead) ∈ lw_tbl := ⟨(List.mem_of_getElem? (i := 557) (by decide +kernel)), (List.mem_of_getElem? (i := 559) (by decide +kernel)), (List.mem_of_getElem? (i := 30) (by decide +kernel))⟩
theorem s_X4_186 : Cond.methodLinkNest RX4 186 (xmN W_takeOff) "BeadSpirals" ∈ lw_tbl ∧ Cond.instanceMethod (xmN W_takeOff) ∈ lw_tbl ∧ Cond.selects (xmN W_takeOff).cls (xmN W_takeOff) (xmN W_takeOff) ∈ lw_tbl := ⟨(List.mem_of_getElem? (i := 544) (by decide +kernel)), (List.mem_of_getElem? (i := 546) (by decide +kernel)), (List.mem_of_getElem? (i := 28) (by decide +kernel))⟩
theorem s_X4_199 : Cond.methodLinkNest RX4 199 (xmN T_errorIndex) "BeadSpirals" ∈ lw_tbl ∧ Cond.instanceMethod (xmN T_errorIndex) ∈ lw_tbl ∧ Cond.selects (xmN T_errorIndex).cls (xmN T_errorIndex) (xmN T_errorIndex) ∈ lw_tbl := ⟨(List.mem_of_getElem? (i := 403) (by decide +kernel)), (List.mem_of_getElem? (i := 405) (by decide +kernel)), (List.mem_of_getElem? (i := 19) (by decide +kernel))⟩
theorem s_X4_221 : Cond.methodLinkNest RX4 221 (xmN W_patternNumber) "BeadSpirals" ∈ lw_tbl ∧ Cond.instanceMethod (xmN W_patternNumber) ∈ lw_tbl ∧ Cond.selects (xmN W_patternNumber).cls (xmN W_patternNumber) (xmN W_patternNumber) ∈ lw_tbl := ⟨(List.mem_of_getElem? (i := 609) (by decide +kernel)), (List.mem_of_getElem? (i := 611) (by decide +kernel)), (List.mem_of_getElem? (i := 36) (by decide +kernel))⟩
theorem s_X4_226 : Cond.methodLinkNest RX4 226 (xmN W_beadNumber) "BeadSpirals" ∈ lw_tbl ∧ Cond.instanceMethod (xmN W_beadNumber) ∈ lw_tbl ∧ Cond.selects (xmN W_beadNumber).cls (xmN W_beadNumber) (xmN W_beadNumber) ∈ lw_tbl := ⟨(List.mem_of_getElem? (i := 600) (by decide +kernel)), (List.mem_of_getElem? (i := 602) (by decide +kernel)), (List.mem_of_getElem? (i := 35) (by decide +kernel))⟩
theorem s_X4_231 : Cond.methodLinkNest RX4 231 (xmN W_stringNumber) "BeadSpirals" ∈ lw_tbl ∧ Cond.instanceMethod (xmN W_stringNumber) ∈ lw_tbl ∧ Cond.selects (xmN W_stringNumber).cls (xmN W_stringNumber) (xmN W_stringNumber) ∈ lw_tbl := ⟨(List.mem_of_getElem? (i := 588) (by decide +kernel)), (List.mem_of_getElem? (i := 590) (by decide +kernel)), (List.mem_of_getElem? (i := 34) (by decide +kernel))⟩
theorem s_X4_236 : Cond.methodLinkNest RX4 236 (xmN W_colourNumber) "BeadSpirals" ∈ lw_tbl ∧ Cond.instanceMethod (xmN W_colourNumber) ∈ lw_tbl ∧ Cond.selects (xmN W_colourNumber).cls (xmN W_colourNumber) (xmN W_colourNumber) ∈ lw_tbl := ⟨(List.mem_of_getElem? (i := 573) (by decide +kernel)), (List.mem_of_getElem? (i := 575) (by decide +kernel)), (List.mem_of_getElem? (i := 32) (by decide +kernel))⟩
theorem s_X4_241 : Cond.methodLink RX4 241 (xmN B_numberOf) ∈ lw_tbl ∧ Cond.instanceMethod (xmN B_numberOf) ∈ lw_tbl ∧ Cond.selects (xmN B_numberOf).cls (xmN B_numberOf) (xmN B_numberOf) ∈ lw_tbl := ⟨(List.mem_of_getElem? (i := 272) (by decide +kernel)), (List.mem_of_getElem? (i := 274) (by decide +kernel)), (List.mem_of_getElem? (i := 1) (by decide +kernel))⟩
theorem s_X4_316 : Cond.methodLinkNest RX4 316 (xmN W_canTake) "BeadSpirals" ∈ lw_tbl ∧ Cond.instanceMethod (xmN W_canTake) ∈ lw_tbl ∧ Cond.selects (xmN W_canTake).cls (xmN W_canTake) (xmN W_canTake) ∈ lw_tbl := ⟨(List.mem_of_getElem? (i := 511) (by decide +kernel)), (List.mem_of_getElem? (i := 513) (by decide +kernel)), (List.mem_of_getElem? (i := 26) (by decide +kernel))⟩
theorem s_X4_322 : Cond.methodLinkNest RX4 322 (xmN W_takeOn) "BeadSpirals" ∈ lw_tbl ∧ Cond.instanceMethod (xmN W_takeOn) ∈ lw_tbl ∧ Cond.selects (xmN W_takeOn).cls (xmN W_takeOn) (xmN W_takeOn) ∈ lw_tbl := ⟨(List.mem_of_getElem? (i := 520) (by decide +kernel)), (List.mem_of_getElem? (i := 522) (by decide +kernel)), (List.mem_of_getElem? (i := 27) (by decide +kernel))⟩
theorem s_X4_268 : Cond.methodLinkNest RX4 268 (xmN W_wrongBetween) "BeadSpirals" ∈ lw_tbl ∧ Cond.instanceMethod (xmN W_wrongBetween) ∈ lw_tbl ∧ Cond.selects (xmN W_wrongBetween).cls (xmN W_wrongBetween) (xmN W_wrongBetween) ∈ lw_tbl := ⟨(List.mem_of_getElem? (i := 276) (by decide +kernel)), (List.mem_of_getElem? (i := 278) (by decide +kernel)), (List.mem_of_getElem? (i := 2) (by decide +kernel))⟩
theorem s_X4_326 : Cond.methodLinkNest RX4 326 (xmN W_openKnots) "BeadSpirals" ∈ lw_tbl ∧ Cond.instanceMethod (xmN W_openKnots) ∈ lw_tbl ∧ Cond.selects (xmN W_openKnots).cls (xmN W_openKnots) (xmN W_openKnots) ∈ lw_tbl := ⟨(List.mem_of_getElem? (i := 295) (by decide +kernel)), (List.mem_of_getElem? (i := 297) (by decide +kernel)), (List.mem_of_getElem? (i := 6) (by decide +kernel))⟩
theorem s_X4_329 : Cond.methodLink RX4 329 (xmN B_sum) ∈ lw_tbl ∧ Cond.static (xmN B_sum) ∈ lw_tbl := ⟨(List.mem_of_getElem? (i := 303) (by decide +kernel)), (List.mem_of_getElem? (i := 304) (by decide +kernel))⟩
theorem s_X4_338 : Cond.methodLinkNest RX4 338 (xmN C_differentColours) "BeadSpirals" ∈ lw_tbl ∧ Cond.instanceMethod (xmN C_differentColours) ∈ lw_tbl ∧ Cond.selects (xmN C_differentColours).cls (xmN C_differentColours) (xmN C_differentColours) ∈ lw_tbl := ⟨(List.mem_of_getElem? (i := 306) (by decide +kernel)), (List.mem_of_getElem? (i := 308) (by decide +kernel)), (List.mem_of_getElem? (i := 8) (by decide +kernel))⟩
theorem s_X4_341 : Cond.methodLinkNest RX4 341 (xmN W_room) "BeadSpirals" ∈ lw_tbl ∧ Cond.instanceMethod (xmN W_room) ∈ lw_tbl ∧ Cond.selects (xmN W_room).cls (xmN W_room) (xmN W_room) ∈ lw_tbl := ⟨(List.mem_of_getElem? (i := 319) (by decide +kernel)), (List.mem_of_getElem? (i := 321) (by decide +kernel)), (List.mem_of_getElem? (i := 11) (by decide +kernel))⟩
theorem s_X4_344 : Cond.methodLink RX4 344 ⟨"java/lang/Math", "max", "(II)I"⟩ ∈ lw_tbl := (List.mem_of_getElem? (i := 331) (by decide +kernel))
theorem s_L_8 : Cond.methodLink RL 8 (xmN L_colour) ∈ lw_tbl ∧ Cond.static (xmN L_colour) ∈ lw_tbl := ⟨(List.mem_of_getElem? (i := 453) (by decide +kernel)), (List.mem_of_getElem? (i := 454) (by decide +kernel))⟩
theorem s_L_14 : Cond.methodLink RL 14 (xmN L_told) ∈ lw_tbl ∧ Cond.static (xmN L_told) ∈ lw_tbl := ⟨(List.mem_of_getElem? (i := 497) (by decide +kernel)), (List.mem_of_getElem? (i := 498) (by decide +kernel))⟩
theorem s_L_18 : Cond.methodLink RL 18 (xmN B_clearBuffer) ∈ lw_tbl ∧ Cond.instanceMethod (xmN B_clearBuffer) ∈ lw_tbl ∧ Cond.selects (xmN B_clearBuffer).cls (xmN B_clearBuffer) (xmN B_clearBuffer) ∈ lw_tbl := ⟨(List.mem_of_getElem? (i := 385) (by decide +kernel)), (List.mem_of_getElem? (i := 386) (by decide +kernel)), (List.mem_of_getElem? (i := 387) (by decide +kernel))⟩
theorem s_L_24 : Cond.methodLink RL 24 (xmN L_at) ∈ lw_tbl ∧ Cond.static (xmN L_at) ∈ lw_tbl := ⟨(List.mem_of_getElem? (i := 188) (by decide +kernel)), (List.mem_of_getElem? (i := 189) (by decide +kernel))⟩
theorem s_L_28 : Cond.methodLink RL 28 (xmN B_append) ∈ lw_tbl ∧ Cond.instanceMethod (xmN B_append) ∈ lw_tbl ∧ Cond.selects (xmN B_append).cls (xmN B_append) (xmN B_append) ∈ lw_tbl := ⟨(List.mem_of_getElem? (i := 393) (by decide +kernel)), (List.mem_of_getElem? (i := 394) (by decide +kernel)), (List.mem_of_getElem? (i := 395) (by decide +kernel))⟩
theorem s_L_32 : Cond.methodLink RL 32 (xmN B_firstError) ∈ lw_tbl ∧ Cond.instanceMethod (xmN B_firstError) ∈ lw_tbl ∧ Cond.selects (xmN B_firstError).cls (xmN B_firstError) (xmN B_firstError) ∈ lw_tbl := ⟨(List.mem_of_getElem? (i := 399) (by decide +kernel)), (List.mem_of_getElem? (i := 400) (by decide +kernel)), (List.mem_of_getElem? (i := 401) (by decide +kernel))⟩
theorem s_L_36 : Cond.methodLink RL 36 (xmN L_put) ∈ lw_tbl ∧ Cond.static (xmN L_put) ∈ lw_tbl := ⟨(List.mem_of_getElem? (i := 423) (by decide +kernel)), (List.mem_of_getElem? (i := 424) (by decide +kernel))⟩
theorem s_L_40 : Cond.methodLink RL 40 (xmN B_load) ∈ lw_tbl ∧ Cond.instanceMethod (xmN B_load) ∈ lw_tbl ∧ Cond.selects (xmN B_load).cls (xmN B_load) (xmN B_load) ∈ lw_tbl := ⟨(List.mem_of_getElem? (i := 426) (by decide +kernel)), (List.mem_of_getElem? (i := 427) (by decide +kernel)), (List.mem_of_getElem? (i := 428) (by decide +kernel))⟩
theorem s_L_43 : Cond.methodLink RL 43 (xmN L_save) ∈ lw_tbl ∧ Cond.static (xmN L_save) ∈ lw_tbl := ⟨(List.mem_of_getElem? (i := 197) (by decide +kernel)), (List.mem_of_getElem? (i := 198) (by decide +kernel))⟩
theorem s_L_47 : Cond.methodLink RL 47 (xmN B_count) ∈ lw_tbl ∧ Cond.instanceMethod (xmN B_count) ∈ lw_tbl ∧ Cond.selects (xmN B_count).cls (xmN B_count) (xmN B_count) ∈ lw_tbl := ⟨(List.mem_of_getElem? (i := 200) (by decide +kernel)), (List.mem_of_getElem? (i := 201) (by decide +kernel)), (List.mem_of_getElem? (i := 202) (by decide +kernel))⟩
theorem s_L_50 : Cond.methodLink RL 50 (xmN B_buy) ∈ lw_tbl ∧ Cond.instanceMethod (xmN B_buy) ∈ lw_tbl ∧ Cond.selects (xmN B_buy).cls (xmN B_buy) (xmN B_buy) ∈ lw_tbl := ⟨(List.mem_of_getElem? (i := 334) (by decide +kernel)), (List.mem_of_getElem? (i := 335) (by decide +kernel)), (List.mem_of_getElem? (i := 336) (by decide +kernel))⟩
theorem s_L_53 : Cond.methodLink RL 53 (xmN L_chart) ∈ lw_tbl ∧ Cond.static (xmN L_chart) ∈ lw_tbl := ⟨(List.mem_of_getElem? (i := 382) (by decide +kernel)), (List.mem_of_getElem? (i := 383) (by decide +kernel))⟩
theorem s_L_57 : Cond.methodLink RL 57 (xmN B_recolour) ∈ lw_tbl ∧ Cond.instanceMethod (xmN B_recolour) ∈ lw_tbl ∧ Cond.selects (xmN B_recolour).cls (xmN B_recolour) (xmN B_recolour) ∈ lw_tbl := ⟨(List.mem_of_getElem? (i := 456) (by decide +kernel)), (List.mem_of_getElem? (i := 457) (by decide +kernel)), (List.mem_of_getElem? (i := 458) (by decide +kernel))⟩
theorem s_L_60 : Cond.methodLink RL 60 (xmN B_set) ∈ lw_tbl ∧ Cond.instanceMethod (xmN B_set) ∈ lw_tbl ∧ Cond.selects (xmN B_set).cls (xmN B_set) (xmN B_set) ∈ lw_tbl := ⟨(List.mem_of_getElem? (i := 466) (by decide +kernel)), (List.mem_of_getElem? (i := 467) (by decide +kernel)), (List.mem_of_getElem? (i := 468) (by decide +kernel))⟩
theorem s_L_63 : Cond.methodLink RL 63 (xmN B_string) ∈ lw_tbl ∧ Cond.instanceMethod (xmN B_string) ∈ lw_tbl ∧ Cond.selects (xmN B_string).cls (xmN B_string) (xmN B_string) ∈ lw_tbl := ⟨(List.mem_of_getElem? (i := 500) (by decide +kernel)), (List.mem_of_getElem? (i := 501) (by decide +kernel)), (List.mem_of_getElem? (i := 502) (by decide +kernel))⟩
theorem s_L_66 : Cond.methodLink RL 66 (xmN B_stringNext) ∈ lw_tbl ∧ Cond.instanceMethod (xmN B_stringNext) ∈ lw_tbl ∧ Cond.selects (xmN B_stringNext).cls (xmN B_stringNext) (xmN B_stringNext) ∈ lw_tbl := ⟨(List.mem_of_getElem? (i := 526) (by decide +kernel)), (List.mem_of_getElem? (i := 527) (by decide +kernel)), (List.mem_of_getElem? (i := 528) (by decide +kernel))⟩
theorem s_L_69 : Cond.methodLink RL 69 (xmN B_join) ∈ lw_tbl ∧ Cond.instanceMethod (xmN B_join) ∈ lw_tbl ∧ Cond.selects (xmN B_join).cls (xmN B_join) (xmN B_join) ∈ lw_tbl := ⟨(List.mem_of_getElem? (i := 532) (by decide +kernel)), (List.mem_of_getElem? (i := 533) (by decide +kernel)), (List.mem_of_getElem? (i := 534) (by decide +kernel))⟩
theorem s_L_72 : Cond.methodLink RL 72 (xmN B_unpick) ∈ lw_tbl ∧ Cond.instanceMethod (xmN B_unpick) ∈ lw_tbl ∧ Cond.selects (xmN B_unpick).cls (xmN B_unpick) (xmN B_unpick) ∈ lw_tbl := ⟨(List.mem_of_getElem? (i := 539) (by decide +kernel)), (List.mem_of_getElem? (i := 540) (by decide +kernel)), (List.mem_of_getElem? (i := 541) (by decide +kernel))⟩
theorem s_L_75 : Cond.methodLink RL 75 (xmN B_crush) ∈ lw_tbl ∧ Cond.instanceMethod (xmN B_crush) ∈ lw_tbl ∧ Cond.selects (xmN B_crush).cls (xmN B_crush) (xmN B_crush) ∈ lw_tbl := ⟨(List.mem_of_getElem? (i := 548) (by decide +kernel)), (List.mem_of_getElem? (i := 549) (by decide +kernel)), (List.mem_of_getElem? (i := 550) (by decide +kernel))⟩
theorem s_L_78 : Cond.methodLink RL 78 (xmN B_colour) ∈ lw_tbl ∧ Cond.instanceMethod (xmN B_colour) ∈ lw_tbl ∧ Cond.selects (xmN B_colour).cls (xmN B_colour) (xmN B_colour) ∈ lw_tbl := ⟨(List.mem_of_getElem? (i := 568) (by decide +kernel)), (List.mem_of_getElem? (i := 569) (by decide +kernel)), (List.mem_of_getElem? (i := 570) (by decide +kernel))⟩
theorem s_L_80 : Cond.methodLink RL 80 (xmN B_strand) ∈ lw_tbl ∧ Cond.instanceMethod (xmN B_strand) ∈ lw_tbl ∧ Cond.selects (xmN B_strand).cls (xmN B_strand) (xmN B_strand) ∈ lw_tbl := ⟨(List.mem_of_getElem? (i := 582) (by decide +kernel)), (List.mem_of_getElem? (i := 583) (by decide +kernel)), (List.mem_of_getElem? (i := 584) (by decide +kernel))⟩
theorem s_L_83 : Cond.methodLink RL 83 (xmN L_wrongs) ∈ lw_tbl ∧ Cond.static (xmN L_wrongs) ∈ lw_tbl := ⟨(List.mem_of_getElem? (i := 593) (by decide +kernel)), (List.mem_of_getElem? (i := 594) (by decide +kernel))⟩
theorem s_L_87 : Cond.methodLink RL 87 (xmN B_bead) ∈ lw_tbl ∧ Cond.instanceMethod (xmN B_bead) ∈ lw_tbl ∧ Cond.selects (xmN B_bead).cls (xmN B_bead) (xmN B_bead) ∈ lw_tbl := ⟨(List.mem_of_getElem? (i := 596) (by decide +kernel)), (List.mem_of_getElem? (i := 597) (by decide +kernel)), (List.mem_of_getElem? (i := 598) (by decide +kernel))⟩
theorem s_L_90 : Cond.methodLink RL 90 (xmN B_pattern) ∈ lw_tbl ∧ Cond.instanceMethod (xmN B_pattern) ∈ lw_tbl ∧ Cond.selects (xmN B_pattern).cls (xmN B_pattern) (xmN B_pattern) ∈ lw_tbl := ⟨(List.mem_of_getElem? (i := 604) (by decide +kernel)), (List.mem_of_getElem? (i := 605) (by decide +kernel)), (List.mem_of_getElem? (i := 606) (by decide +kernel))⟩
theorem s_L_93 : Cond.methodLink RL 93 (xmN B_init) ∈ lw_tbl ∧ Cond.instanceMethod (xmN B_init) ∈ lw_tbl := ⟨(List.mem_of_getElem? (i := 52) (by decide +kernel)), (List.mem_of_getElem? (i := 53) (by decide +kernel))⟩
theorem s_L_94 : Cond.methodLink RL 94 (xmN L_fresh) ∈ lw_tbl ∧ Cond.static (xmN L_fresh) ∈ lw_tbl := ⟨(List.mem_of_getElem? (i := 191) (by decide +kernel)), (List.mem_of_getElem? (i := 192) (by decide +kernel))⟩
theorem s_L_97 : Cond.methodLink RL 97 (xmN L_cell) ∈ lw_tbl ∧ Cond.static (xmN L_cell) ∈ lw_tbl := ⟨(List.mem_of_getElem? (i := 184) (by decide +kernel)), (List.mem_of_getElem? (i := 185) (by decide +kernel))⟩
theorem s_L_100 : Cond.methodLink RL 100 (xmN L_shop) ∈ lw_tbl ∧ Cond.static (xmN L_shop) ∈ lw_tbl := ⟨(List.mem_of_getElem? (i := 194) (by decide +kernel)), (List.mem_of_getElem? (i := 195) (by decide +kernel))⟩
theorem s_L_103 : Cond.methodLink RL 103 (xmN L_strings) ∈ lw_tbl ∧ Cond.static (xmN L_strings) ∈ lw_tbl := ⟨(List.mem_of_getElem? (i := 494) (by decide +kernel)), (List.mem_of_getElem? (i := 495) (by decide +kernel))⟩
theorem s_L_107 : Cond.methodLink RL 107 (xmN L_agree) ∈ lw_tbl ∧ Cond.static (xmN L_agree) ∈ lw_tbl := ⟨(List.mem_of_getElem? (i := 565) (by decide +kernel)), (List.mem_of_getElem? (i := 566) (by decide +kernel))⟩
theorem f_X0_9 : xFldOk RX0 9 0 0 (.array .int) true := ⟨RX0, TX0, 3, tyX0, rfl, by decide, xin0, tyX0_ok, nmX0, rfl, rfl, Or.inl (List.mem_of_getElem? (i := 70) (by decide +kernel))⟩
theorem ff_X0_9 : ∀ (C : String) (T : u_T) (N : Nat), xCl[0]? = some (C, T, N) → Cond.fieldLink RX0 9 (T 0).1 (T 0).2.1 (T 0).2.2.1 ∈ lw_tbl ∧ (T 0).1 = RX0 := by
  intro C T N h
  cases h
  exact ⟨(List.mem_of_getElem? (i := 70) (by decide +kernel)), rfl⟩
theorem f_X0_15 : xFldOk RX0 15 0 1 .int false := ⟨RX0, TX0, 3, tyX0, rfl, by decide, xin0, tyX0_ok, nmX0, rfl, rfl, Or.inl (List.mem_of_getElem? (i := 72) (by decide +kernel))⟩
theorem f_X0_19 : xFldOk RX0 19 0 2 .int false := ⟨RX0, TX0, 3, tyX0, rfl, by decide, xin0, tyX0_ok, nmX0, rfl, rfl, Or.inl (List.mem_of_getElem? (i := 75) (by decide +kernel))⟩
theorem f_X1_11 : xFldOk RX1 11 1 0 (.array (.object "BeadSpirals$Work")) true := ⟨RX1, TX1, 3, tyX1, rfl, by decide, xin1, tyX1_ok, nmX1, rfl, rfl, Or.inl (List.mem_of_getElem? (i := 140) (by decide +kernel))⟩
theorem ff_X1_11 : ∀ (C : String) (T : u_T) (N : Nat), xCl[1]? = some (C, T, N) → Cond.fieldLink RX1 11 (T 0).1 (T 0).2.1 (T 0).2.2.1 ∈ lw_tbl ∧ (T 0).1 = RX1 := by
  intro C T N h
  cases h
  exact ⟨(List.mem_of_getElem? (i := 140) (by decide +kernel)), rfl⟩
theorem f_X1_18 : xFldOk RX1 18 1 1 .int false := ⟨RX1, TX1, 3, tyX1, rfl, by decide, xin1, tyX1_ok, nmX1, rfl, rfl, Or.inl (List.mem_of_getElem? (i := 141) (by decide +kernel))⟩
theorem f_X1_22 : xFldOk RX1 22 1 2 .int false := ⟨RX1, TX1, 3, tyX1, rfl, by decide, xin1, tyX1_ok, nmX1, rfl, rfl, Or.inl (List.mem_of_getElem? (i := 142) (by decide +kernel))⟩
theorem f_X2_9 : xFldOk RX2 9 2 0 (.array .int) true := ⟨RX2, TX2, 2, tyX2, rfl, by decide, xin2, tyX2_ok, nmX2, rfl, rfl, Or.inl (List.mem_of_getElem? (i := 157) (by decide +kernel))⟩
theorem ff_X2_9 : ∀ (C : String) (T : u_T) (N : Nat), xCl[2]? = some (C, T, N) → Cond.fieldLink RX2 9 (T 0).1 (T 0).2.1 (T 0).2.2.1 ∈ lw_tbl ∧ (T 0).1 = RX2 := by
  intro C T N h
  cases h
  exact ⟨(List.mem_of_getElem? (i := 157) (by decide +kernel)), rfl⟩
theorem f_X2_15 : xFldOk RX2 15 2 1 .int false := ⟨RX2, TX2, 2, tyX2, rfl, by decide, xin2, tyX2_ok, nmX2, rfl, rfl, Or.inl (List.mem_of_getElem? (i := 159) (by decide +kernel))⟩
theorem f_X2_65 : xFldOk RX2 65 0 1 .int false := ⟨RX0, TX0, 3, tyX0, rfl, by decide, xin0, tyX0_ok, nmX0, rfl, rfl, Or.inr ⟨"BeadSpirals", (List.mem_of_getElem? (i := 74) (by decide +kernel))⟩⟩
theorem f_X2_68 : xFldOk RX2 68 0 2 .int false := ⟨RX0, TX0, 3, tyX0, rfl, by decide, xin0, tyX0_ok, nmX0, rfl, rfl, Or.inr ⟨"BeadSpirals", (List.mem_of_getElem? (i := 76) (by decide +kernel))⟩⟩
theorem f_X3_12 : xFldOk RX3 12 3 0 (.object "BeadSpirals$Chart") true := ⟨RX3, TX3, 10, tyX3, rfl, by decide, xin3, tyX3_ok, nmX3, rfl, rfl, Or.inl (List.mem_of_getElem? (i := 91) (by decide +kernel))⟩
theorem ff_X3_12 : ∀ (C : String) (T : u_T) (N : Nat), xCl[3]? = some (C, T, N) → Cond.fieldLink RX3 12 (T 0).1 (T 0).2.1 (T 0).2.2.1 ∈ lw_tbl ∧ (T 0).1 = RX3 := by
  intro C T N h
  cases h
  exact ⟨(List.mem_of_getElem? (i := 91) (by decide +kernel)), rfl⟩
theorem f_X3_18 : xFldOk RX3 18 3 1 (.array .int) true := ⟨RX3, TX3, 10, tyX3, rfl, by decide, xin3, tyX3_ok, nmX3, rfl, rfl, Or.inl (List.mem_of_getElem? (i := 93) (by decide +kernel))⟩
theorem ff_X3_18 : ∀ (C : String) (T : u_T) (N : Nat), xCl[3]? = some (C, T, N) → Cond.fieldLink RX3 18 (T 1).1 (T 1).2.1 (T 1).2.2.1 ∈ lw_tbl ∧ (T 1).1 = RX3 := by
  intro C T N h
  cases h
  exact ⟨(List.mem_of_getElem? (i := 93) (by decide +kernel)), rfl⟩
theorem g_X3_22 : Cond.fieldLink RX3 22 RX4 (xStat 1) "[I" ∈ lw_tbl ∨ ∃ host, Cond.fieldLinkNest RX3 22 RX4 (xStat 1) "[I" host ∈ lw_tbl := Or.inr ⟨"BeadSpirals", (List.mem_of_getElem? (i := 86) (by decide +kernel))⟩
theorem f_X3_29 : xFldOk RX3 29 3 2 (.array .int) true := ⟨RX3, TX3, 10, tyX3, rfl, by decide, xin3, tyX3_ok, nmX3, rfl, rfl, Or.inl (List.mem_of_getElem? (i := 95) (by decide +kernel))⟩
theorem ff_X3_29 : ∀ (C : String) (T : u_T) (N : Nat), xCl[3]? = some (C, T, N) → Cond.fieldLink RX3 29 (T 2).1 (T 2).2.1 (T 2).2.2.1 ∈ lw_tbl ∧ (T 2).1 = RX3 := by
  intro C T N h
  cases h
  exact ⟨(List.mem_of_getElem? (i := 95) (by decide +kernel)), rfl⟩
theorem f_X3_32 : xFldOk RX3 32 3 3 (.array .int) true := ⟨RX3, TX3, 10, tyX3, rfl, by decide, xin3, tyX3_ok, nmX3, rfl, rfl, Or.inl (List.mem_of_getElem? (i := 97) (by decide +kernel))⟩
theorem ff_X3_32 : ∀ (C : String) (T : u_T) (N : Nat), xCl[3]? = some (C, T, N) → Cond.fieldLink RX3 32 (T 3).1 (T 3).2.1 (T 3).2.2.1 ∈ lw_tbl ∧ (T 3).1 = RX3 := by
  intro C T N h
  cases h
  exact ⟨(List.mem_of_getElem? (i := 97) (by decide +kernel)), rfl⟩
theorem f_X3_35 : xFldOk RX3 35 3 4 (.array .int) true := ⟨RX3, TX3, 10, tyX3, rfl, by decide, xin3, tyX3_ok, nmX3, rfl, rfl, Or.inl (List.mem_of_getElem? (i := 99) (by decide +kernel))⟩
theorem ff_X3_35 : ∀ (C : String) (T : u_T) (N : Nat), xCl[3]? = some (C, T, N) → Cond.fieldLink RX3 35 (T 4).1 (T 4).2.1 (T 4).2.2.1 ∈ lw_tbl ∧ (T 4).1 = RX3 := by
  intro C T N h
  cases h
  exact ⟨(List.mem_of_getElem? (i := 99) (by decide +kernel)), rfl⟩
theorem f_X3_38 : xFldOk RX3 38 3 5 (.array .int) true := ⟨RX3, TX3, 10, tyX3, rfl, by decide, xin3, tyX3_ok, nmX3, rfl, rfl, Or.inl (List.mem_of_getElem? (i := 101) (by decide +kernel))⟩
theorem ff_X3_38 : ∀ (C : String) (T : u_T) (N : Nat), xCl[3]? = some (C, T, N) → Cond.fieldLink RX3 38 (T 5).1 (T 5).2.1 (T 5).2.2.1 ∈ lw_tbl ∧ (T 5).1 = RX3 := by
  intro C T N h
  cases h
  exact ⟨(List.mem_of_getElem? (i := 101) (by decide +kernel)), rfl⟩
theorem f_X3_41 : xFldOk RX3 41 3 6 (.array .int) true := ⟨RX3, TX3, 10, tyX3, rfl, by decide, xin3, tyX3_ok, nmX3, rfl, rfl, Or.inl (List.mem_of_getElem? (i := 102) (by decide +kernel))⟩
theorem ff_X3_41 : ∀ (C : String) (T : u_T) (N : Nat), xCl[3]? = some (C, T, N) → Cond.fieldLink RX3 41 (T 6).1 (T 6).2.1 (T 6).2.2.1 ∈ lw_tbl ∧ (T 6).1 = RX3 := by
  intro C T N h
  cases h
  exact ⟨(List.mem_of_getElem? (i := 102) (by decide +kernel)), rfl⟩
theorem f_X3_44 : xFldOk RX3 44 3 7 .int false := ⟨RX3, TX3, 10, tyX3, rfl, by decide, xin3, tyX3_ok, nmX3, rfl, rfl, Or.inl (List.mem_of_getElem? (i := 104) (by decide +kernel))⟩
theorem f_X3_48 : xFldOk RX3 48 3 8 .int false := ⟨RX3, TX3, 10, tyX3, rfl, by decide, xin3, tyX3_ok, nmX3, rfl, rfl, Or.inl (List.mem_of_getElem? (i := 106) (by decide +kernel))⟩
theorem f_X3_51 : xFldOk RX3 51 3 9 .int false := ⟨RX3, TX3, 10, tyX3, rfl, by decide, xin3, tyX3_ok, nmX3, rfl, rfl, Or.inl (List.mem_of_getElem? (i := 108) (by decide +kernel))⟩
theorem f_X3_66 : xFldOk RX3 66 0 0 (.array .int) true := ⟨RX0, TX0, 3, tyX0, rfl, by decide, xin0, tyX0_ok, nmX0, rfl, rfl, Or.inr ⟨"BeadSpirals", (List.mem_of_getElem? (i := 71) (by decide +kernel))⟩⟩
theorem f_X4_10 : xFldOk RX4 10 4 0 (.object "BeadSpirals$Work") true := ⟨RX4, TX4, 5, tyX4, rfl, by decide, xin4, tyX4_ok, nmX4, rfl, rfl, Or.inl (List.mem_of_getElem? (i := 168) (by decide +kernel))⟩
theorem ff_X4_10 : ∀ (C : String) (T : u_T) (N : Nat), xCl[4]? = some (C, T, N) → Cond.fieldLink RX4 10 (T 0).1 (T 0).2.1 (T 0).2.2.1 ∈ lw_tbl ∧ (T 0).1 = RX4 := by
  intro C T N h
  cases h
  exact ⟨(List.mem_of_getElem? (i := 168) (by decide +kernel)), rfl⟩
theorem f_X4_19 : xFldOk RX4 19 4 1 (.object "BeadSpirals$History") true := ⟨RX4, TX4, 5, tyX4, rfl, by decide, xin4, tyX4_ok, nmX4, rfl, rfl, Or.inl (List.mem_of_getElem? (i := 169) (by decide +kernel))⟩
theorem ff_X4_19 : ∀ (C : String) (T : u_T) (N : Nat), xCl[4]? = some (C, T, N) → Cond.fieldLink RX4 19 (T 1).1 (T 1).2.1 (T 1).2.2.1 ∈ lw_tbl ∧ (T 1).1 = RX4 := by
  intro C T N h
  cases h
  exact ⟨(List.mem_of_getElem? (i := 169) (by decide +kernel)), rfl⟩
theorem f_X4_26 : xFldOk RX4 26 4 2 (.object "BeadSpirals$Text") true := ⟨RX4, TX4, 5, tyX4, rfl, by decide, xin4, tyX4_ok, nmX4, rfl, rfl, Or.inl (List.mem_of_getElem? (i := 170) (by decide +kernel))⟩
theorem ff_X4_26 : ∀ (C : String) (T : u_T) (N : Nat), xCl[4]? = some (C, T, N) → Cond.fieldLink RX4 26 (T 2).1 (T 2).2.1 (T 2).2.2.1 ∈ lw_tbl ∧ (T 2).1 = RX4 := by
  intro C T N h
  cases h
  exact ⟨(List.mem_of_getElem? (i := 170) (by decide +kernel)), rfl⟩
theorem f_X4_33 : xFldOk RX4 33 4 3 (.object "BeadSpirals$Chart") true := ⟨RX4, TX4, 5, tyX4, rfl, by decide, xin4, tyX4_ok, nmX4, rfl, rfl, Or.inl (List.mem_of_getElem? (i := 171) (by decide +kernel))⟩
theorem ff_X4_33 : ∀ (C : String) (T : u_T) (N : Nat), xCl[4]? = some (C, T, N) → Cond.fieldLink RX4 33 (T 3).1 (T 3).2.1 (T 3).2.2.1 ∈ lw_tbl ∧ (T 3).1 = RX4 := by
  intro C T N h
  cases h
  exact ⟨(List.mem_of_getElem? (i := 171) (by decide +kernel)), rfl⟩
theorem f_X4_37 : xFldOk RX4 37 4 4 (.array .int) true := ⟨RX4, TX4, 5, tyX4, rfl, by decide, xin4, tyX4_ok, nmX4, rfl, rfl, Or.inl (List.mem_of_getElem? (i := 172) (by decide +kernel))⟩
theorem ff_X4_37 : ∀ (C : String) (T : u_T) (N : Nat), xCl[4]? = some (C, T, N) → Cond.fieldLink RX4 37 (T 4).1 (T 4).2.1 (T 4).2.2.1 ∈ lw_tbl ∧ (T 4).1 = RX4 := by
  intro C T N h
  cases h
  exact ⟨(List.mem_of_getElem? (i := 172) (by decide +kernel)), rfl⟩
theorem f_X4_65 : xFldOk RX4 65 3 0 (.object "BeadSpirals$Chart") true := ⟨RX3, TX3, 10, tyX3, rfl, by decide, xin3, tyX3_ok, nmX3, rfl, rfl, Or.inr ⟨"BeadSpirals", (List.mem_of_getElem? (i := 92) (by decide +kernel))⟩⟩
theorem f_X4_75 : xFldOk RX4 75 0 1 .int false := ⟨RX0, TX0, 3, tyX0, rfl, by decide, xin0, tyX0_ok, nmX0, rfl, rfl, Or.inr ⟨"BeadSpirals", (List.mem_of_getElem? (i := 73) (by decide +kernel))⟩⟩
theorem g_X4_108 : Cond.fieldLink RX4 108 RX4 (xStat 2) "[I" ∈ lw_tbl ∨ ∃ host, Cond.fieldLinkNest RX4 108 RX4 (xStat 2) "[I" host ∈ lw_tbl := Or.inl (List.mem_of_getElem? (i := 489) (by decide +kernel))
theorem g_X4_115 : Cond.fieldLink RX4 115 RX4 (xStat 3) "[I" ∈ lw_tbl ∨ ∃ host, Cond.fieldLinkNest RX4 115 RX4 (xStat 3) "[I" host ∈ lw_tbl := Or.inl (List.mem_of_getElem? (i := 491) (by decide +kernel))
theorem f_X4_120 : xFldOk RX4 120 3 1 (.array .int) true := ⟨RX3, TX3, 10, tyX3, rfl, by decide, xin3, tyX3_ok, nmX3, rfl, rfl, Or.inr ⟨"BeadSpirals", (List.mem_of_getElem? (i := 94) (by decide +kernel))⟩⟩
theorem f_X4_129 : xFldOk RX4 129 3 3 (.array .int) true := ⟨RX3, TX3, 10, tyX3, rfl, by decide, xin3, tyX3_ok, nmX3, rfl, rfl, Or.inr ⟨"BeadSpirals", (List.mem_of_getElem? (i := 98) (by decide +kernel))⟩⟩
theorem f_X4_137 : xFldOk RX4 137 3 2 (.array .int) true := ⟨RX3, TX3, 10, tyX3, rfl, by decide, xin3, tyX3_ok, nmX3, rfl, rfl, Or.inr ⟨"BeadSpirals", (List.mem_of_getElem? (i := 96) (by decide +kernel))⟩⟩
theorem f_X4_149 : xFldOk RX4 149 3 7 .int false := ⟨RX3, TX3, 10, tyX3, rfl, by decide, xin3, tyX3_ok, nmX3, rfl, rfl, Or.inr ⟨"BeadSpirals", (List.mem_of_getElem? (i := 105) (by decide +kernel))⟩⟩
theorem f_X4_161 : xFldOk RX4 161 3 8 .int false := ⟨RX3, TX3, 10, tyX3, rfl, by decide, xin3, tyX3_ok, nmX3, rfl, rfl, Or.inr ⟨"BeadSpirals", (List.mem_of_getElem? (i := 107) (by decide +kernel))⟩⟩
theorem f_X4_169 : xFldOk RX4 169 3 6 (.array .int) true := ⟨RX3, TX3, 10, tyX3, rfl, by decide, xin3, tyX3_ok, nmX3, rfl, rfl, Or.inr ⟨"BeadSpirals", (List.mem_of_getElem? (i := 103) (by decide +kernel))⟩⟩
theorem f_X4_191 : xFldOk RX4 191 2 1 .int false := ⟨RX2, TX2, 2, tyX2, rfl, by decide, xin2, tyX2_ok, nmX2, rfl, rfl, Or.inr ⟨"BeadSpirals", (List.mem_of_getElem? (i := 160) (by decide +kernel))⟩⟩
theorem f_X4_196 : xFldOk RX4 196 2 0 (.array .int) true := ⟨RX2, TX2, 2, tyX2, rfl, by decide, xin2, tyX2_ok, nmX2, rfl, rfl, Or.inr ⟨"BeadSpirals", (List.mem_of_getElem? (i := 158) (by decide +kernel))⟩⟩
theorem f_X4_211 : xFldOk RX4 211 0 2 .int false := ⟨RX0, TX0, 3, tyX0, rfl, by decide, xin0, tyX0_ok, nmX0, rfl, rfl, Or.inr ⟨"BeadSpirals", (List.mem_of_getElem? (i := 77) (by decide +kernel))⟩⟩
theorem f_X4_332 : xFldOk RX4 332 3 4 (.array .int) true := ⟨RX3, TX3, 10, tyX3, rfl, by decide, xin3, tyX3_ok, nmX3, rfl, rfl, Or.inr ⟨"BeadSpirals", (List.mem_of_getElem? (i := 100) (by decide +kernel))⟩⟩
theorem f_X4_335 : xFldOk RX4 335 3 9 .int false := ⟨RX3, TX3, 10, tyX3, rfl, by decide, xin3, tyX3_ok, nmX3, rfl, rfl, Or.inr ⟨"BeadSpirals", (List.mem_of_getElem? (i := 109) (by decide +kernel))⟩⟩
theorem f_X4_203 : xFldOk RX4 203 1 2 .int false := ⟨RX1, TX1, 3, tyX1, rfl, by decide, xin1, tyX1_ok, nmX1, rfl, rfl, Or.inr ⟨"BeadSpirals", (List.mem_of_getElem? (i := 143) (by decide +kernel))⟩⟩
theorem c_X1_9 : Cond.classLink RX1 9 RX3 ∈ lw_tbl := (List.mem_of_getElem? (i := 137) (by decide +kernel))
theorem n_X1_9 : xNewOk RX1 9 3 10 [.null, .null, .null, .null, .null, .null, .null, .int 0, .int 0, .int 0] := ⟨RX3, TX3, tyX3, rfl, xin3, tyX3_ok, by decide +kernel, (List.mem_of_getElem? (i := 137) (by decide +kernel)), (List.mem_of_getElem? (i := 59) (by decide +kernel)), (List.mem_of_getElem? (i := 39) (by decide +kernel))⟩
theorem n_X3_9 : xNewOk RX3 9 0 3 [.null, .int 0, .int 0] := ⟨RX0, TX0, tyX0, rfl, xin0, tyX0_ok, by decide +kernel, (List.mem_of_getElem? (i := 64) (by decide +kernel)), (List.mem_of_getElem? (i := 65) (by decide +kernel)), (List.mem_of_getElem? (i := 40) (by decide +kernel))⟩
theorem n_X4_7 : xNewOk RX4 7 3 10 [.null, .null, .null, .null, .null, .null, .null, .int 0, .int 0, .int 0] := ⟨RX3, TX3, tyX3, rfl, xin3, tyX3_ok, by decide +kernel, (List.mem_of_getElem? (i := 58) (by decide +kernel)), (List.mem_of_getElem? (i := 59) (by decide +kernel)), (List.mem_of_getElem? (i := 39) (by decide +kernel))⟩
theorem n_X4_16 : xNewOk RX4 16 1 3 [.null, .int 0, .int 0] := ⟨RX1, TX1, tyX1, rfl, xin1, tyX1_ok, by decide +kernel, (List.mem_of_getElem? (i := 131) (by decide +kernel)), (List.mem_of_getElem? (i := 132) (by decide +kernel)), (List.mem_of_getElem? (i := 41) (by decide +kernel))⟩
theorem n_X4_23 : xNewOk RX4 23 2 2 [.null, .int 0] := ⟨RX2, TX2, tyX2, rfl, xin2, tyX2_ok, by decide +kernel, (List.mem_of_getElem? (i := 151) (by decide +kernel)), (List.mem_of_getElem? (i := 152) (by decide +kernel)), (List.mem_of_getElem? (i := 42) (by decide +kernel))⟩
theorem n_X4_30 : xNewOk RX4 30 0 3 [.null, .int 0, .int 0] := ⟨RX0, TX0, tyX0, rfl, xin0, tyX0_ok, by decide +kernel, (List.mem_of_getElem? (i := 166) (by decide +kernel)), (List.mem_of_getElem? (i := 65) (by decide +kernel)), (List.mem_of_getElem? (i := 40) (by decide +kernel))⟩
set_option maxRecDepth 20000 in
theorem t_X4_45 : xThrOk RX4 45 49 xIA := ⟨(List.mem_of_getElem? (i := 204) (by decide +kernel)), (List.mem_of_getElem? (i := 46) (by decide +kernel)), by decide +kernel, fun w hw => by
  have h : (vx_atS RX4 49 xIA xNm).all (fun w => decide (w ∈ lw_tbl) && (w.onTables && w.keepsFace)) = true := by decide +kernel
  have h1 := List.all_eq_true.mp h w hw
  simp only [Bool.and_eq_true, decide_eq_true_eq] at h1
  exact ⟨h1.1, Or.inl h1.2⟩⟩
set_option maxRecDepth 20000 in
theorem t_X4_56 : xThrOk RX4 56 60 xIS := ⟨(List.mem_of_getElem? (i := 343) (by decide +kernel)), (List.mem_of_getElem? (i := 48) (by decide +kernel)), by decide +kernel, fun w hw => by
  have h : (vx_atS RX4 60 xIS xNm).all (fun w => decide (w ∈ lw_tbl) && (w.onTables && w.keepsFace)) = true := by decide +kernel
  have h1 := List.all_eq_true.mp h w hw
  simp only [Bool.and_eq_true, decide_eq_true_eq] at h1
  exact ⟨h1.1, Or.inl h1.2⟩⟩
set_option maxRecDepth 20000 in
theorem t_X4_103 : xThrOk RX4 103 107 xIX := ⟨(List.mem_of_getElem? (i := 473) (by decide +kernel)), (List.mem_of_getElem? (i := 49) (by decide +kernel)), by decide +kernel, fun w hw => by
  have h : (vx_atS RX4 107 xIX xNm).all (fun w => decide (w ∈ lw_tbl) && (w.onTables && w.keepsFace)) = true := by decide +kernel
  have h1 := List.all_eq_true.mp h w hw
  simp only [Bool.and_eq_true, decide_eq_true_eq] at h1
  exact ⟨h1.1, Or.inl h1.2⟩⟩
theorem n_L_19 : xNewOk RL 19 4 5 [.null, .null, .null, .null, .null] := ⟨RX4, TX4, tyX4, rfl, xin4, tyX4_ok, by decide +kernel, (List.mem_of_getElem? (i := 50) (by decide +kernel)), (List.mem_of_getElem? (i := 51) (by decide +kernel)), (List.mem_of_getElem? (i := 38) (by decide +kernel))⟩
theorem x_X4_47 : Cond.stringRef RX4 47 "the buffer is not a complete chart" ∈ lw_tbl := (List.mem_of_getElem? (i := 435) (by decide +kernel))
theorem x_X4_58 : Cond.stringRef RX4 58 "too many rows, too many columns, or unequal rows" ∈ lw_tbl := (List.mem_of_getElem? (i := 451) (by decide +kernel))
theorem x_X4_94 : Cond.stringRef RX4 94 "no such colour" ∈ lw_tbl := (List.mem_of_getElem? (i := 460) (by decide +kernel))
theorem x_X4_105 : Cond.stringRef RX4 105 "no such setting" ∈ lw_tbl := (List.mem_of_getElem? (i := 482) (by decide +kernel))
theorem x_X4_118 : Cond.stringRef RX4 118 "value out of range" ∈ lw_tbl := (List.mem_of_getElem? (i := 493) (by decide +kernel))
theorem x_X4_127 : Cond.stringRef RX4 127 "colour or number of beads out of range" ∈ lw_tbl := (List.mem_of_getElem? (i := 341) (by decide +kernel))
theorem x_X4_132 : Cond.stringRef RX4 132 "too many beads of this colour bought" ∈ lw_tbl := (List.mem_of_getElem? (i := 352) (by decide +kernel))
theorem x_X4_147 : Cond.stringRef RX4 147 "number of beads out of range" ∈ lw_tbl := (List.mem_of_getElem? (i := 530) (by decide +kernel))
theorem x_X4_167 : Cond.stringRef RX4 167 "the last string is empty, or it is the last allowed" ∈ lw_tbl := (List.mem_of_getElem? (i := 537) (by decide +kernel))
theorem x_X4_178 : Cond.stringRef RX4 178 "no such bead" ∈ lw_tbl := (List.mem_of_getElem? (i := 556) (by decide +kernel))
theorem x_X4_184 : Cond.stringRef RX4 184 "there are fewer beads" ∈ lw_tbl := (List.mem_of_getElem? (i := 543) (by decide +kernel))
theorem x_X4_189 : Cond.stringRef RX4 189 "no such character" ∈ lw_tbl := (List.mem_of_getElem? (i := 397) (by decide +kernel))
theorem x_X4_194 : Cond.stringRef RX4 194 "the buffer is full" ∈ lw_tbl := (List.mem_of_getElem? (i := 398) (by decide +kernel))
theorem x_X4_219 : Cond.stringRef RX4 219 "bead or what out of range" ∈ lw_tbl := (List.mem_of_getElem? (i := 608) (by decide +kernel))
theorem x_X4_224 : Cond.stringRef RX4 224 "no such property" ∈ lw_tbl := (List.mem_of_getElem? (i := 587) (by decide +kernel))
theorem x_X4_229 : Cond.stringRef RX4 229 "no such string" ∈ lw_tbl := (List.mem_of_getElem? (i := 586) (by decide +kernel))
theorem x_X4_234 : Cond.stringRef RX4 234 "colour or what out of range" ∈ lw_tbl := (List.mem_of_getElem? (i := 572) (by decide +kernel))
theorem x_X4_239 : Cond.stringRef RX4 239 "no such number" ∈ lw_tbl := (List.mem_of_getElem? (i := 245) (by decide +kernel))
theorem x_X4_320 : Cond.stringRef RX4 320 "not enough beads in the stock, or no room for them" ∈ lw_tbl := (List.mem_of_getElem? (i := 519) (by decide +kernel))
theorem k_L_7 : Cond.constant RL 7 (625341585 : Int32) ∈ lw_tbl := (List.mem_of_getElem? (i := 187) (by decide +kernel))

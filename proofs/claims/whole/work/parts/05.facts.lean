def mX0_init : oM := (yX0_init, cX0_init, 1, none, 1, 20)
set_option maxRecDepth 100000 in
theorem kc_X0_init : oMc mX0_init := ⟨(oWL_t (n := 103) rfl rfl), (oWL_t (n := 4) rfl rfl), by decide, by decide⟩
set_option maxRecDepth 100000 in
theorem ki_X0_init : oMi mX0_init := ⟨kc_X0_init, (oWL_t (n := 102) rfl rfl)⟩
theorem kn_X0_init : oN mX0_init 0 := (by decide +kernel : (parseMethodDescriptor (yX0_init).desc).map (fun d => d.parameters.length) = some 0)
def mX0_emptyTrace : oM := (yX0_emptyTrace, cX0_emptyTrace, 1, none, 0, 0)
set_option maxRecDepth 100000 in
theorem kc_X0_emptyTrace : oMc mX0_emptyTrace := ⟨(oWL_t (n := 612) rfl rfl), (oWL_t (n := 4) rfl rfl), by decide, by decide⟩
set_option maxRecDepth 100000 in
theorem ki_X0_emptyTrace : oMi mX0_emptyTrace := ⟨kc_X0_emptyTrace, (oWL_t (n := 610) rfl rfl)⟩
set_option maxRecDepth 100000 in
theorem kv_X0_emptyTrace : oMv mX0_emptyTrace := ⟨ki_X0_emptyTrace, (oWL_t (n := 611) rfl rfl)⟩
theorem kn_X0_emptyTrace : oN mX0_emptyTrace 0 := (by decide +kernel : (parseMethodDescriptor (yX0_emptyTrace).desc).map (fun d => d.parameters.length) = some 0)
def mX0_traced : oM := (yX0_traced, cX0_traced, 2, some .int, 0, 0)
set_option maxRecDepth 100000 in
theorem kc_X0_traced : oMc mX0_traced := ⟨(oWL_t (n := 662) rfl rfl), (oWL_t (n := 4) rfl rfl), by decide, by decide⟩
set_option maxRecDepth 100000 in
theorem ki_X0_traced : oMi mX0_traced := ⟨kc_X0_traced, (oWL_t (n := 660) rfl rfl)⟩
set_option maxRecDepth 100000 in
theorem kv_X0_traced : oMv mX0_traced := ⟨ki_X0_traced, (oWL_t (n := 661) rfl rfl)⟩
theorem kn_X0_traced : oN mX0_traced 1 := (by decide +kernel : (parseMethodDescriptor (yX0_traced).desc).map (fun d => d.parameters.length) = some 1)
def mX0_weight : oM := (yX0_weight, cX0_weight, 2, some .int, 4, 84)
set_option maxRecDepth 100000 in
theorem kc_X0_weight : oMc mX0_weight := ⟨(oWL_t (n := 616) rfl rfl), (oWL_t (n := 4) rfl rfl), by decide, by decide⟩
set_option maxRecDepth 100000 in
theorem ki_X0_weight : oMi mX0_weight := ⟨kc_X0_weight, (oWL_t (n := 614) rfl rfl)⟩
set_option maxRecDepth 100000 in
theorem kv_X0_weight : oMv mX0_weight := ⟨ki_X0_weight, (oWL_t (n := 615) rfl rfl)⟩
theorem kn_X0_weight : oN mX0_weight 1 := (by decide +kernel : (parseMethodDescriptor (yX0_weight).desc).map (fun d => d.parameters.length) = some 1)
def mX0_mark : oM := (yX0_mark, cX0_mark, 2, some .int, 6, 126)
set_option maxRecDepth 100000 in
theorem kc_X0_mark : oMc mX0_mark := ⟨(oWL_t (n := 641) rfl rfl), (oWL_t (n := 4) rfl rfl), by decide, by decide⟩
set_option maxRecDepth 100000 in
theorem ki_X0_mark : oMi mX0_mark := ⟨kc_X0_mark, (oWL_t (n := 639) rfl rfl)⟩
set_option maxRecDepth 100000 in
theorem kv_X0_mark : oMv mX0_mark := ⟨ki_X0_mark, (oWL_t (n := 640) rfl rfl)⟩
theorem kn_X0_mark : oN mX0_mark 1 := (by decide +kernel : (parseMethodDescriptor (yX0_mark).desc).map (fun d => d.parameters.length) = some 1)
def mX0_lentWeight : oM := (yX0_lentWeight, cX0_lentWeight, 2, some .int, 1, 21)
set_option maxRecDepth 100000 in
theorem kc_X0_lentWeight : oMc mX0_lentWeight := ⟨(oWL_t (n := 629) rfl rfl), (oWL_t (n := 4) rfl rfl), by decide, by decide⟩
set_option maxRecDepth 100000 in
theorem ki_X0_lentWeight : oMi mX0_lentWeight := ⟨kc_X0_lentWeight, (oWL_t (n := 628) rfl rfl)⟩
set_option maxRecDepth 100000 in
theorem kv_X0_lentWeight : oMv mX0_lentWeight := ⟨ki_X0_lentWeight, (oWL_p (n := 31) rfl rfl)⟩
theorem kn_X0_lentWeight : oN mX0_lentWeight 1 := (by decide +kernel : (parseMethodDescriptor (yX0_lentWeight).desc).map (fun d => d.parameters.length) = some 1)
def mX0_knownWeight : oM := (yX0_knownWeight, cX0_knownWeight, 2, some .int, 2, 42)
set_option maxRecDepth 100000 in
theorem kc_X0_knownWeight : oMc mX0_knownWeight := ⟨(oWL_t (n := 637) rfl rfl), (oWL_t (n := 4) rfl rfl), by decide, by decide⟩
set_option maxRecDepth 100000 in
theorem ki_X0_knownWeight : oMi mX0_knownWeight := ⟨kc_X0_knownWeight, (oWL_t (n := 636) rfl rfl)⟩
set_option maxRecDepth 100000 in
theorem kv_X0_knownWeight : oMv mX0_knownWeight := ⟨ki_X0_knownWeight, (oWL_p (n := 33) rfl rfl)⟩
theorem kn_X0_knownWeight : oN mX0_knownWeight 1 := (by decide +kernel : (parseMethodDescriptor (yX0_knownWeight).desc).map (fun d => d.parameters.length) = some 1)
def mX0_steadyWeight : oM := (yX0_steadyWeight, cX0_steadyWeight, 2, some .int, 3, 63)
set_option maxRecDepth 100000 in
theorem kc_X0_steadyWeight : oMc mX0_steadyWeight := ⟨(oWL_t (n := 633) rfl rfl), (oWL_t (n := 4) rfl rfl), by decide, by decide⟩
set_option maxRecDepth 100000 in
theorem ki_X0_steadyWeight : oMi mX0_steadyWeight := ⟨kc_X0_steadyWeight, (oWL_t (n := 632) rfl rfl)⟩
set_option maxRecDepth 100000 in
theorem kv_X0_steadyWeight : oMv mX0_steadyWeight := ⟨ki_X0_steadyWeight, (oWL_p (n := 32) rfl rfl)⟩
theorem kn_X0_steadyWeight : oN mX0_steadyWeight 1 := (by decide +kernel : (parseMethodDescriptor (yX0_steadyWeight).desc).map (fun d => d.parameters.length) = some 1)
def mX0_leakyWeight : oM := (yX0_leakyWeight, cX0_leakyWeight, 2, some .int, 2, 42)
set_option maxRecDepth 100000 in
theorem kc_X0_leakyWeight : oMc mX0_leakyWeight := ⟨(oWL_t (n := 621) rfl rfl), (oWL_t (n := 4) rfl rfl), by decide, by decide⟩
set_option maxRecDepth 100000 in
theorem ki_X0_leakyWeight : oMi mX0_leakyWeight := ⟨kc_X0_leakyWeight, (oWL_t (n := 620) rfl rfl)⟩
set_option maxRecDepth 100000 in
theorem kv_X0_leakyWeight : oMv mX0_leakyWeight := ⟨ki_X0_leakyWeight, (oWL_p (n := 29) rfl rfl)⟩
theorem kn_X0_leakyWeight : oN mX0_leakyWeight 1 := (by decide +kernel : (parseMethodDescriptor (yX0_leakyWeight).desc).map (fun d => d.parameters.length) = some 1)
def mX0_lentMark : oM := (yX0_lentMark, cX0_lentMark, 2, some .int, 1, 21)
set_option maxRecDepth 100000 in
theorem kc_X0_lentMark : oMc mX0_lentMark := ⟨(oWL_t (n := 649) rfl rfl), (oWL_t (n := 4) rfl rfl), by decide, by decide⟩
set_option maxRecDepth 100000 in
theorem ki_X0_lentMark : oMi mX0_lentMark := ⟨kc_X0_lentMark, (oWL_t (n := 648) rfl rfl)⟩
set_option maxRecDepth 100000 in
theorem kv_X0_lentMark : oMv mX0_lentMark := ⟨ki_X0_lentMark, (oWL_p (n := 35) rfl rfl)⟩
theorem kn_X0_lentMark : oN mX0_lentMark 1 := (by decide +kernel : (parseMethodDescriptor (yX0_lentMark).desc).map (fun d => d.parameters.length) = some 1)
def mX0_knownMark : oM := (yX0_knownMark, cX0_knownMark, 2, some .int, 5, 105)
set_option maxRecDepth 100000 in
theorem kc_X0_knownMark : oMc mX0_knownMark := ⟨(oWL_t (n := 654) rfl rfl), (oWL_t (n := 4) rfl rfl), by decide, by decide⟩
set_option maxRecDepth 100000 in
theorem ki_X0_knownMark : oMi mX0_knownMark := ⟨kc_X0_knownMark, (oWL_t (n := 653) rfl rfl)⟩
set_option maxRecDepth 100000 in
theorem kv_X0_knownMark : oMv mX0_knownMark := ⟨ki_X0_knownMark, (oWL_p (n := 36) rfl rfl)⟩
theorem kn_X0_knownMark : oN mX0_knownMark 1 := (by decide +kernel : (parseMethodDescriptor (yX0_knownMark).desc).map (fun d => d.parameters.length) = some 1)
def mX0_leakyMark : oM := (yX0_leakyMark, cX0_leakyMark, 2, some .int, 5, 105)
set_option maxRecDepth 100000 in
theorem kc_X0_leakyMark : oMc mX0_leakyMark := ⟨(oWL_t (n := 645) rfl rfl), (oWL_t (n := 4) rfl rfl), by decide, by decide⟩
set_option maxRecDepth 100000 in
theorem ki_X0_leakyMark : oMi mX0_leakyMark := ⟨kc_X0_leakyMark, (oWL_t (n := 644) rfl rfl)⟩
set_option maxRecDepth 100000 in
theorem kv_X0_leakyMark : oMv mX0_leakyMark := ⟨ki_X0_leakyMark, (oWL_p (n := 34) rfl rfl)⟩
theorem kn_X0_leakyMark : oN mX0_leakyMark 1 := (by decide +kernel : (parseMethodDescriptor (yX0_leakyMark).desc).map (fun d => d.parameters.length) = some 1)
def mX0_begin : oM := (yX0_begin, cX0_begin, 2, none, 0, 0)
set_option maxRecDepth 100000 in
theorem kc_X0_begin : oMc mX0_begin := ⟨(oWL_t (n := 625) rfl rfl), (oWL_t (n := 4) rfl rfl), by decide, by decide⟩
set_option maxRecDepth 100000 in
theorem ki_X0_begin : oMi mX0_begin := ⟨kc_X0_begin, (oWL_t (n := 624) rfl rfl)⟩
set_option maxRecDepth 100000 in
theorem kv_X0_begin : oMv mX0_begin := ⟨ki_X0_begin, (oWL_p (n := 30) rfl rfl)⟩
theorem kn_X0_begin : oN mX0_begin 1 := (by decide +kernel : (parseMethodDescriptor (yX0_begin).desc).map (fun d => d.parameters.length) = some 1)
def mX1_init : oM := (yX1_init, cX1_init, 4, none, 2, 40)
set_option maxRecDepth 100000 in
theorem kc_X1_init : oMc mX1_init := ⟨(oWL_t (n := 167) rfl rfl), (oWL_t (n := 6) rfl rfl), by decide, by decide⟩
set_option maxRecDepth 100000 in
theorem ki_X1_init : oMi mX1_init := ⟨kc_X1_init, (oWL_t (n := 166) rfl rfl)⟩
theorem kn_X1_init : oN mX1_init 3 := (by decide +kernel : (parseMethodDescriptor (yX1_init).desc).map (fun d => d.parameters.length) = some 3)
def mX1_low : oM := (yX1_low, cX1_low, 2, some .int, 0, 0)
set_option maxRecDepth 100000 in
theorem kc_X1_low : oMc mX1_low := ⟨(oWL_t (n := 274) rfl rfl), (oWL_t (n := 6) rfl rfl), by decide, by decide⟩
set_option maxRecDepth 100000 in
theorem ki_X1_low : oMi mX1_low := ⟨kc_X1_low, (oWL_t (n := 273) rfl rfl)⟩
set_option maxRecDepth 100000 in
theorem kv_X1_low : oMv mX1_low := ⟨ki_X1_low, (oWL_p (n := 1) rfl rfl)⟩
theorem kn_X1_low : oN mX1_low 1 := (by decide +kernel : (parseMethodDescriptor (yX1_low).desc).map (fun d => d.parameters.length) = some 1)
def mX1_high : oM := (yX1_high, cX1_high, 2, some .int, 0, 0)
set_option maxRecDepth 100000 in
theorem kc_X1_high : oMc mX1_high := ⟨(oWL_t (n := 281) rfl rfl), (oWL_t (n := 6) rfl rfl), by decide, by decide⟩
set_option maxRecDepth 100000 in
theorem ki_X1_high : oMi mX1_high := ⟨kc_X1_high, (oWL_t (n := 280) rfl rfl)⟩
set_option maxRecDepth 100000 in
theorem kv_X1_high : oMv mX1_high := ⟨ki_X1_high, (oWL_p (n := 2) rfl rfl)⟩
theorem kn_X1_high : oN mX1_high 1 := (by decide +kernel : (parseMethodDescriptor (yX1_high).desc).map (fun d => d.parameters.length) = some 1)
def mX1_endDay : oM := (yX1_endDay, cX1_endDay, 2, none, 1, 21)
set_option maxRecDepth 100000 in
theorem kc_X1_endDay : oMc mX1_endDay := ⟨(oWL_t (n := 270) rfl rfl), (oWL_t (n := 6) rfl rfl), by decide, by decide⟩
set_option maxRecDepth 100000 in
theorem ki_X1_endDay : oMi mX1_endDay := ⟨kc_X1_endDay, (oWL_t (n := 268) rfl rfl)⟩
set_option maxRecDepth 100000 in
theorem kv_X1_endDay : oMv mX1_endDay := ⟨ki_X1_endDay, (oWL_t (n := 269) rfl rfl)⟩
theorem kn_X1_endDay : oN mX1_endDay 1 := (by decide +kernel : (parseMethodDescriptor (yX1_endDay).desc).map (fun d => d.parameters.length) = some 1)
def mX1_isSafe : oM := (yX1_isSafe, cX1_isSafe, 1, some .boolean, 0, 0)
set_option maxRecDepth 100000 in
theorem kc_X1_isSafe : oMc mX1_isSafe := ⟨(oWL_t (n := 285) rfl rfl), (oWL_t (n := 6) rfl rfl), by decide, by decide⟩
set_option maxRecDepth 100000 in
theorem ki_X1_isSafe : oMi mX1_isSafe := ⟨kc_X1_isSafe, (oWL_t (n := 283) rfl rfl)⟩
set_option maxRecDepth 100000 in
theorem kv_X1_isSafe : oMv mX1_isSafe := ⟨ki_X1_isSafe, (oWL_t (n := 284) rfl rfl)⟩
theorem kn_X1_isSafe : oN mX1_isSafe 0 := (by decide +kernel : (parseMethodDescriptor (yX1_isSafe).desc).map (fun d => d.parameters.length) = some 0)
def mX1_isDue : oM := (yX1_isDue, cX1_isDue, 3, some .boolean, 1, 21)
set_option maxRecDepth 100000 in
theorem kc_X1_isDue : oMc mX1_isDue := ⟨(oWL_t (n := 297) rfl rfl), (oWL_t (n := 6) rfl rfl), by decide, by decide⟩
set_option maxRecDepth 100000 in
theorem ki_X1_isDue : oMi mX1_isDue := ⟨kc_X1_isDue, (oWL_t (n := 295) rfl rfl)⟩
set_option maxRecDepth 100000 in
theorem kv_X1_isDue : oMv mX1_isDue := ⟨ki_X1_isDue, (oWL_t (n := 296) rfl rfl)⟩
theorem kn_X1_isDue : oN mX1_isDue 2 := (by decide +kernel : (parseMethodDescriptor (yX1_isDue).desc).map (fun d => d.parameters.length) = some 2)
def mX1_daysToGo : oM := (yX1_daysToGo, cX1_daysToGo, 3, some .int, 1, 21)
set_option maxRecDepth 100000 in
theorem kc_X1_daysToGo : oMc mX1_daysToGo := ⟨(oWL_t (n := 340) rfl rfl), (oWL_t (n := 6) rfl rfl), by decide, by decide⟩
set_option maxRecDepth 100000 in
theorem ki_X1_daysToGo : oMi mX1_daysToGo := ⟨kc_X1_daysToGo, (oWL_t (n := 338) rfl rfl)⟩
set_option maxRecDepth 100000 in
theorem kv_X1_daysToGo : oMv mX1_daysToGo := ⟨ki_X1_daysToGo, (oWL_t (n := 339) rfl rfl)⟩
theorem kn_X1_daysToGo : oN mX1_daysToGo 1 := (by decide +kernel : (parseMethodDescriptor (yX1_daysToGo).desc).map (fun d => d.parameters.length) = some 1)
def mX1_daysAboveZero : oM := (yX1_daysAboveZero, cX1_daysAboveZero, 3, some .int, 1, 21)
set_option maxRecDepth 100000 in
theorem kc_X1_daysAboveZero : oMc mX1_daysAboveZero := ⟨(oWL_t (n := 309) rfl rfl), (oWL_t (n := 6) rfl rfl), by decide, by decide⟩
set_option maxRecDepth 100000 in
theorem ki_X1_daysAboveZero : oMi mX1_daysAboveZero := ⟨kc_X1_daysAboveZero, (oWL_t (n := 307) rfl rfl)⟩
set_option maxRecDepth 100000 in
theorem kv_X1_daysAboveZero : oMv mX1_daysAboveZero := ⟨ki_X1_daysAboveZero, (oWL_t (n := 308) rfl rfl)⟩
theorem kn_X1_daysAboveZero : oN mX1_daysAboveZero 1 := (by decide +kernel : (parseMethodDescriptor (yX1_daysAboveZero).desc).map (fun d => d.parameters.length) = some 1)
def mX1_mayNeed : oM := (yX1_mayNeed, cX1_mayNeed, 1, some .int, 0, 0)
set_option maxRecDepth 100000 in
theorem kc_X1_mayNeed : oMc mX1_mayNeed := ⟨(oWL_t (n := 344) rfl rfl), (oWL_t (n := 6) rfl rfl), by decide, by decide⟩
set_option maxRecDepth 100000 in
theorem ki_X1_mayNeed : oMi mX1_mayNeed := ⟨kc_X1_mayNeed, (oWL_t (n := 342) rfl rfl)⟩
set_option maxRecDepth 100000 in
theorem kv_X1_mayNeed : oMv mX1_mayNeed := ⟨ki_X1_mayNeed, (oWL_t (n := 343) rfl rfl)⟩
theorem kn_X1_mayNeed : oN mX1_mayNeed 0 := (by decide +kernel : (parseMethodDescriptor (yX1_mayNeed).desc).map (fun d => d.parameters.length) = some 0)
def mX1_takeFill : oM := (yX1_takeFill, cX1_takeFill, 2, none, 3, 64)
set_option maxRecDepth 100000 in
theorem kc_X1_takeFill : oMc mX1_takeFill := ⟨(oWL_t (n := 429) rfl rfl), (oWL_t (n := 6) rfl rfl), by decide, by decide⟩
set_option maxRecDepth 100000 in
theorem ki_X1_takeFill : oMi mX1_takeFill := ⟨kc_X1_takeFill, (oWL_t (n := 427) rfl rfl)⟩
set_option maxRecDepth 100000 in
theorem kv_X1_takeFill : oMv mX1_takeFill := ⟨ki_X1_takeFill, (oWL_t (n := 428) rfl rfl)⟩
theorem kn_X1_takeFill : oN mX1_takeFill 1 := (by decide +kernel : (parseMethodDescriptor (yX1_takeFill).desc).map (fun d => d.parameters.length) = some 1)
def mX1_noteOf : oM := (yX1_noteOf, cX1_noteOf, 2, some .int, 0, 0)
set_option maxRecDepth 100000 in
theorem kc_X1_noteOf : oMc mX1_noteOf := ⟨(oWL_t (n := 433) rfl rfl), (oWL_t (n := 6) rfl rfl), by decide, by decide⟩
set_option maxRecDepth 100000 in
theorem ki_X1_noteOf : oMi mX1_noteOf := ⟨kc_X1_noteOf, (oWL_t (n := 432) rfl rfl)⟩
set_option maxRecDepth 100000 in
theorem kv_X1_noteOf : oMv mX1_noteOf := ⟨ki_X1_noteOf, (oWL_p (n := 15) rfl rfl)⟩
theorem kn_X1_noteOf : oN mX1_noteOf 1 := (by decide +kernel : (parseMethodDescriptor (yX1_noteOf).desc).map (fun d => d.parameters.length) = some 1)
def mX1_narrow : oM := (yX1_narrow, cX1_narrow, 2, none, 2, 43)
set_option maxRecDepth 100000 in
theorem kc_X1_narrow : oMc mX1_narrow := ⟨(oWL_t (n := 437) rfl rfl), (oWL_t (n := 6) rfl rfl), by decide, by decide⟩
set_option maxRecDepth 100000 in
theorem ki_X1_narrow : oMi mX1_narrow := ⟨kc_X1_narrow, (oWL_t (n := 436) rfl rfl)⟩
set_option maxRecDepth 100000 in
theorem kv_X1_narrow : oMv mX1_narrow := ⟨ki_X1_narrow, (oWL_p (n := 16) rfl rfl)⟩
theorem kn_X1_narrow : oN mX1_narrow 1 := (by decide +kernel : (parseMethodDescriptor (yX1_narrow).desc).map (fun d => d.parameters.length) = some 1)
def mX1_cut : oM := (yX1_cut, cX1_cut, 2, some .int, 0, 0)
set_option maxRecDepth 100000 in
theorem kc_X1_cut : oMc mX1_cut := ⟨(oWL_t (n := 440) rfl rfl), (oWL_t (n := 6) rfl rfl), by decide, by decide⟩
set_option maxRecDepth 100000 in
theorem ks_X1_cut : oMs mX1_cut := ⟨kc_X1_cut, (oWL_t (n := 439) rfl rfl)⟩
theorem kn_X1_cut : oN mX1_cut 2 := (by decide +kernel : (parseMethodDescriptor (yX1_cut).desc).map (fun d => d.parameters.length) = some 2)
def mX1_roundedUp : oM := (yX1_roundedUp, cX1_roundedUp, 2, some .int, 1, 22)
set_option maxRecDepth 100000 in
theorem kc_X1_roundedUp : oMc mX1_roundedUp := ⟨(oWL_t (n := 443) rfl rfl), (oWL_t (n := 6) rfl rfl), by decide, by decide⟩
set_option maxRecDepth 100000 in
theorem ks_X1_roundedUp : oMs mX1_roundedUp := ⟨kc_X1_roundedUp, (oWL_t (n := 442) rfl rfl)⟩
theorem kn_X1_roundedUp : oN mX1_roundedUp 2 := (by decide +kernel : (parseMethodDescriptor (yX1_roundedUp).desc).map (fun d => d.parameters.length) = some 2)
def mX1_isOf : oM := (yX1_isOf, cX1_isOf, 2, some .boolean, 2, 40)
set_option maxRecDepth 100000 in
theorem kc_X1_isOf : oMc mX1_isOf := ⟨(oWL_t (n := 603) rfl rfl), (oWL_t (n := 6) rfl rfl), by decide, by decide⟩
set_option maxRecDepth 100000 in
theorem ki_X1_isOf : oMi mX1_isOf := ⟨kc_X1_isOf, (oWL_t (n := 601) rfl rfl)⟩
set_option maxRecDepth 100000 in
theorem kv_X1_isOf : oMv mX1_isOf := ⟨ki_X1_isOf, (oWL_t (n := 602) rfl rfl)⟩
theorem kn_X1_isOf : oN mX1_isOf 1 := (by decide +kernel : (parseMethodDescriptor (yX1_isOf).desc).map (fun d => d.parameters.length) = some 1)
def mX1_toldKind : oM := (yX1_toldKind, cX1_toldKind, 1, some .int, 2, 40)
set_option maxRecDepth 100000 in
theorem kc_X1_toldKind : oMc mX1_toldKind := ⟨(oWL_t (n := 583) rfl rfl), (oWL_t (n := 6) rfl rfl), by decide, by decide⟩
set_option maxRecDepth 100000 in
theorem ki_X1_toldKind : oMi mX1_toldKind := ⟨kc_X1_toldKind, (oWL_t (n := 581) rfl rfl)⟩
set_option maxRecDepth 100000 in
theorem kv_X1_toldKind : oMv mX1_toldKind := ⟨ki_X1_toldKind, (oWL_t (n := 582) rfl rfl)⟩
theorem kn_X1_toldKind : oN mX1_toldKind 0 := (by decide +kernel : (parseMethodDescriptor (yX1_toldKind).desc).map (fun d => d.parameters.length) = some 0)
def mX1_isLeaky : oM := (yX1_isLeaky, cX1_isLeaky, 1, some .boolean, 0, 0)
set_option maxRecDepth 100000 in
theorem kc_X1_isLeaky : oMc mX1_isLeaky := ⟨(oWL_t (n := 587) rfl rfl), (oWL_t (n := 6) rfl rfl), by decide, by decide⟩
set_option maxRecDepth 100000 in
theorem ki_X1_isLeaky : oMi mX1_isLeaky := ⟨kc_X1_isLeaky, (oWL_t (n := 586) rfl rfl)⟩
set_option maxRecDepth 100000 in
theorem kv_X1_isLeaky : oMv mX1_isLeaky := ⟨ki_X1_isLeaky, (oWL_p (n := 26) rfl rfl)⟩
theorem kn_X1_isLeaky : oN mX1_isLeaky 0 := (by decide +kernel : (parseMethodDescriptor (yX1_isLeaky).desc).map (fun d => d.parameters.length) = some 0)
def mX1_isSteady : oM := (yX1_isSteady, cX1_isSteady, 1, some .boolean, 1, 20)
set_option maxRecDepth 100000 in
theorem kc_X1_isSteady : oMc mX1_isSteady := ⟨(oWL_t (n := 591) rfl rfl), (oWL_t (n := 6) rfl rfl), by decide, by decide⟩
set_option maxRecDepth 100000 in
theorem ki_X1_isSteady : oMi mX1_isSteady := ⟨kc_X1_isSteady, (oWL_t (n := 590) rfl rfl)⟩
set_option maxRecDepth 100000 in
theorem kv_X1_isSteady : oMv mX1_isSteady := ⟨ki_X1_isSteady, (oWL_p (n := 27) rfl rfl)⟩
theorem kn_X1_isSteady : oN mX1_isSteady 0 := (by decide +kernel : (parseMethodDescriptor (yX1_isSteady).desc).map (fun d => d.parameters.length) = some 0)
def mX1_isKnown : oM := (yX1_isKnown, cX1_isKnown, 1, some .boolean, 0, 0)
set_option maxRecDepth 100000 in
theorem kc_X1_isKnown : oMc mX1_isKnown := ⟨(oWL_t (n := 595) rfl rfl), (oWL_t (n := 6) rfl rfl), by decide, by decide⟩
set_option maxRecDepth 100000 in
theorem ki_X1_isKnown : oMi mX1_isKnown := ⟨kc_X1_isKnown, (oWL_t (n := 594) rfl rfl)⟩
set_option maxRecDepth 100000 in
theorem kv_X1_isKnown : oMv mX1_isKnown := ⟨ki_X1_isKnown, (oWL_p (n := 28) rfl rfl)⟩
theorem kn_X1_isKnown : oN mX1_isKnown 0 := (by decide +kernel : (parseMethodDescriptor (yX1_isKnown).desc).map (fun d => d.parameters.length) = some 0)
def mX2_init : oM := (yX2_init, cX2_init, 1, none, 1, 20)
set_option maxRecDepth 100000 in
theorem kc_X2_init : oMc mX2_init := ⟨(oWL_t (n := 173) rfl rfl), (oWL_t (n := 7) rfl rfl), by decide, by decide⟩
set_option maxRecDepth 100000 in
theorem ki_X2_init : oMi mX2_init := ⟨kc_X2_init, (oWL_t (n := 172) rfl rfl)⟩
theorem kn_X2_init : oN mX2_init 0 := (by decide +kernel : (parseMethodDescriptor (yX2_init).desc).map (fun d => d.parameters.length) = some 0)
def mX2_become : oM := (yX2_become, cX2_become, 4, none, 0, 0)
set_option maxRecDepth 100000 in
theorem kc_X2_become : oMc mX2_become := ⟨(oWL_t (n := 567) rfl rfl), (oWL_t (n := 7) rfl rfl), by decide, by decide⟩
set_option maxRecDepth 100000 in
theorem ki_X2_become : oMi mX2_become := ⟨kc_X2_become, (oWL_t (n := 565) rfl rfl)⟩
set_option maxRecDepth 100000 in
theorem kv_X2_become : oMv mX2_become := ⟨ki_X2_become, (oWL_t (n := 566) rfl rfl)⟩
theorem kn_X2_become : oN mX2_become 3 := (by decide +kernel : (parseMethodDescriptor (yX2_become).desc).map (fun d => d.parameters.length) = some 3)
def mX2_costOf : oM := (yX2_costOf, cX2_costOf, 3, some .int, 2, 42)
set_option maxRecDepth 100000 in
theorem kc_X2_costOf : oMc mX2_costOf := ⟨(oWL_t (n := 416) rfl rfl), (oWL_t (n := 7) rfl rfl), by decide, by decide⟩
set_option maxRecDepth 100000 in
theorem ki_X2_costOf : oMi mX2_costOf := ⟨kc_X2_costOf, (oWL_t (n := 414) rfl rfl)⟩
set_option maxRecDepth 100000 in
theorem kv_X2_costOf : oMv mX2_costOf := ⟨ki_X2_costOf, (oWL_t (n := 415) rfl rfl)⟩
theorem kn_X2_costOf : oN mX2_costOf 2 := (by decide +kernel : (parseMethodDescriptor (yX2_costOf).desc).map (fun d => d.parameters.length) = some 2)
def mX2_useUp : oM := (yX2_useUp, cX2_useUp, 2, none, 2, 42)
set_option maxRecDepth 100000 in
theorem kc_X2_useUp : oMc mX2_useUp := ⟨(oWL_t (n := 425) rfl rfl), (oWL_t (n := 7) rfl rfl), by decide, by decide⟩
set_option maxRecDepth 100000 in
theorem ki_X2_useUp : oMi mX2_useUp := ⟨kc_X2_useUp, (oWL_t (n := 423) rfl rfl)⟩
set_option maxRecDepth 100000 in
theorem kv_X2_useUp : oMv mX2_useUp := ⟨ki_X2_useUp, (oWL_t (n := 424) rfl rfl)⟩
theorem kn_X2_useUp : oN mX2_useUp 1 := (by decide +kernel : (parseMethodDescriptor (yX2_useUp).desc).map (fun d => d.parameters.length) = some 1)
def mX2_ahead : oM := (yX2_ahead, cX2_ahead, 2, some .int, 1, 21)
set_option maxRecDepth 100000 in
theorem kc_X2_ahead : oMc mX2_ahead := ⟨(oWL_t (n := 421) rfl rfl), (oWL_t (n := 7) rfl rfl), by decide, by decide⟩
set_option maxRecDepth 100000 in
theorem ki_X2_ahead : oMi mX2_ahead := ⟨kc_X2_ahead, (oWL_t (n := 420) rfl rfl)⟩
set_option maxRecDepth 100000 in
theorem kv_X2_ahead : oMv mX2_ahead := ⟨ki_X2_ahead, (oWL_p (n := 14) rfl rfl)⟩
theorem kn_X2_ahead : oN mX2_ahead 1 := (by decide +kernel : (parseMethodDescriptor (yX2_ahead).desc).map (fun d => d.parameters.length) = some 1)
def mX3_init : oM := (yX3_init, cX3_init, 1, none, 1, 20)
set_option maxRecDepth 100000 in
theorem kc_X3_init : oMc mX3_init := ⟨(oWL_t (n := 57) rfl rfl), (oWL_t (n := 3) rfl rfl), by decide, by decide⟩
set_option maxRecDepth 100000 in
theorem ki_X3_init : oMi mX3_init := ⟨kc_X3_init, (oWL_t (n := 56) rfl rfl)⟩
theorem kn_X3_init : oN mX3_init 0 := (by decide +kernel : (parseMethodDescriptor (yX3_init).desc).map (fun d => d.parameters.length) = some 0)
def mX3_append : oM := (yX3_append, cX3_append, 5, some .int, 0, 0)
set_option maxRecDepth 100000 in
theorem kc_X3_append : oMc mX3_append := ⟨(oWL_t (n := 458) rfl rfl), (oWL_t (n := 3) rfl rfl), by decide, by decide⟩
set_option maxRecDepth 100000 in
theorem ki_X3_append : oMi mX3_append := ⟨kc_X3_append, (oWL_t (n := 456) rfl rfl)⟩
set_option maxRecDepth 100000 in
theorem kv_X3_append : oMv mX3_append := ⟨ki_X3_append, (oWL_t (n := 457) rfl rfl)⟩
theorem kn_X3_append : oN mX3_append 2 := (by decide +kernel : (parseMethodDescriptor (yX3_append).desc).map (fun d => d.parameters.length) = some 2)
def mX3_readAll : oM := (yX3_readAll, cX3_readAll, 3, some .int, 9, 194)
set_option maxRecDepth 100000 in
theorem kc_X3_readAll : oMc mX3_readAll := ⟨(oWL_t (n := 467) rfl rfl), (oWL_t (n := 3) rfl rfl), by decide, by decide⟩
set_option maxRecDepth 100000 in
theorem ki_X3_readAll : oMi mX3_readAll := ⟨kc_X3_readAll, (oWL_t (n := 465) rfl rfl)⟩
set_option maxRecDepth 100000 in
theorem kv_X3_readAll : oMv mX3_readAll := ⟨ki_X3_readAll, (oWL_t (n := 466) rfl rfl)⟩
theorem kn_X3_readAll : oN mX3_readAll 1 := (by decide +kernel : (parseMethodDescriptor (yX3_readAll).desc).map (fun d => d.parameters.length) = some 1)
def mX3_readOnce : oM := (yX3_readOnce, cX3_readOnce, 6, some .int, 8, 169)
set_option maxRecDepth 100000 in
theorem kc_X3_readOnce : oMc mX3_readOnce := ⟨(oWL_t (n := 471) rfl rfl), (oWL_t (n := 3) rfl rfl), by decide, by decide⟩
set_option maxRecDepth 100000 in
theorem ki_X3_readOnce : oMi mX3_readOnce := ⟨kc_X3_readOnce, (oWL_t (n := 470) rfl rfl)⟩
set_option maxRecDepth 100000 in
theorem kv_X3_readOnce : oMv mX3_readOnce := ⟨ki_X3_readOnce, (oWL_p (n := 17) rfl rfl)⟩
theorem kn_X3_readOnce : oN mX3_readOnce 2 := (by decide +kernel : (parseMethodDescriptor (yX3_readOnce).desc).map (fun d => d.parameters.length) = some 2)
def mX3_takeToken : oM := (yX3_takeToken, cX3_takeToken, 2, some .int, 1, 21)
set_option maxRecDepth 100000 in
theorem kc_X3_takeToken : oMc mX3_takeToken := ⟨(oWL_t (n := 553) rfl rfl), (oWL_t (n := 3) rfl rfl), by decide, by decide⟩
set_option maxRecDepth 100000 in
theorem ki_X3_takeToken : oMi mX3_takeToken := ⟨kc_X3_takeToken, (oWL_t (n := 552) rfl rfl)⟩
set_option maxRecDepth 100000 in
theorem kv_X3_takeToken : oMv mX3_takeToken := ⟨ki_X3_takeToken, (oWL_p (n := 23) rfl rfl)⟩
theorem kn_X3_takeToken : oN mX3_takeToken 1 := (by decide +kernel : (parseMethodDescriptor (yX3_takeToken).desc).map (fun d => d.parameters.length) = some 1)
def mX3_canStandHere : oM := (yX3_canStandHere, cX3_canStandHere, 1, some .boolean, 0, 0)
set_option maxRecDepth 100000 in
theorem kc_X3_canStandHere : oMc mX3_canStandHere := ⟨(oWL_t (n := 557) rfl rfl), (oWL_t (n := 3) rfl rfl), by decide, by decide⟩
set_option maxRecDepth 100000 in
theorem ki_X3_canStandHere : oMi mX3_canStandHere := ⟨kc_X3_canStandHere, (oWL_t (n := 556) rfl rfl)⟩
set_option maxRecDepth 100000 in
theorem kv_X3_canStandHere : oMv mX3_canStandHere := ⟨ki_X3_canStandHere, (oWL_p (n := 24) rfl rfl)⟩
theorem kn_X3_canStandHere : oN mX3_canStandHere 0 := (by decide +kernel : (parseMethodDescriptor (yX3_canStandHere).desc).map (fun d => d.parameters.length) = some 0)
def mX3_takeWay : oM := (yX3_takeWay, cX3_takeWay, 1, none, 0, 0)
set_option maxRecDepth 100000 in
theorem kc_X3_takeWay : oMc mX3_takeWay := ⟨(oWL_t (n := 562) rfl rfl), (oWL_t (n := 3) rfl rfl), by decide, by decide⟩
set_option maxRecDepth 100000 in
theorem ki_X3_takeWay : oMi mX3_takeWay := ⟨kc_X3_takeWay, (oWL_t (n := 561) rfl rfl)⟩
set_option maxRecDepth 100000 in
theorem kv_X3_takeWay : oMv mX3_takeWay := ⟨ki_X3_takeWay, (oWL_p (n := 25) rfl rfl)⟩
theorem kn_X3_takeWay : oN mX3_takeWay 0 := (by decide +kernel : (parseMethodDescriptor (yX3_takeWay).desc).map (fun d => d.parameters.length) = some 0)
def mX3_readToken : oM := (yX3_readToken, cX3_readToken, 2, none, 7, 148)
set_option maxRecDepth 100000 in
theorem kc_X3_readToken : oMc mX3_readToken := ⟨(oWL_t (n := 475) rfl rfl), (oWL_t (n := 3) rfl rfl), by decide, by decide⟩
set_option maxRecDepth 100000 in
theorem ki_X3_readToken : oMi mX3_readToken := ⟨kc_X3_readToken, (oWL_t (n := 474) rfl rfl)⟩
set_option maxRecDepth 100000 in
theorem kv_X3_readToken : oMv mX3_readToken := ⟨ki_X3_readToken, (oWL_p (n := 18) rfl rfl)⟩
theorem kn_X3_readToken : oN mX3_readToken 0 := (by decide +kernel : (parseMethodDescriptor (yX3_readToken).desc).map (fun d => d.parameters.length) = some 0)
def mX3_nameToken : oM := (yX3_nameToken, cX3_nameToken, 1, some .int, 6, 128)
set_option maxRecDepth 100000 in
theorem kc_X3_nameToken : oMc mX3_nameToken := ⟨(oWL_t (n := 486) rfl rfl), (oWL_t (n := 3) rfl rfl), by decide, by decide⟩
set_option maxRecDepth 100000 in
theorem ki_X3_nameToken : oMi mX3_nameToken := ⟨kc_X3_nameToken, (oWL_t (n := 485) rfl rfl)⟩
set_option maxRecDepth 100000 in
theorem kv_X3_nameToken : oMv mX3_nameToken := ⟨ki_X3_nameToken, (oWL_p (n := 20) rfl rfl)⟩
theorem kn_X3_nameToken : oN mX3_nameToken 0 := (by decide +kernel : (parseMethodDescriptor (yX3_nameToken).desc).map (fun d => d.parameters.length) = some 0)
def mX3_isName : oM := (yX3_isName, cX3_isName, 3, some .boolean, 5, 106)
set_option maxRecDepth 100000 in
theorem kc_X3_isName : oMc mX3_isName := ⟨(oWL_t (n := 491) rfl rfl), (oWL_t (n := 3) rfl rfl), by decide, by decide⟩
set_option maxRecDepth 100000 in
theorem ki_X3_isName : oMi mX3_isName := ⟨kc_X3_isName, (oWL_t (n := 490) rfl rfl)⟩
set_option maxRecDepth 100000 in
theorem kv_X3_isName : oMv mX3_isName := ⟨ki_X3_isName, (oWL_p (n := 21) rfl rfl)⟩
theorem kn_X3_isName : oN mX3_isName 1 := (by decide +kernel : (parseMethodDescriptor (yX3_isName).desc).map (fun d => d.parameters.length) = some 1)
def mX3_numberToken : oM := (yX3_numberToken, cX3_numberToken, 2, some .int, 1, 21)
set_option maxRecDepth 100000 in
theorem kc_X3_numberToken : oMc mX3_numberToken := ⟨(oWL_t (n := 549) rfl rfl), (oWL_t (n := 3) rfl rfl), by decide, by decide⟩
set_option maxRecDepth 100000 in
theorem ki_X3_numberToken : oMi mX3_numberToken := ⟨kc_X3_numberToken, (oWL_t (n := 548) rfl rfl)⟩
set_option maxRecDepth 100000 in
theorem kv_X3_numberToken : oMv mX3_numberToken := ⟨ki_X3_numberToken, (oWL_p (n := 22) rfl rfl)⟩
theorem kn_X3_numberToken : oN mX3_numberToken 0 := (by decide +kernel : (parseMethodDescriptor (yX3_numberToken).desc).map (fun d => d.parameters.length) = some 0)
def mX3_isLetter : oM := (yX3_isLetter, cX3_isLetter, 1, some .boolean, 0, 0)
set_option maxRecDepth 100000 in
theorem kc_X3_isLetter : oMc mX3_isLetter := ⟨(oWL_t (n := 482) rfl rfl), (oWL_t (n := 3) rfl rfl), by decide, by decide⟩
set_option maxRecDepth 100000 in
theorem ks_X3_isLetter : oMs mX3_isLetter := ⟨kc_X3_isLetter, (oWL_t (n := 481) rfl rfl)⟩
theorem kn_X3_isLetter : oN mX3_isLetter 1 := (by decide +kernel : (parseMethodDescriptor (yX3_isLetter).desc).map (fun d => d.parameters.length) = some 1)
def mX3_isFigure : oM := (yX3_isFigure, cX3_isFigure, 1, some .boolean, 0, 0)
set_option maxRecDepth 100000 in
theorem kc_X3_isFigure : oMc mX3_isFigure := ⟨(oWL_t (n := 545) rfl rfl), (oWL_t (n := 3) rfl rfl), by decide, by decide⟩
set_option maxRecDepth 100000 in
theorem ks_X3_isFigure : oMs mX3_isFigure := ⟨kc_X3_isFigure, (oWL_t (n := 544) rfl rfl)⟩
theorem kn_X3_isFigure : oN mX3_isFigure 1 := (by decide +kernel : (parseMethodDescriptor (yX3_isFigure).desc).map (fun d => d.parameters.length) = some 1)
def mX3_byteAt : oM := (yX3_byteAt, cX3_byteAt, 2, some .int, 0, 0)
set_option maxRecDepth 100000 in
theorem kc_X3_byteAt : oMc mX3_byteAt := ⟨(oWL_t (n := 479) rfl rfl), (oWL_t (n := 3) rfl rfl), by decide, by decide⟩
set_option maxRecDepth 100000 in
theorem ki_X3_byteAt : oMi mX3_byteAt := ⟨kc_X3_byteAt, (oWL_t (n := 478) rfl rfl)⟩
set_option maxRecDepth 100000 in
theorem kv_X3_byteAt : oMv mX3_byteAt := ⟨ki_X3_byteAt, (oWL_p (n := 19) rfl rfl)⟩
theorem kn_X3_byteAt : oN mX3_byteAt 1 := (by decide +kernel : (parseMethodDescriptor (yX3_byteAt).desc).map (fun d => d.parameters.length) = some 1)
def mX4_init : oM := (yX4_init, cX4_init, 1, none, 1, 20)
set_option maxRecDepth 100000 in
theorem kc_X4_init : oMc mX4_init := ⟨(oWL_t (n := 28) rfl rfl), (oWL_t (n := 2) rfl rfl), by decide, by decide⟩
set_option maxRecDepth 100000 in
theorem ki_X4_init : oMi mX4_init := ⟨kc_X4_init, (oWL_t (n := 27) rfl rfl)⟩
theorem kn_X4_init : oN mX4_init 0 := (by decide +kernel : (parseMethodDescriptor (yX4_init).desc).map (fun d => d.parameters.length) = some 0)
def mX4_way : oM := (yX4_way, cX4_way, 1, some .int, 1, 23)
set_option maxRecDepth 100000 in
theorem kc_X4_way : oMc mX4_way := ⟨(oWL_t (n := 400) rfl rfl), (oWL_t (n := 2) rfl rfl), by decide, by decide⟩
set_option maxRecDepth 100000 in
theorem ki_X4_way : oMi mX4_way := ⟨kc_X4_way, (oWL_t (n := 398) rfl rfl)⟩
set_option maxRecDepth 100000 in
theorem kv_X4_way : oMv mX4_way := ⟨ki_X4_way, (oWL_t (n := 399) rfl rfl)⟩
theorem kn_X4_way : oN mX4_way 0 := (by decide +kernel : (parseMethodDescriptor (yX4_way).desc).map (fun d => d.parameters.length) = some 0)
def mX4_houseOn : oM := (yX4_houseOn, cX4_houseOn, 2, some .int, 0, 0)
set_option maxRecDepth 100000 in
theorem kc_X4_houseOn : oMc mX4_houseOn := ⟨(oWL_t (n := 408) rfl rfl), (oWL_t (n := 2) rfl rfl), by decide, by decide⟩
set_option maxRecDepth 100000 in
theorem ki_X4_houseOn : oMi mX4_houseOn := ⟨kc_X4_houseOn, (oWL_t (n := 406) rfl rfl)⟩
set_option maxRecDepth 100000 in
theorem kv_X4_houseOn : oMv mX4_houseOn := ⟨ki_X4_houseOn, (oWL_t (n := 407) rfl rfl)⟩
theorem kn_X4_houseOn : oN mX4_houseOn 1 := (by decide +kernel : (parseMethodDescriptor (yX4_houseOn).desc).map (fun d => d.parameters.length) = some 1)
def mX4_prepare : oM := (yX4_prepare, cX4_prepare, 5, none, 5, 114)
set_option maxRecDepth 100000 in
theorem kc_X4_prepare : oMc mX4_prepare := ⟨(oWL_t (n := 360) rfl rfl), (oWL_t (n := 2) rfl rfl), by decide, by decide⟩
set_option maxRecDepth 100000 in
theorem ki_X4_prepare : oMi mX4_prepare := ⟨kc_X4_prepare, (oWL_t (n := 358) rfl rfl)⟩
set_option maxRecDepth 100000 in
theorem kv_X4_prepare : oMv mX4_prepare := ⟨ki_X4_prepare, (oWL_t (n := 359) rfl rfl)⟩
theorem kn_X4_prepare : oN mX4_prepare 2 := (by decide +kernel : (parseMethodDescriptor (yX4_prepare).desc).map (fun d => d.parameters.length) = some 2)
def mX4_gather : oM := (yX4_gather, cX4_gather, 5, none, 1, 21)
set_option maxRecDepth 100000 in
theorem kc_X4_gather : oMc mX4_gather := ⟨(oWL_t (n := 364) rfl rfl), (oWL_t (n := 2) rfl rfl), by decide, by decide⟩
set_option maxRecDepth 100000 in
theorem ki_X4_gather : oMi mX4_gather := ⟨kc_X4_gather, (oWL_t (n := 363) rfl rfl)⟩
set_option maxRecDepth 100000 in
theorem kv_X4_gather : oMv mX4_gather := ⟨ki_X4_gather, (oWL_p (n := 7) rfl rfl)⟩
theorem kn_X4_gather : oN mX4_gather 2 := (by decide +kernel : (parseMethodDescriptor (yX4_gather).desc).map (fun d => d.parameters.length) = some 2)
def mX4_measure : oM := (yX4_measure, cX4_measure, 6, none, 3, 67)
set_option maxRecDepth 100000 in
theorem kc_X4_measure : oMc mX4_measure := ⟨(oWL_t (n := 369) rfl rfl), (oWL_t (n := 2) rfl rfl), by decide, by decide⟩
set_option maxRecDepth 100000 in
theorem ki_X4_measure : oMi mX4_measure := ⟨kc_X4_measure, (oWL_t (n := 368) rfl rfl)⟩
set_option maxRecDepth 100000 in
theorem kv_X4_measure : oMv mX4_measure := ⟨ki_X4_measure, (oWL_p (n := 8) rfl rfl)⟩
theorem kn_X4_measure : oN mX4_measure 2 := (by decide +kernel : (parseMethodDescriptor (yX4_measure).desc).map (fun d => d.parameters.length) = some 2)
def mX4_arrange : oM := (yX4_arrange, cX4_arrange, 5, none, 4, 90)
set_option maxRecDepth 100000 in
theorem kc_X4_arrange : oMc mX4_arrange := ⟨(oWL_t (n := 391) rfl rfl), (oWL_t (n := 2) rfl rfl), by decide, by decide⟩
set_option maxRecDepth 100000 in
theorem ki_X4_arrange : oMi mX4_arrange := ⟨kc_X4_arrange, (oWL_t (n := 390) rfl rfl)⟩
set_option maxRecDepth 100000 in
theorem kv_X4_arrange : oMv mX4_arrange := ⟨ki_X4_arrange, (oWL_p (n := 12) rfl rfl)⟩
theorem kn_X4_arrange : oN mX4_arrange 0 := (by decide +kernel : (parseMethodDescriptor (yX4_arrange).desc).map (fun d => d.parameters.length) = some 0)
def mX4_firstNext : oM := (yX4_firstNext, cX4_firstNext, 4, some .int, 3, 67)
set_option maxRecDepth 100000 in
theorem kc_X4_firstNext : oMc mX4_firstNext := ⟨(oWL_t (n := 395) rfl rfl), (oWL_t (n := 2) rfl rfl), by decide, by decide⟩
set_option maxRecDepth 100000 in
theorem ki_X4_firstNext : oMi mX4_firstNext := ⟨kc_X4_firstNext, (oWL_t (n := 394) rfl rfl)⟩
set_option maxRecDepth 100000 in
theorem kv_X4_firstNext : oMv mX4_firstNext := ⟨ki_X4_firstNext, (oWL_p (n := 13) rfl rfl)⟩
theorem kn_X4_firstNext : oN mX4_firstNext 2 := (by decide +kernel : (parseMethodDescriptor (yX4_firstNext).desc).map (fun d => d.parameters.length) = some 2)
def mX4_wayBy : oM := (yX4_wayBy, cX4_wayBy, 4, some .int, 2, 44)
set_option maxRecDepth 100000 in
theorem kc_X4_wayBy : oMc mX4_wayBy := ⟨(oWL_t (n := 382) rfl rfl), (oWL_t (n := 2) rfl rfl), by decide, by decide⟩
set_option maxRecDepth 100000 in
theorem ki_X4_wayBy : oMi mX4_wayBy := ⟨kc_X4_wayBy, (oWL_t (n := 381) rfl rfl)⟩
set_option maxRecDepth 100000 in
theorem kv_X4_wayBy : oMv mX4_wayBy := ⟨ki_X4_wayBy, (oWL_p (n := 10) rfl rfl)⟩
theorem kn_X4_wayBy : oN mX4_wayBy 3 := (by decide +kernel : (parseMethodDescriptor (yX4_wayBy).desc).map (fun d => d.parameters.length) = some 3)
def mX4_leastAt : oM := (yX4_leastAt, cX4_leastAt, 4, some .int, 0, 0)
set_option maxRecDepth 100000 in
theorem kc_X4_leastAt : oMc mX4_leastAt := ⟨(oWL_t (n := 386) rfl rfl), (oWL_t (n := 2) rfl rfl), by decide, by decide⟩
set_option maxRecDepth 100000 in
theorem ki_X4_leastAt : oMi mX4_leastAt := ⟨kc_X4_leastAt, (oWL_t (n := 385) rfl rfl)⟩
set_option maxRecDepth 100000 in
theorem kv_X4_leastAt : oMv mX4_leastAt := ⟨ki_X4_leastAt, (oWL_p (n := 11) rfl rfl)⟩
theorem kn_X4_leastAt : oN mX4_leastAt 2 := (by decide +kernel : (parseMethodDescriptor (yX4_leastAt).desc).map (fun d => d.parameters.length) = some 2)
def mX4_between : oM := (yX4_between, cX4_between, 3, some .int, 1, 22)
set_option maxRecDepth 100000 in
theorem kc_X4_between : oMc mX4_between := ⟨(oWL_t (n := 373) rfl rfl), (oWL_t (n := 2) rfl rfl), by decide, by decide⟩
set_option maxRecDepth 100000 in
theorem ki_X4_between : oMi mX4_between := ⟨kc_X4_between, (oWL_t (n := 372) rfl rfl)⟩
set_option maxRecDepth 100000 in
theorem kv_X4_between : oMv mX4_between := ⟨ki_X4_between, (oWL_p (n := 9) rfl rfl)⟩
theorem kn_X4_between : oN mX4_between 2 := (by decide +kernel : (parseMethodDescriptor (yX4_between).desc).map (fun d => d.parameters.length) = some 2)
def mX5_init : oM := (yX5_init, cX5_init, 1, none, 2, 40)
set_option maxRecDepth 100000 in
theorem kc_X5_init : oMc mX5_init := ⟨(oWL_t (n := 18) rfl rfl), (oWL_t (n := 1) rfl rfl), by decide, by decide⟩
set_option maxRecDepth 100000 in
theorem ki_X5_init : oMi mX5_init := ⟨kc_X5_init, (oWL_t (n := 17) rfl rfl)⟩
theorem kn_X5_init : oN mX5_init 0 := (by decide +kernel : (parseMethodDescriptor (yX5_init).desc).map (fun d => d.parameters.length) = some 0)
def mX5_house : oM := (yX5_house, cX5_house, 5, some .int, 3, 63)
set_option maxRecDepth 100000 in
theorem kc_X5_house : oMc mX5_house := ⟨(oWL_t (n := 158) rfl rfl), (oWL_t (n := 1) rfl rfl), by decide, by decide⟩
set_option maxRecDepth 100000 in
theorem ki_X5_house : oMi mX5_house := ⟨kc_X5_house, (oWL_t (n := 156) rfl rfl)⟩
set_option maxRecDepth 100000 in
theorem kv_X5_house : oMv mX5_house := ⟨ki_X5_house, (oWL_t (n := 157) rfl rfl)⟩
theorem kn_X5_house : oN mX5_house 3 := (by decide +kernel : (parseMethodDescriptor (yX5_house).desc).map (fun d => d.parameters.length) = some 3)
def mX5_prior : oM := (yX5_prior, cX5_prior, 7, some .int, 2, 42)
set_option maxRecDepth 100000 in
theorem kc_X5_prior : oMc mX5_prior := ⟨(oWL_t (n := 254) rfl rfl), (oWL_t (n := 1) rfl rfl), by decide, by decide⟩
set_option maxRecDepth 100000 in
theorem ki_X5_prior : oMi mX5_prior := ⟨kc_X5_prior, (oWL_t (n := 252) rfl rfl)⟩
set_option maxRecDepth 100000 in
theorem kv_X5_prior : oMv mX5_prior := ⟨ki_X5_prior, (oWL_t (n := 253) rfl rfl)⟩
theorem kn_X5_prior : oN mX5_prior 5 := (by decide +kernel : (parseMethodDescriptor (yX5_prior).desc).map (fun d => d.parameters.length) = some 5)
def mX5_day : oM := (yX5_day, cX5_day, 7, some .int, 2, 42)
set_option maxRecDepth 100000 in
theorem kc_X5_day : oMc mX5_day := ⟨(oWL_t (n := 266) rfl rfl), (oWL_t (n := 1) rfl rfl), by decide, by decide⟩
set_option maxRecDepth 100000 in
theorem ki_X5_day : oMi mX5_day := ⟨kc_X5_day, (oWL_t (n := 264) rfl rfl)⟩
set_option maxRecDepth 100000 in
theorem kv_X5_day : oMv mX5_day := ⟨ki_X5_day, (oWL_t (n := 265) rfl rfl)⟩
theorem kn_X5_day : oN mX5_day 1 := (by decide +kernel : (parseMethodDescriptor (yX5_day).desc).map (fun d => d.parameters.length) = some 1)
def mX5_look : oM := (yX5_look, cX5_look, 3, some .int, 3, 68)
set_option maxRecDepth 100000 in
theorem kc_X5_look : oMc mX5_look := ⟨(oWL_t (n := 289) rfl rfl), (oWL_t (n := 1) rfl rfl), by decide, by decide⟩
set_option maxRecDepth 100000 in
theorem ki_X5_look : oMi mX5_look := ⟨kc_X5_look, (oWL_t (n := 287) rfl rfl)⟩
set_option maxRecDepth 100000 in
theorem kv_X5_look : oMv mX5_look := ⟨ki_X5_look, (oWL_t (n := 288) rfl rfl)⟩
theorem kn_X5_look : oN mX5_look 2 := (by decide +kernel : (parseMethodDescriptor (yX5_look).desc).map (fun d => d.parameters.length) = some 2)
def mX5_told : oM := (yX5_told, cX5_told, 4, some .int, 2, 43)
set_option maxRecDepth 100000 in
theorem kc_X5_told : oMc mX5_told := ⟨(oWL_t (n := 301) rfl rfl), (oWL_t (n := 1) rfl rfl), by decide, by decide⟩
set_option maxRecDepth 100000 in
theorem ki_X5_told : oMi mX5_told := ⟨kc_X5_told, (oWL_t (n := 299) rfl rfl)⟩
set_option maxRecDepth 100000 in
theorem kv_X5_told : oMv mX5_told := ⟨ki_X5_told, (oWL_t (n := 300) rfl rfl)⟩
theorem kn_X5_told : oN mX5_told 2 := (by decide +kernel : (parseMethodDescriptor (yX5_told).desc).map (fun d => d.parameters.length) = some 2)
def mX5_lasts : oM := (yX5_lasts, cX5_lasts, 4, some .int, 2, 43)
set_option maxRecDepth 100000 in
theorem kc_X5_lasts : oMc mX5_lasts := ⟨(oWL_t (n := 305) rfl rfl), (oWL_t (n := 1) rfl rfl), by decide, by decide⟩
set_option maxRecDepth 100000 in
theorem ki_X5_lasts : oMi mX5_lasts := ⟨kc_X5_lasts, (oWL_t (n := 303) rfl rfl)⟩
set_option maxRecDepth 100000 in
theorem kv_X5_lasts : oMv mX5_lasts := ⟨ki_X5_lasts, (oWL_t (n := 304) rfl rfl)⟩
theorem kn_X5_lasts : oN mX5_lasts 2 := (by decide +kernel : (parseMethodDescriptor (yX5_lasts).desc).map (fun d => d.parameters.length) = some 2)
def mX5_stock : oM := (yX5_stock, cX5_stock, 2, some .int, 1, 22)
set_option maxRecDepth 100000 in
theorem kc_X5_stock : oMc mX5_stock := ⟨(oWL_t (n := 316) rfl rfl), (oWL_t (n := 1) rfl rfl), by decide, by decide⟩
set_option maxRecDepth 100000 in
theorem ki_X5_stock : oMi mX5_stock := ⟨kc_X5_stock, (oWL_t (n := 314) rfl rfl)⟩
set_option maxRecDepth 100000 in
theorem kv_X5_stock : oMv mX5_stock := ⟨ki_X5_stock, (oWL_t (n := 315) rfl rfl)⟩
theorem kn_X5_stock : oN mX5_stock 1 := (by decide +kernel : (parseMethodDescriptor (yX5_stock).desc).map (fun d => d.parameters.length) = some 1)
def mX5_lorry : oM := (yX5_lorry, cX5_lorry, 3, some .int, 1, 22)
set_option maxRecDepth 100000 in
theorem kc_X5_lorry : oMc mX5_lorry := ⟨(oWL_t (n := 321) rfl rfl), (oWL_t (n := 1) rfl rfl), by decide, by decide⟩
set_option maxRecDepth 100000 in
theorem ki_X5_lorry : oMi mX5_lorry := ⟨kc_X5_lorry, (oWL_t (n := 319) rfl rfl)⟩
set_option maxRecDepth 100000 in
theorem kv_X5_lorry : oMv mX5_lorry := ⟨ki_X5_lorry, (oWL_t (n := 320) rfl rfl)⟩
theorem kn_X5_lorry : oN mX5_lorry 1 := (by decide +kernel : (parseMethodDescriptor (yX5_lorry).desc).map (fun d => d.parameters.length) = some 1)
def mX5_calls : oM := (yX5_calls, cX5_calls, 7, some .int, 3, 69)
set_option maxRecDepth 100000 in
theorem kc_X5_calls : oMc mX5_calls := ⟨(oWL_t (n := 325) rfl rfl), (oWL_t (n := 1) rfl rfl), by decide, by decide⟩
set_option maxRecDepth 100000 in
theorem ki_X5_calls : oMi mX5_calls := ⟨kc_X5_calls, (oWL_t (n := 323) rfl rfl)⟩
set_option maxRecDepth 100000 in
theorem kv_X5_calls : oMv mX5_calls := ⟨ki_X5_calls, (oWL_t (n := 324) rfl rfl)⟩
theorem kn_X5_calls : oN mX5_calls 0 := (by decide +kernel : (parseMethodDescriptor (yX5_calls).desc).map (fun d => d.parameters.length) = some 0)
def mX5_round : oM := (yX5_round, cX5_round, 4, some .int, 6, 138)
set_option maxRecDepth 100000 in
theorem kc_X5_round : oMc mX5_round := ⟨(oWL_t (n := 348) rfl rfl), (oWL_t (n := 1) rfl rfl), by decide, by decide⟩
set_option maxRecDepth 100000 in
theorem ki_X5_round : oMi mX5_round := ⟨kc_X5_round, (oWL_t (n := 346) rfl rfl)⟩
set_option maxRecDepth 100000 in
theorem kv_X5_round : oMv mX5_round := ⟨ki_X5_round, (oWL_t (n := 347) rfl rfl)⟩
theorem kn_X5_round : oN mX5_round 2 := (by decide +kernel : (parseMethodDescriptor (yX5_round).desc).map (fun d => d.parameters.length) = some 2)
def mX5_stop : oM := (yX5_stop, cX5_stop, 3, some .int, 6, 138)
set_option maxRecDepth 100000 in
theorem kc_X5_stop : oMc mX5_stop := ⟨(oWL_t (n := 404) rfl rfl), (oWL_t (n := 1) rfl rfl), by decide, by decide⟩
set_option maxRecDepth 100000 in
theorem ki_X5_stop : oMi mX5_stop := ⟨kc_X5_stop, (oWL_t (n := 402) rfl rfl)⟩
set_option maxRecDepth 100000 in
theorem kv_X5_stop : oMv mX5_stop := ⟨ki_X5_stop, (oWL_t (n := 403) rfl rfl)⟩
theorem kn_X5_stop : oN mX5_stop 2 := (by decide +kernel : (parseMethodDescriptor (yX5_stop).desc).map (fun d => d.parameters.length) = some 2)
def mX5_fill : oM := (yX5_fill, cX5_fill, 5, some .int, 4, 85)
set_option maxRecDepth 100000 in
theorem kc_X5_fill : oMc mX5_fill := ⟨(oWL_t (n := 412) rfl rfl), (oWL_t (n := 1) rfl rfl), by decide, by decide⟩
set_option maxRecDepth 100000 in
theorem ki_X5_fill : oMi mX5_fill := ⟨kc_X5_fill, (oWL_t (n := 410) rfl rfl)⟩
set_option maxRecDepth 100000 in
theorem kv_X5_fill : oMv mX5_fill := ⟨ki_X5_fill, (oWL_t (n := 411) rfl rfl)⟩
theorem kn_X5_fill : oN mX5_fill 2 := (by decide +kernel : (parseMethodDescriptor (yX5_fill).desc).map (fun d => d.parameters.length) = some 2)
def mX5_price : oM := (yX5_price, cX5_price, 3, some .int, 1, 22)
set_option maxRecDepth 100000 in
theorem kc_X5_price : oMc mX5_price := ⟨(oWL_t (n := 450) rfl rfl), (oWL_t (n := 1) rfl rfl), by decide, by decide⟩
set_option maxRecDepth 100000 in
theorem ki_X5_price : oMi mX5_price := ⟨kc_X5_price, (oWL_t (n := 448) rfl rfl)⟩
set_option maxRecDepth 100000 in
theorem kv_X5_price : oMv mX5_price := ⟨ki_X5_price, (oWL_t (n := 449) rfl rfl)⟩
theorem kn_X5_price : oN mX5_price 1 := (by decide +kernel : (parseMethodDescriptor (yX5_price).desc).map (fun d => d.parameters.length) = some 1)
def mX5_feed : oM := (yX5_feed, cX5_feed, 4, some .int, 1, 24)
set_option maxRecDepth 100000 in
theorem kc_X5_feed : oMc mX5_feed := ⟨(oWL_t (n := 454) rfl rfl), (oWL_t (n := 1) rfl rfl), by decide, by decide⟩
set_option maxRecDepth 100000 in
theorem ki_X5_feed : oMi mX5_feed := ⟨kc_X5_feed, (oWL_t (n := 452) rfl rfl)⟩
set_option maxRecDepth 100000 in
theorem kv_X5_feed : oMv mX5_feed := ⟨ki_X5_feed, (oWL_t (n := 453) rfl rfl)⟩
theorem kn_X5_feed : oN mX5_feed 2 := (by decide +kernel : (parseMethodDescriptor (yX5_feed).desc).map (fun d => d.parameters.length) = some 2)
def mX5_plans : oM := (yX5_plans, cX5_plans, 1, some .int, 10, 216)
set_option maxRecDepth 100000 in
theorem kc_X5_plans : oMc mX5_plans := ⟨(oWL_t (n := 463) rfl rfl), (oWL_t (n := 1) rfl rfl), by decide, by decide⟩
set_option maxRecDepth 100000 in
theorem ki_X5_plans : oMi mX5_plans := ⟨kc_X5_plans, (oWL_t (n := 461) rfl rfl)⟩
set_option maxRecDepth 100000 in
theorem kv_X5_plans : oMv mX5_plans := ⟨ki_X5_plans, (oWL_t (n := 462) rfl rfl)⟩
theorem kn_X5_plans : oN mX5_plans 0 := (by decide +kernel : (parseMethodDescriptor (yX5_plans).desc).map (fun d => d.parameters.length) = some 0)
def mX5_fault : oM := (yX5_fault, cX5_fault, 1, some .int, 0, 0)
set_option maxRecDepth 100000 in
theorem kc_X5_fault : oMc mX5_fault := ⟨(oWL_t (n := 571) rfl rfl), (oWL_t (n := 1) rfl rfl), by decide, by decide⟩
set_option maxRecDepth 100000 in
theorem ki_X5_fault : oMi mX5_fault := ⟨kc_X5_fault, (oWL_t (n := 569) rfl rfl)⟩
set_option maxRecDepth 100000 in
theorem kv_X5_fault : oMv mX5_fault := ⟨ki_X5_fault, (oWL_t (n := 570) rfl rfl)⟩
theorem kn_X5_fault : oN mX5_fault 0 := (by decide +kernel : (parseMethodDescriptor (yX5_fault).desc).map (fun d => d.parameters.length) = some 0)
def mX5_quote : oM := (yX5_quote, cX5_quote, 4, some .int, 3, 64)
set_option maxRecDepth 100000 in
theorem kc_X5_quote : oMc mX5_quote := ⟨(oWL_t (n := 575) rfl rfl), (oWL_t (n := 1) rfl rfl), by decide, by decide⟩
set_option maxRecDepth 100000 in
theorem ki_X5_quote : oMi mX5_quote := ⟨kc_X5_quote, (oWL_t (n := 573) rfl rfl)⟩
set_option maxRecDepth 100000 in
theorem kv_X5_quote : oMv mX5_quote := ⟨ki_X5_quote, (oWL_t (n := 574) rfl rfl)⟩
theorem kn_X5_quote : oN mX5_quote 2 := (by decide +kernel : (parseMethodDescriptor (yX5_quote).desc).map (fun d => d.parameters.length) = some 2)
def mX5_kind : oM := (yX5_kind, cX5_kind, 3, some .int, 3, 60)
set_option maxRecDepth 100000 in
theorem kc_X5_kind : oMc mX5_kind := ⟨(oWL_t (n := 579) rfl rfl), (oWL_t (n := 1) rfl rfl), by decide, by decide⟩
set_option maxRecDepth 100000 in
theorem ki_X5_kind : oMi mX5_kind := ⟨kc_X5_kind, (oWL_t (n := 577) rfl rfl)⟩
set_option maxRecDepth 100000 in
theorem kv_X5_kind : oMv mX5_kind := ⟨ki_X5_kind, (oWL_t (n := 578) rfl rfl)⟩
theorem kn_X5_kind : oN mX5_kind 1 := (by decide +kernel : (parseMethodDescriptor (yX5_kind).desc).map (fun d => d.parameters.length) = some 1)
def mX5_as : oM := (yX5_as, cX5_as, 4, some .int, 3, 61)
set_option maxRecDepth 100000 in
theorem kc_X5_as : oMc mX5_as := ⟨(oWL_t (n := 599) rfl rfl), (oWL_t (n := 1) rfl rfl), by decide, by decide⟩
set_option maxRecDepth 100000 in
theorem ki_X5_as : oMi mX5_as := ⟨kc_X5_as, (oWL_t (n := 597) rfl rfl)⟩
set_option maxRecDepth 100000 in
theorem kv_X5_as : oMv mX5_as := ⟨ki_X5_as, (oWL_t (n := 598) rfl rfl)⟩
theorem kn_X5_as : oN mX5_as 2 := (by decide +kernel : (parseMethodDescriptor (yX5_as).desc).map (fun d => d.parameters.length) = some 2)
def mX5_ask : oM := (yX5_ask, cX5_ask, 4, some .int, 7, 147)
set_option maxRecDepth 100000 in
theorem kc_X5_ask : oMc mX5_ask := ⟨(oWL_t (n := 608) rfl rfl), (oWL_t (n := 1) rfl rfl), by decide, by decide⟩
set_option maxRecDepth 100000 in
theorem ki_X5_ask : oMi mX5_ask := ⟨kc_X5_ask, (oWL_t (n := 606) rfl rfl)⟩
set_option maxRecDepth 100000 in
theorem kv_X5_ask : oMv mX5_ask := ⟨ki_X5_ask, (oWL_t (n := 607) rfl rfl)⟩
theorem kn_X5_ask : oN mX5_ask 2 := (by decide +kernel : (parseMethodDescriptor (yX5_ask).desc).map (fun d => d.parameters.length) = some 2)
def mX5_trace : oM := (yX5_trace, cX5_trace, 2, some .int, 1, 21)
set_option maxRecDepth 100000 in
theorem kc_X5_trace : oMc mX5_trace := ⟨(oWL_t (n := 658) rfl rfl), (oWL_t (n := 1) rfl rfl), by decide, by decide⟩
set_option maxRecDepth 100000 in
theorem ki_X5_trace : oMi mX5_trace := ⟨kc_X5_trace, (oWL_t (n := 656) rfl rfl)⟩
set_option maxRecDepth 100000 in
theorem kv_X5_trace : oMv mX5_trace := ⟨ki_X5_trace, (oWL_t (n := 657) rfl rfl)⟩
theorem kn_X5_trace : oN mX5_trace 1 := (by decide +kernel : (parseMethodDescriptor (yX5_trace).desc).map (fun d => d.parameters.length) = some 1)
def mX5_count : oM := (yX5_count, cX5_count, 2, some .long, 3, 68)
set_option maxRecDepth 100000 in
theorem kc_X5_count : oMc mX5_count := ⟨(oWL_t (n := 667) rfl rfl), (oWL_t (n := 1) rfl rfl), by decide, by decide⟩
set_option maxRecDepth 100000 in
theorem ki_X5_count : oMi mX5_count := ⟨kc_X5_count, (oWL_t (n := 665) rfl rfl)⟩
set_option maxRecDepth 100000 in
theorem kv_X5_count : oMv mX5_count := ⟨ki_X5_count, (oWL_t (n := 666) rfl rfl)⟩
theorem kn_X5_count : oN mX5_count 1 := (by decide +kernel : (parseMethodDescriptor (yX5_count).desc).map (fun d => d.parameters.length) = some 1)
def mX5_isOutside : oM := (yX5_isOutside, cX5_isOutside, 3, some .boolean, 0, 0)
set_option maxRecDepth 100000 in
theorem kc_X5_isOutside : oMc mX5_isOutside := ⟨(oWL_t (n := 161) rfl rfl), (oWL_t (n := 1) rfl rfl), by decide, by decide⟩
set_option maxRecDepth 100000 in
theorem ks_X5_isOutside : oMs mX5_isOutside := ⟨kc_X5_isOutside, (oWL_t (n := 160) rfl rfl)⟩
theorem kn_X5_isOutside : oN mX5_isOutside 3 := (by decide +kernel : (parseMethodDescriptor (yX5_isOutside).desc).map (fun d => d.parameters.length) = some 3)
def mX5_houseIn : oM := (yX5_houseIn, cX5_houseIn, 2, some (.object "OilRound$House"), 0, 0)
set_option maxRecDepth 100000 in
theorem kc_X5_houseIn : oMc mX5_houseIn := ⟨(oWL_t (n := 261) rfl rfl), (oWL_t (n := 1) rfl rfl), by decide, by decide⟩
set_option maxRecDepth 100000 in
theorem ks_X5_houseIn : oMs mX5_houseIn := ⟨kc_X5_houseIn, (oWL_t (n := 260) rfl rfl)⟩
theorem kn_X5_houseIn : oN mX5_houseIn 2 := (by decide +kernel : (parseMethodDescriptor (yX5_houseIn).desc).map (fun d => d.parameters.length) = some 2)
def mX5_houseAt : oM := (yX5_houseAt, cX5_houseAt, 2, some (.object "OilRound$House"), 1, 21)
set_option maxRecDepth 100000 in
theorem kc_X5_houseAt : oMc mX5_houseAt := ⟨(oWL_t (n := 258) rfl rfl), (oWL_t (n := 1) rfl rfl), by decide, by decide⟩
set_option maxRecDepth 100000 in
theorem ki_X5_houseAt : oMi mX5_houseAt := ⟨kc_X5_houseAt, (oWL_t (n := 257) rfl rfl)⟩
set_option maxRecDepth 100000 in
theorem kv_X5_houseAt : oMv mX5_houseAt := ⟨ki_X5_houseAt, (oWL_p (n := 0) rfl rfl)⟩
theorem kn_X5_houseAt : oN mX5_houseAt 1 := (by decide +kernel : (parseMethodDescriptor (yX5_houseAt).desc).map (fun d => d.parameters.length) = some 1)
def mX5_countDue : oM := (yX5_countDue, cX5_countDue, 6, some .int, 2, 43)
set_option maxRecDepth 100000 in
theorem kc_X5_countDue : oMc mX5_countDue := ⟨(oWL_t (n := 293) rfl rfl), (oWL_t (n := 1) rfl rfl), by decide, by decide⟩
set_option maxRecDepth 100000 in
theorem ki_X5_countDue : oMi mX5_countDue := ⟨kc_X5_countDue, (oWL_t (n := 292) rfl rfl)⟩
set_option maxRecDepth 100000 in
theorem kv_X5_countDue : oMv mX5_countDue := ⟨ki_X5_countDue, (oWL_p (n := 3) rfl rfl)⟩
theorem kn_X5_countDue : oN mX5_countDue 0 := (by decide +kernel : (parseMethodDescriptor (yX5_countDue).desc).map (fun d => d.parameters.length) = some 0)
def mX5_mostUrgent : oM := (yX5_mostUrgent, cX5_mostUrgent, 7, some .int, 2, 43)
set_option maxRecDepth 100000 in
theorem kc_X5_mostUrgent : oMc mX5_mostUrgent := ⟨(oWL_t (n := 335) rfl rfl), (oWL_t (n := 1) rfl rfl), by decide, by decide⟩
set_option maxRecDepth 100000 in
theorem ki_X5_mostUrgent : oMi mX5_mostUrgent := ⟨kc_X5_mostUrgent, (oWL_t (n := 334) rfl rfl)⟩
set_option maxRecDepth 100000 in
theorem kv_X5_mostUrgent : oMv mX5_mostUrgent := ⟨ki_X5_mostUrgent, (oWL_p (n := 4) rfl rfl)⟩
theorem kn_X5_mostUrgent : oN mX5_mostUrgent 1 := (by decide +kernel : (parseMethodDescriptor (yX5_mostUrgent).desc).map (fun d => d.parameters.length) = some 1)
def mX5_isNoRound : oM := (yX5_isNoRound, cX5_isNoRound, 2, some .boolean, 1, 20)
set_option maxRecDepth 100000 in
theorem kc_X5_isNoRound : oMc mX5_isNoRound := ⟨(oWL_t (n := 352) rfl rfl), (oWL_t (n := 1) rfl rfl), by decide, by decide⟩
set_option maxRecDepth 100000 in
theorem ki_X5_isNoRound : oMi mX5_isNoRound := ⟨kc_X5_isNoRound, (oWL_t (n := 351) rfl rfl)⟩
set_option maxRecDepth 100000 in
theorem kv_X5_isNoRound : oMv mX5_isNoRound := ⟨ki_X5_isNoRound, (oWL_p (n := 5) rfl rfl)⟩
theorem kn_X5_isNoRound : oN mX5_isNoRound 1 := (by decide +kernel : (parseMethodDescriptor (yX5_isNoRound).desc).map (fun d => d.parameters.length) = some 1)
def mX5_needOf : oM := (yX5_needOf, cX5_needOf, 5, some .int, 1, 20)
set_option maxRecDepth 100000 in
theorem kc_X5_needOf : oMc mX5_needOf := ⟨(oWL_t (n := 356) rfl rfl), (oWL_t (n := 1) rfl rfl), by decide, by decide⟩
set_option maxRecDepth 100000 in
theorem ki_X5_needOf : oMi mX5_needOf := ⟨kc_X5_needOf, (oWL_t (n := 355) rfl rfl)⟩
set_option maxRecDepth 100000 in
theorem kv_X5_needOf : oMv mX5_needOf := ⟨ki_X5_needOf, (oWL_p (n := 6) rfl rfl)⟩
theorem kn_X5_needOf : oN mX5_needOf 1 := (by decide +kernel : (parseMethodDescriptor (yX5_needOf).desc).map (fun d => d.parameters.length) = some 1)
def mX6_init : oM := (yX6_init, cX6_init, 1, none, 1, 20)
set_option maxRecDepth 100000 in
theorem kc_X6_init : oMc mX6_init := ⟨(oWL_t (n := 673) rfl rfl), (oWL_t (n := 5) rfl rfl), by decide, by decide⟩
set_option maxRecDepth 100000 in
theorem ki_X6_init : oMi mX6_init := ⟨kc_X6_init, (oWL_t (n := 672) rfl rfl)⟩
theorem kn_X6_init : oN mX6_init 0 := (by decide +kernel : (parseMethodDescriptor (yX6_init).desc).map (fun d => d.parameters.length) = some 0)
def mX6_in : oM := (yX6_in, cX6_in, 6, some .boolean, 0, 0)
set_option maxRecDepth 100000 in
theorem kc_X6_in : oMc mX6_in := ⟨(oWL_t (n := 819) rfl rfl), (oWL_t (n := 5) rfl rfl), by decide, by decide⟩
set_option maxRecDepth 100000 in
theorem ks_X6_in : oMs mX6_in := ⟨kc_X6_in, (oWL_t (n := 818) rfl rfl)⟩
theorem kn_X6_in : oN mX6_in 3 := (by decide +kernel : (parseMethodDescriptor (yX6_in).desc).map (fun d => d.parameters.length) = some 3)
def mX6_isHouse : oM := (yX6_isHouse, cX6_isHouse, 2, some .boolean, 1, 25)
set_option maxRecDepth 100000 in
theorem kc_X6_isHouse : oMc mX6_isHouse := ⟨(oWL_t (n := 831) rfl rfl), (oWL_t (n := 5) rfl rfl), by decide, by decide⟩
set_option maxRecDepth 100000 in
theorem ki_X6_isHouse : oMi mX6_isHouse := ⟨kc_X6_isHouse, (oWL_t (n := 830) rfl rfl)⟩
set_option maxRecDepth 100000 in
theorem kv_X6_isHouse : oMv mX6_isHouse := ⟨ki_X6_isHouse, (oWL_p (n := 37) rfl rfl)⟩
theorem kn_X6_isHouse : oN mX6_isHouse 1 := (by decide +kernel : (parseMethodDescriptor (yX6_isHouse).desc).map (fun d => d.parameters.length) = some 1)
def mX6_house : oM := (yX6_house, cX6_house, 5, some .int, 1, 25)
set_option maxRecDepth 100000 in
theorem kc_X6_house : oMc mX6_house := ⟨(oWL_t (n := 815) rfl rfl), (oWL_t (n := 5) rfl rfl), by decide, by decide⟩
set_option maxRecDepth 100000 in
theorem ki_X6_house : oMi mX6_house := ⟨kc_X6_house, (oWL_t (n := 813) rfl rfl)⟩
set_option maxRecDepth 100000 in
theorem kv_X6_house : oMv mX6_house := ⟨ki_X6_house, (oWL_t (n := 814) rfl rfl)⟩
theorem kn_X6_house : oN mX6_house 3 := (by decide +kernel : (parseMethodDescriptor (yX6_house).desc).map (fun d => d.parameters.length) = some 3)
def mX6_prior : oM := (yX6_prior, cX6_prior, 6, some .int, 2, 46)
set_option maxRecDepth 100000 in
theorem kc_X6_prior : oMc mX6_prior := ⟨(oWL_t (n := 827) rfl rfl), (oWL_t (n := 5) rfl rfl), by decide, by decide⟩
set_option maxRecDepth 100000 in
theorem ki_X6_prior : oMi mX6_prior := ⟨kc_X6_prior, (oWL_t (n := 825) rfl rfl)⟩
set_option maxRecDepth 100000 in
theorem kv_X6_prior : oMv mX6_prior := ⟨ki_X6_prior, (oWL_t (n := 826) rfl rfl)⟩
theorem kn_X6_prior : oN mX6_prior 5 := (by decide +kernel : (parseMethodDescriptor (yX6_prior).desc).map (fun d => d.parameters.length) = some 5)
def mX6_lowOf : oM := (yX6_lowOf, cX6_lowOf, 3, some .int, 0, 0)
set_option maxRecDepth 100000 in
theorem kc_X6_lowOf : oMc mX6_lowOf := ⟨(oWL_t (n := 841) rfl rfl), (oWL_t (n := 5) rfl rfl), by decide, by decide⟩
set_option maxRecDepth 100000 in
theorem ki_X6_lowOf : oMi mX6_lowOf := ⟨kc_X6_lowOf, (oWL_t (n := 840) rfl rfl)⟩
set_option maxRecDepth 100000 in
theorem kv_X6_lowOf : oMv mX6_lowOf := ⟨ki_X6_lowOf, (oWL_p (n := 38) rfl rfl)⟩
theorem kn_X6_lowOf : oN mX6_lowOf 2 := (by decide +kernel : (parseMethodDescriptor (yX6_lowOf).desc).map (fun d => d.parameters.length) = some 2)
def mX6_highOf : oM := (yX6_highOf, cX6_highOf, 3, some .int, 0, 0)
set_option maxRecDepth 100000 in
theorem kc_X6_highOf : oMc mX6_highOf := ⟨(oWL_t (n := 845) rfl rfl), (oWL_t (n := 5) rfl rfl), by decide, by decide⟩
set_option maxRecDepth 100000 in
theorem ki_X6_highOf : oMi mX6_highOf := ⟨kc_X6_highOf, (oWL_t (n := 844) rfl rfl)⟩
set_option maxRecDepth 100000 in
theorem kv_X6_highOf : oMv mX6_highOf := ⟨ki_X6_highOf, (oWL_p (n := 39) rfl rfl)⟩
theorem kn_X6_highOf : oN mX6_highOf 2 := (by decide +kernel : (parseMethodDescriptor (yX6_highOf).desc).map (fun d => d.parameters.length) = some 2)
def mX6_day : oM := (yX6_day, cX6_day, 6, some .int, 1, 25)
set_option maxRecDepth 100000 in
theorem kc_X6_day : oMc mX6_day := ⟨(oWL_t (n := 836) rfl rfl), (oWL_t (n := 5) rfl rfl), by decide, by decide⟩
set_option maxRecDepth 100000 in
theorem ki_X6_day : oMi mX6_day := ⟨kc_X6_day, (oWL_t (n := 834) rfl rfl)⟩
set_option maxRecDepth 100000 in
theorem kv_X6_day : oMv mX6_day := ⟨ki_X6_day, (oWL_t (n := 835) rfl rfl)⟩
theorem kn_X6_day : oN mX6_day 1 := (by decide +kernel : (parseMethodDescriptor (yX6_day).desc).map (fun d => d.parameters.length) = some 1)
def mX6_isDue : oM := (yX6_isDue, cX6_isDue, 2, some .boolean, 1, 22)
set_option maxRecDepth 100000 in
theorem kc_X6_isDue : oMc mX6_isDue := ⟨(oWL_t (n := 858) rfl rfl), (oWL_t (n := 5) rfl rfl), by decide, by decide⟩
set_option maxRecDepth 100000 in
theorem ki_X6_isDue : oMi mX6_isDue := ⟨kc_X6_isDue, (oWL_t (n := 857) rfl rfl)⟩
set_option maxRecDepth 100000 in
theorem kv_X6_isDue : oMv mX6_isDue := ⟨ki_X6_isDue, (oWL_p (n := 41) rfl rfl)⟩
theorem kn_X6_isDue : oN mX6_isDue 1 := (by decide +kernel : (parseMethodDescriptor (yX6_isDue).desc).map (fun d => d.parameters.length) = some 1)
def mX6_due : oM := (yX6_due, cX6_due, 3, some .int, 2, 43)
set_option maxRecDepth 100000 in
theorem kc_X6_due : oMc mX6_due := ⟨(oWL_t (n := 854) rfl rfl), (oWL_t (n := 5) rfl rfl), by decide, by decide⟩
set_option maxRecDepth 100000 in
theorem ki_X6_due : oMi mX6_due := ⟨kc_X6_due, (oWL_t (n := 853) rfl rfl)⟩
set_option maxRecDepth 100000 in
theorem kv_X6_due : oMv mX6_due := ⟨ki_X6_due, (oWL_p (n := 40) rfl rfl)⟩
theorem kn_X6_due : oN mX6_due 0 := (by decide +kernel : (parseMethodDescriptor (yX6_due).desc).map (fun d => d.parameters.length) = some 0)
def mX6_look : oM := (yX6_look, cX6_look, 3, some .int, 3, 65)
set_option maxRecDepth 100000 in
theorem kc_X6_look : oMc mX6_look := ⟨(oWL_t (n := 849) rfl rfl), (oWL_t (n := 5) rfl rfl), by decide, by decide⟩
set_option maxRecDepth 100000 in
theorem ki_X6_look : oMi mX6_look := ⟨kc_X6_look, (oWL_t (n := 847) rfl rfl)⟩
set_option maxRecDepth 100000 in
theorem kv_X6_look : oMv mX6_look := ⟨ki_X6_look, (oWL_t (n := 848) rfl rfl)⟩
theorem kn_X6_look : oN mX6_look 2 := (by decide +kernel : (parseMethodDescriptor (yX6_look).desc).map (fun d => d.parameters.length) = some 2)
def mX6_told : oM := (yX6_told, cX6_told, 3, some .int, 2, 46)
set_option maxRecDepth 100000 in
theorem kc_X6_told : oMc mX6_told := ⟨(oWL_t (n := 862) rfl rfl), (oWL_t (n := 5) rfl rfl), by decide, by decide⟩
set_option maxRecDepth 100000 in
theorem ki_X6_told : oMi mX6_told := ⟨kc_X6_told, (oWL_t (n := 860) rfl rfl)⟩
set_option maxRecDepth 100000 in
theorem kv_X6_told : oMv mX6_told := ⟨ki_X6_told, (oWL_t (n := 861) rfl rfl)⟩
theorem kn_X6_told : oN mX6_told 2 := (by decide +kernel : (parseMethodDescriptor (yX6_told).desc).map (fun d => d.parameters.length) = some 2)
def mX6_lasts : oM := (yX6_lasts, cX6_lasts, 5, some .int, 2, 46)
set_option maxRecDepth 100000 in
theorem kc_X6_lasts : oMc mX6_lasts := ⟨(oWL_t (n := 866) rfl rfl), (oWL_t (n := 5) rfl rfl), by decide, by decide⟩
set_option maxRecDepth 100000 in
theorem ki_X6_lasts : oMi mX6_lasts := ⟨kc_X6_lasts, (oWL_t (n := 864) rfl rfl)⟩
set_option maxRecDepth 100000 in
theorem kv_X6_lasts : oMv mX6_lasts := ⟨ki_X6_lasts, (oWL_t (n := 865) rfl rfl)⟩
theorem kn_X6_lasts : oN mX6_lasts 2 := (by decide +kernel : (parseMethodDescriptor (yX6_lasts).desc).map (fun d => d.parameters.length) = some 2)
def mX6_stock : oM := (yX6_stock, cX6_stock, 2, some .int, 0, 0)
set_option maxRecDepth 100000 in
theorem kc_X6_stock : oMc mX6_stock := ⟨(oWL_t (n := 870) rfl rfl), (oWL_t (n := 5) rfl rfl), by decide, by decide⟩
set_option maxRecDepth 100000 in
theorem ki_X6_stock : oMi mX6_stock := ⟨kc_X6_stock, (oWL_t (n := 868) rfl rfl)⟩
set_option maxRecDepth 100000 in
theorem kv_X6_stock : oMv mX6_stock := ⟨ki_X6_stock, (oWL_t (n := 869) rfl rfl)⟩
theorem kn_X6_stock : oN mX6_stock 1 := (by decide +kernel : (parseMethodDescriptor (yX6_stock).desc).map (fun d => d.parameters.length) = some 1)
def mX6_lorry : oM := (yX6_lorry, cX6_lorry, 3, some .int, 1, 25)
set_option maxRecDepth 100000 in
theorem kc_X6_lorry : oMc mX6_lorry := ⟨(oWL_t (n := 875) rfl rfl), (oWL_t (n := 5) rfl rfl), by decide, by decide⟩
set_option maxRecDepth 100000 in
theorem ki_X6_lorry : oMi mX6_lorry := ⟨kc_X6_lorry, (oWL_t (n := 873) rfl rfl)⟩
set_option maxRecDepth 100000 in
theorem kv_X6_lorry : oMv mX6_lorry := ⟨ki_X6_lorry, (oWL_t (n := 874) rfl rfl)⟩
theorem kn_X6_lorry : oN mX6_lorry 1 := (by decide +kernel : (parseMethodDescriptor (yX6_lorry).desc).map (fun d => d.parameters.length) = some 1)
def mX6_canGo : oM := (yX6_canGo, cX6_canGo, 3, some .int, 1, 22)
set_option maxRecDepth 100000 in
theorem kc_X6_canGo : oMc mX6_canGo := ⟨(oWL_t (n := 885) rfl rfl), (oWL_t (n := 5) rfl rfl), by decide, by decide⟩
set_option maxRecDepth 100000 in
theorem ki_X6_canGo : oMi mX6_canGo := ⟨kc_X6_canGo, (oWL_t (n := 884) rfl rfl)⟩
set_option maxRecDepth 100000 in
theorem kv_X6_canGo : oMv mX6_canGo := ⟨ki_X6_canGo, (oWL_p (n := 42) rfl rfl)⟩
theorem kn_X6_canGo : oN mX6_canGo 1 := (by decide +kernel : (parseMethodDescriptor (yX6_canGo).desc).map (fun d => d.parameters.length) = some 1)
def mX6_calls : oM := (yX6_calls, cX6_calls, 8, some .int, 2, 44)
set_option maxRecDepth 100000 in
theorem kc_X6_calls : oMc mX6_calls := ⟨(oWL_t (n := 880) rfl rfl), (oWL_t (n := 5) rfl rfl), by decide, by decide⟩
set_option maxRecDepth 100000 in
theorem ki_X6_calls : oMi mX6_calls := ⟨kc_X6_calls, (oWL_t (n := 878) rfl rfl)⟩
set_option maxRecDepth 100000 in
theorem kv_X6_calls : oMv mX6_calls := ⟨ki_X6_calls, (oWL_t (n := 879) rfl rfl)⟩
theorem kn_X6_calls : oN mX6_calls 0 := (by decide +kernel : (parseMethodDescriptor (yX6_calls).desc).map (fun d => d.parameters.length) = some 0)
def mX6_isSet : oM := (yX6_isSet, cX6_isSet, 4, some .boolean, 2, 46)
set_option maxRecDepth 100000 in
theorem kc_X6_isSet : oMc mX6_isSet := ⟨(oWL_t (n := 893) rfl rfl), (oWL_t (n := 5) rfl rfl), by decide, by decide⟩
set_option maxRecDepth 100000 in
theorem ki_X6_isSet : oMi mX6_isSet := ⟨kc_X6_isSet, (oWL_t (n := 892) rfl rfl)⟩
set_option maxRecDepth 100000 in
theorem kv_X6_isSet : oMv mX6_isSet := ⟨ki_X6_isSet, (oWL_p (n := 43) rfl rfl)⟩
theorem kn_X6_isSet : oN mX6_isSet 1 := (by decide +kernel : (parseMethodDescriptor (yX6_isSet).desc).map (fun d => d.parameters.length) = some 1)
def mX6_size : oM := (yX6_size, cX6_size, 1, some .int, 0, 0)
set_option maxRecDepth 100000 in
theorem kc_X6_size : oMc mX6_size := ⟨(oWL_t (n := 905) rfl rfl), (oWL_t (n := 5) rfl rfl), by decide, by decide⟩
set_option maxRecDepth 100000 in
theorem ks_X6_size : oMs mX6_size := ⟨kc_X6_size, (oWL_t (n := 904) rfl rfl)⟩
theorem kn_X6_size : oN mX6_size 1 := (by decide +kernel : (parseMethodDescriptor (yX6_size).desc).map (fun d => d.parameters.length) = some 1)
def mX6_fromDepot : oM := (yX6_fromDepot, cX6_fromDepot, 2, some .int, 1, 20)
set_option maxRecDepth 100000 in
theorem kc_X6_fromDepot : oMc mX6_fromDepot := ⟨(oWL_t (n := 902) rfl rfl), (oWL_t (n := 5) rfl rfl), by decide, by decide⟩
set_option maxRecDepth 100000 in
theorem ki_X6_fromDepot : oMi mX6_fromDepot := ⟨kc_X6_fromDepot, (oWL_t (n := 901) rfl rfl)⟩
set_option maxRecDepth 100000 in
theorem kv_X6_fromDepot : oMv mX6_fromDepot := ⟨ki_X6_fromDepot, (oWL_p (n := 45) rfl rfl)⟩
theorem kn_X6_fromDepot : oN mX6_fromDepot 1 := (by decide +kernel : (parseMethodDescriptor (yX6_fromDepot).desc).map (fun d => d.parameters.length) = some 1)
def mX6_between : oM := (yX6_between, cX6_between, 3, some .int, 1, 20)
set_option maxRecDepth 100000 in
theorem kc_X6_between : oMc mX6_between := ⟨(oWL_t (n := 909) rfl rfl), (oWL_t (n := 5) rfl rfl), by decide, by decide⟩
set_option maxRecDepth 100000 in
theorem ki_X6_between : oMi mX6_between := ⟨kc_X6_between, (oWL_t (n := 908) rfl rfl)⟩
set_option maxRecDepth 100000 in
theorem kv_X6_between : oMv mX6_between := ⟨ki_X6_between, (oWL_p (n := 46) rfl rfl)⟩
theorem kn_X6_between : oN mX6_between 2 := (by decide +kernel : (parseMethodDescriptor (yX6_between).desc).map (fun d => d.parameters.length) = some 2)
def mX6_findWays : oM := (yX6_findWays, cX6_findWays, 6, none, 2, 42)
set_option maxRecDepth 100000 in
theorem kc_X6_findWays : oMc mX6_findWays := ⟨(oWL_t (n := 898) rfl rfl), (oWL_t (n := 5) rfl rfl), by decide, by decide⟩
set_option maxRecDepth 100000 in
theorem ki_X6_findWays : oMi mX6_findWays := ⟨kc_X6_findWays, (oWL_t (n := 897) rfl rfl)⟩
set_option maxRecDepth 100000 in
theorem kv_X6_findWays : oMv mX6_findWays := ⟨ki_X6_findWays, (oWL_p (n := 44) rfl rfl)⟩
theorem kn_X6_findWays : oN mX6_findWays 0 := (by decide +kernel : (parseMethodDescriptor (yX6_findWays).desc).map (fun d => d.parameters.length) = some 0)
def mX6_nextOf : oM := (yX6_nextOf, cX6_nextOf, 7, some .int, 2, 42)
set_option maxRecDepth 100000 in
theorem kc_X6_nextOf : oMc mX6_nextOf := ⟨(oWL_t (n := 913) rfl rfl), (oWL_t (n := 5) rfl rfl), by decide, by decide⟩
set_option maxRecDepth 100000 in
theorem ki_X6_nextOf : oMi mX6_nextOf := ⟨kc_X6_nextOf, (oWL_t (n := 912) rfl rfl)⟩
set_option maxRecDepth 100000 in
theorem kv_X6_nextOf : oMv mX6_nextOf := ⟨ki_X6_nextOf, (oWL_p (n := 47) rfl rfl)⟩
theorem kn_X6_nextOf : oN mX6_nextOf 2 := (by decide +kernel : (parseMethodDescriptor (yX6_nextOf).desc).map (fun d => d.parameters.length) = some 2)
def mX6_round : oM := (yX6_round, cX6_round, 6, some .int, 3, 69)
set_option maxRecDepth 100000 in
theorem kc_X6_round : oMc mX6_round := ⟨(oWL_t (n := 889) rfl rfl), (oWL_t (n := 5) rfl rfl), by decide, by decide⟩
set_option maxRecDepth 100000 in
theorem ki_X6_round : oMi mX6_round := ⟨kc_X6_round, (oWL_t (n := 887) rfl rfl)⟩
set_option maxRecDepth 100000 in
theorem kv_X6_round : oMv mX6_round := ⟨ki_X6_round, (oWL_t (n := 888) rfl rfl)⟩
theorem kn_X6_round : oN mX6_round 2 := (by decide +kernel : (parseMethodDescriptor (yX6_round).desc).map (fun d => d.parameters.length) = some 2)
def mX6_stop : oM := (yX6_stop, cX6_stop, 6, some .int, 3, 69)
set_option maxRecDepth 100000 in
theorem kc_X6_stop : oMc mX6_stop := ⟨(oWL_t (n := 917) rfl rfl), (oWL_t (n := 5) rfl rfl), by decide, by decide⟩
set_option maxRecDepth 100000 in
theorem ki_X6_stop : oMi mX6_stop := ⟨kc_X6_stop, (oWL_t (n := 915) rfl rfl)⟩
set_option maxRecDepth 100000 in
theorem kv_X6_stop : oMv mX6_stop := ⟨ki_X6_stop, (oWL_t (n := 916) rfl rfl)⟩
theorem kn_X6_stop : oN mX6_stop 2 := (by decide +kernel : (parseMethodDescriptor (yX6_stop).desc).map (fun d => d.parameters.length) = some 2)
def mX6_most : oM := (yX6_most, cX6_most, 2, some .int, 0, 0)
set_option maxRecDepth 100000 in
theorem kc_X6_most : oMc mX6_most := ⟨(oWL_t (n := 938) rfl rfl), (oWL_t (n := 5) rfl rfl), by decide, by decide⟩
set_option maxRecDepth 100000 in
theorem ks_X6_most : oMs mX6_most := ⟨kc_X6_most, (oWL_t (n := 937) rfl rfl)⟩
theorem kn_X6_most : oN mX6_most 2 := (by decide +kernel : (parseMethodDescriptor (yX6_most).desc).map (fun d => d.parameters.length) = some 2)
def mX6_least : oM := (yX6_least, cX6_least, 2, some .int, 0, 0)
set_option maxRecDepth 100000 in
theorem kc_X6_least : oMc mX6_least := ⟨(oWL_t (n := 928) rfl rfl), (oWL_t (n := 5) rfl rfl), by decide, by decide⟩
set_option maxRecDepth 100000 in
theorem ks_X6_least : oMs mX6_least := ⟨kc_X6_least, (oWL_t (n := 927) rfl rfl)⟩
theorem kn_X6_least : oN mX6_least 2 := (by decide +kernel : (parseMethodDescriptor (yX6_least).desc).map (fun d => d.parameters.length) = some 2)
def mX6_roundedUp : oM := (yX6_roundedUp, cX6_roundedUp, 2, some .int, 0, 0)
set_option maxRecDepth 100000 in
theorem kc_X6_roundedUp : oMc mX6_roundedUp := ⟨(oWL_t (n := 941) rfl rfl), (oWL_t (n := 5) rfl rfl), by decide, by decide⟩
set_option maxRecDepth 100000 in
theorem ks_X6_roundedUp : oMs mX6_roundedUp := ⟨kc_X6_roundedUp, (oWL_t (n := 940) rfl rfl)⟩
theorem kn_X6_roundedUp : oN mX6_roundedUp 2 := (by decide +kernel : (parseMethodDescriptor (yX6_roundedUp).desc).map (fun d => d.parameters.length) = some 2)
def mX6_cut : oM := (yX6_cut, cX6_cut, 2, some .int, 0, 0)
set_option maxRecDepth 100000 in
theorem kc_X6_cut : oMc mX6_cut := ⟨(oWL_t (n := 935) rfl rfl), (oWL_t (n := 5) rfl rfl), by decide, by decide⟩
set_option maxRecDepth 100000 in
theorem ks_X6_cut : oMs mX6_cut := ⟨kc_X6_cut, (oWL_t (n := 934) rfl rfl)⟩
theorem kn_X6_cut : oN mX6_cut 2 := (by decide +kernel : (parseMethodDescriptor (yX6_cut).desc).map (fun d => d.parameters.length) = some 2)
def mX6_makeNarrower : oM := (yX6_makeNarrower, cX6_makeNarrower, 9, none, 1, 21)
set_option maxRecDepth 100000 in
theorem kc_X6_makeNarrower : oMc mX6_makeNarrower := ⟨(oWL_t (n := 932) rfl rfl), (oWL_t (n := 5) rfl rfl), by decide, by decide⟩
set_option maxRecDepth 100000 in
theorem ki_X6_makeNarrower : oMi mX6_makeNarrower := ⟨kc_X6_makeNarrower, (oWL_t (n := 931) rfl rfl)⟩
set_option maxRecDepth 100000 in
theorem kv_X6_makeNarrower : oMv mX6_makeNarrower := ⟨ki_X6_makeNarrower, (oWL_p (n := 49) rfl rfl)⟩
theorem kn_X6_makeNarrower : oN mX6_makeNarrower 2 := (by decide +kernel : (parseMethodDescriptor (yX6_makeNarrower).desc).map (fun d => d.parameters.length) = some 2)
def mX6_cost : oM := (yX6_cost, cX6_cost, 4, some .int, 1, 21)
set_option maxRecDepth 100000 in
theorem kc_X6_cost : oMc mX6_cost := ⟨(oWL_t (n := 925) rfl rfl), (oWL_t (n := 5) rfl rfl), by decide, by decide⟩
set_option maxRecDepth 100000 in
theorem ki_X6_cost : oMi mX6_cost := ⟨kc_X6_cost, (oWL_t (n := 924) rfl rfl)⟩
set_option maxRecDepth 100000 in
theorem kv_X6_cost : oMv mX6_cost := ⟨ki_X6_cost, (oWL_p (n := 48) rfl rfl)⟩
theorem kn_X6_cost : oN mX6_cost 2 := (by decide +kernel : (parseMethodDescriptor (yX6_cost).desc).map (fun d => d.parameters.length) = some 2)
def mX6_fill : oM := (yX6_fill, cX6_fill, 8, some .int, 2, 49)
set_option maxRecDepth 100000 in
theorem kc_X6_fill : oMc mX6_fill := ⟨(oWL_t (n := 921) rfl rfl), (oWL_t (n := 5) rfl rfl), by decide, by decide⟩
set_option maxRecDepth 100000 in
theorem ki_X6_fill : oMi mX6_fill := ⟨kc_X6_fill, (oWL_t (n := 919) rfl rfl)⟩
set_option maxRecDepth 100000 in
theorem kv_X6_fill : oMv mX6_fill := ⟨ki_X6_fill, (oWL_t (n := 920) rfl rfl)⟩
theorem kn_X6_fill : oN mX6_fill 2 := (by decide +kernel : (parseMethodDescriptor (yX6_fill).desc).map (fun d => d.parameters.length) = some 2)
def mX6_price : oM := (yX6_price, cX6_price, 3, some .int, 1, 25)
set_option maxRecDepth 100000 in
theorem kc_X6_price : oMc mX6_price := ⟨(oWL_t (n := 945) rfl rfl), (oWL_t (n := 5) rfl rfl), by decide, by decide⟩
set_option maxRecDepth 100000 in
theorem ki_X6_price : oMi mX6_price := ⟨kc_X6_price, (oWL_t (n := 943) rfl rfl)⟩
set_option maxRecDepth 100000 in
theorem kv_X6_price : oMv mX6_price := ⟨ki_X6_price, (oWL_t (n := 944) rfl rfl)⟩
theorem kn_X6_price : oN mX6_price 1 := (by decide +kernel : (parseMethodDescriptor (yX6_price).desc).map (fun d => d.parameters.length) = some 1)
def mX6_quote : oM := (yX6_quote, cX6_quote, 3, some .int, 2, 46)
set_option maxRecDepth 100000 in
theorem kc_X6_quote : oMc mX6_quote := ⟨(oWL_t (n := 950) rfl rfl), (oWL_t (n := 5) rfl rfl), by decide, by decide⟩
set_option maxRecDepth 100000 in
theorem ki_X6_quote : oMi mX6_quote := ⟨kc_X6_quote, (oWL_t (n := 948) rfl rfl)⟩
set_option maxRecDepth 100000 in
theorem kv_X6_quote : oMv mX6_quote := ⟨ki_X6_quote, (oWL_t (n := 949) rfl rfl)⟩
theorem kn_X6_quote : oN mX6_quote 2 := (by decide +kernel : (parseMethodDescriptor (yX6_quote).desc).map (fun d => d.parameters.length) = some 2)
def mX6_feed : oM := (yX6_feed, cX6_feed, 5, some .int, 1, 25)
set_option maxRecDepth 100000 in
theorem kc_X6_feed : oMc mX6_feed := ⟨(oWL_t (n := 954) rfl rfl), (oWL_t (n := 5) rfl rfl), by decide, by decide⟩
set_option maxRecDepth 100000 in
theorem ki_X6_feed : oMi mX6_feed := ⟨kc_X6_feed, (oWL_t (n := 952) rfl rfl)⟩
set_option maxRecDepth 100000 in
theorem kv_X6_feed : oMv mX6_feed := ⟨ki_X6_feed, (oWL_t (n := 953) rfl rfl)⟩
theorem kn_X6_feed : oN mX6_feed 2 := (by decide +kernel : (parseMethodDescriptor (yX6_feed).desc).map (fun d => d.parameters.length) = some 2)
def mX6_byteAt : oM := (yX6_byteAt, cX6_byteAt, 2, some .int, 0, 0)
set_option maxRecDepth 100000 in
theorem kc_X6_byteAt : oMc mX6_byteAt := ⟨(oWL_t (n := 968) rfl rfl), (oWL_t (n := 5) rfl rfl), by decide, by decide⟩
set_option maxRecDepth 100000 in
theorem ki_X6_byteAt : oMi mX6_byteAt := ⟨kc_X6_byteAt, (oWL_t (n := 967) rfl rfl)⟩
set_option maxRecDepth 100000 in
theorem kv_X6_byteAt : oMv mX6_byteAt := ⟨ki_X6_byteAt, (oWL_p (n := 51) rfl rfl)⟩
theorem kn_X6_byteAt : oN mX6_byteAt 1 := (by decide +kernel : (parseMethodDescriptor (yX6_byteAt).desc).map (fun d => d.parameters.length) = some 1)
def mX6_isLetter : oM := (yX6_isLetter, cX6_isLetter, 1, some .boolean, 0, 0)
set_option maxRecDepth 100000 in
theorem kc_X6_isLetter : oMc mX6_isLetter := ⟨(oWL_t (n := 971) rfl rfl), (oWL_t (n := 5) rfl rfl), by decide, by decide⟩
set_option maxRecDepth 100000 in
theorem ks_X6_isLetter : oMs mX6_isLetter := ⟨kc_X6_isLetter, (oWL_t (n := 970) rfl rfl)⟩
theorem kn_X6_isLetter : oN mX6_isLetter 1 := (by decide +kernel : (parseMethodDescriptor (yX6_isLetter).desc).map (fun d => d.parameters.length) = some 1)
def mX6_isFigure : oM := (yX6_isFigure, cX6_isFigure, 1, some .boolean, 0, 0)
set_option maxRecDepth 100000 in
theorem kc_X6_isFigure : oMc mX6_isFigure := ⟨(oWL_t (n := 974) rfl rfl), (oWL_t (n := 5) rfl rfl), by decide, by decide⟩
set_option maxRecDepth 100000 in
theorem ks_X6_isFigure : oMs mX6_isFigure := ⟨kc_X6_isFigure, (oWL_t (n := 973) rfl rfl)⟩
theorem kn_X6_isFigure : oN mX6_isFigure 1 := (by decide +kernel : (parseMethodDescriptor (yX6_isFigure).desc).map (fun d => d.parameters.length) = some 1)
def mX6_step : oM := (yX6_step, cX6_step, 2, none, 1, 21)
set_option maxRecDepth 100000 in
theorem kc_X6_step : oMc mX6_step := ⟨(oWL_t (n := 964) rfl rfl), (oWL_t (n := 5) rfl rfl), by decide, by decide⟩
set_option maxRecDepth 100000 in
theorem ki_X6_step : oMi mX6_step := ⟨kc_X6_step, (oWL_t (n := 963) rfl rfl)⟩
set_option maxRecDepth 100000 in
theorem kv_X6_step : oMv mX6_step := ⟨ki_X6_step, (oWL_p (n := 50) rfl rfl)⟩
theorem kn_X6_step : oN mX6_step 0 := (by decide +kernel : (parseMethodDescriptor (yX6_step).desc).map (fun d => d.parameters.length) = some 0)
def mX6_bad : oM := (yX6_bad, cX6_bad, 2, none, 0, 0)
set_option maxRecDepth 100000 in
theorem kc_X6_bad : oMc mX6_bad := ⟨(oWL_t (n := 991) rfl rfl), (oWL_t (n := 5) rfl rfl), by decide, by decide⟩
set_option maxRecDepth 100000 in
theorem ki_X6_bad : oMi mX6_bad := ⟨kc_X6_bad, (oWL_t (n := 990) rfl rfl)⟩
set_option maxRecDepth 100000 in
theorem kv_X6_bad : oMv mX6_bad := ⟨ki_X6_bad, (oWL_p (n := 55) rfl rfl)⟩
theorem kn_X6_bad : oN mX6_bad 1 := (by decide +kernel : (parseMethodDescriptor (yX6_bad).desc).map (fun d => d.parameters.length) = some 1)
def mX6_take : oM := (yX6_take, cX6_take, 2, none, 2, 42)
set_option maxRecDepth 100000 in
theorem kc_X6_take : oMc mX6_take := ⟨(oWL_t (n := 987) rfl rfl), (oWL_t (n := 5) rfl rfl), by decide, by decide⟩
set_option maxRecDepth 100000 in
theorem ki_X6_take : oMi mX6_take := ⟨kc_X6_take, (oWL_t (n := 986) rfl rfl)⟩
set_option maxRecDepth 100000 in
theorem kv_X6_take : oMv mX6_take := ⟨ki_X6_take, (oWL_p (n := 54) rfl rfl)⟩
theorem kn_X6_take : oN mX6_take 1 := (by decide +kernel : (parseMethodDescriptor (yX6_take).desc).map (fun d => d.parameters.length) = some 1)
def mX6_is : oM := (yX6_is, cX6_is, 2, some .boolean, 0, 0)
set_option maxRecDepth 100000 in
theorem kc_X6_is : oMc mX6_is := ⟨(oWL_t (n := 1002) rfl rfl), (oWL_t (n := 5) rfl rfl), by decide, by decide⟩
set_option maxRecDepth 100000 in
theorem ki_X6_is : oMi mX6_is := ⟨kc_X6_is, (oWL_t (n := 1001) rfl rfl)⟩
set_option maxRecDepth 100000 in
theorem kv_X6_is : oMv mX6_is := ⟨ki_X6_is, (oWL_p (n := 57) rfl rfl)⟩
theorem kn_X6_is : oN mX6_is 1 := (by decide +kernel : (parseMethodDescriptor (yX6_is).desc).map (fun d => d.parameters.length) = some 1)
def mX6_name : oM := (yX6_name, cX6_name, 4, some .long, 0, 0)
set_option maxRecDepth 100000 in
theorem kc_X6_name : oMc mX6_name := ⟨(oWL_t (n := 982) rfl rfl), (oWL_t (n := 5) rfl rfl), by decide, by decide⟩
set_option maxRecDepth 100000 in
theorem ki_X6_name : oMi mX6_name := ⟨kc_X6_name, (oWL_t (n := 981) rfl rfl)⟩
set_option maxRecDepth 100000 in
theorem kv_X6_name : oMv mX6_name := ⟨ki_X6_name, (oWL_p (n := 53) rfl rfl)⟩
theorem kn_X6_name : oN mX6_name 0 := (by decide +kernel : (parseMethodDescriptor (yX6_name).desc).map (fun d => d.parameters.length) = some 0)
def mX6_number : oM := (yX6_number, cX6_number, 3, some .int, 0, 0)
set_option maxRecDepth 100000 in
theorem kc_X6_number : oMc mX6_number := ⟨(oWL_t (n := 995) rfl rfl), (oWL_t (n := 5) rfl rfl), by decide, by decide⟩
set_option maxRecDepth 100000 in
theorem ki_X6_number : oMi mX6_number := ⟨kc_X6_number, (oWL_t (n := 994) rfl rfl)⟩
set_option maxRecDepth 100000 in
theorem kv_X6_number : oMv mX6_number := ⟨ki_X6_number, (oWL_p (n := 56) rfl rfl)⟩
theorem kn_X6_number : oN mX6_number 0 := (by decide +kernel : (parseMethodDescriptor (yX6_number).desc).map (fun d => d.parameters.length) = some 0)
def mX6_readOne : oM := (yX6_readOne, cX6_readOne, 7, none, 3, 63)
set_option maxRecDepth 100000 in
theorem kc_X6_readOne : oMc mX6_readOne := ⟨(oWL_t (n := 978) rfl rfl), (oWL_t (n := 5) rfl rfl), by decide, by decide⟩
set_option maxRecDepth 100000 in
theorem ki_X6_readOne : oMi mX6_readOne := ⟨kc_X6_readOne, (oWL_t (n := 977) rfl rfl)⟩
set_option maxRecDepth 100000 in
theorem kv_X6_readOne : oMv mX6_readOne := ⟨ki_X6_readOne, (oWL_p (n := 52) rfl rfl)⟩
theorem kn_X6_readOne : oN mX6_readOne 0 := (by decide +kernel : (parseMethodDescriptor (yX6_readOne).desc).map (fun d => d.parameters.length) = some 0)
def mX6_plans : oM := (yX6_plans, cX6_plans, 3, some .int, 4, 89)
set_option maxRecDepth 100000 in
theorem kc_X6_plans : oMc mX6_plans := ⟨(oWL_t (n := 960) rfl rfl), (oWL_t (n := 5) rfl rfl), by decide, by decide⟩
set_option maxRecDepth 100000 in
theorem ki_X6_plans : oMi mX6_plans := ⟨kc_X6_plans, (oWL_t (n := 958) rfl rfl)⟩
set_option maxRecDepth 100000 in
theorem kv_X6_plans : oMv mX6_plans := ⟨ki_X6_plans, (oWL_t (n := 959) rfl rfl)⟩
theorem kn_X6_plans : oN mX6_plans 0 := (by decide +kernel : (parseMethodDescriptor (yX6_plans).desc).map (fun d => d.parameters.length) = some 0)
def mX6_fault : oM := (yX6_fault, cX6_fault, 1, some .int, 0, 0)
set_option maxRecDepth 100000 in
theorem kc_X6_fault : oMc mX6_fault := ⟨(oWL_t (n := 1007) rfl rfl), (oWL_t (n := 5) rfl rfl), by decide, by decide⟩
set_option maxRecDepth 100000 in
theorem ki_X6_fault : oMi mX6_fault := ⟨kc_X6_fault, (oWL_t (n := 1005) rfl rfl)⟩
set_option maxRecDepth 100000 in
theorem kv_X6_fault : oMv mX6_fault := ⟨ki_X6_fault, (oWL_t (n := 1006) rfl rfl)⟩
theorem kn_X6_fault : oN mX6_fault 0 := (by decide +kernel : (parseMethodDescriptor (yX6_fault).desc).map (fun d => d.parameters.length) = some 0)
def mX6_kindOf : oM := (yX6_kindOf, cX6_kindOf, 2, some .int, 0, 0)
set_option maxRecDepth 100000 in
theorem kc_X6_kindOf : oMc mX6_kindOf := ⟨(oWL_t (n := 1015) rfl rfl), (oWL_t (n := 5) rfl rfl), by decide, by decide⟩
set_option maxRecDepth 100000 in
theorem ki_X6_kindOf : oMi mX6_kindOf := ⟨kc_X6_kindOf, (oWL_t (n := 1014) rfl rfl)⟩
set_option maxRecDepth 100000 in
theorem kv_X6_kindOf : oMv mX6_kindOf := ⟨ki_X6_kindOf, (oWL_p (n := 58) rfl rfl)⟩
theorem kn_X6_kindOf : oN mX6_kindOf 1 := (by decide +kernel : (parseMethodDescriptor (yX6_kindOf).desc).map (fun d => d.parameters.length) = some 1)
def mX6_kind : oM := (yX6_kind, cX6_kind, 2, some .int, 2, 46)
set_option maxRecDepth 100000 in
theorem kc_X6_kind : oMc mX6_kind := ⟨(oWL_t (n := 1011) rfl rfl), (oWL_t (n := 5) rfl rfl), by decide, by decide⟩
set_option maxRecDepth 100000 in
theorem ki_X6_kind : oMi mX6_kind := ⟨kc_X6_kind, (oWL_t (n := 1009) rfl rfl)⟩
set_option maxRecDepth 100000 in
theorem kv_X6_kind : oMv mX6_kind := ⟨ki_X6_kind, (oWL_t (n := 1010) rfl rfl)⟩
theorem kn_X6_kind : oN mX6_kind 1 := (by decide +kernel : (parseMethodDescriptor (yX6_kind).desc).map (fun d => d.parameters.length) = some 1)
def mX6_as : oM := (yX6_as, cX6_as, 4, some .int, 2, 46)
set_option maxRecDepth 100000 in
theorem kc_X6_as : oMc mX6_as := ⟨(oWL_t (n := 1019) rfl rfl), (oWL_t (n := 5) rfl rfl), by decide, by decide⟩
set_option maxRecDepth 100000 in
theorem ki_X6_as : oMi mX6_as := ⟨kc_X6_as, (oWL_t (n := 1017) rfl rfl)⟩
set_option maxRecDepth 100000 in
theorem kv_X6_as : oMv mX6_as := ⟨ki_X6_as, (oWL_t (n := 1018) rfl rfl)⟩
theorem kn_X6_as : oN mX6_as 2 := (by decide +kernel : (parseMethodDescriptor (yX6_as).desc).map (fun d => d.parameters.length) = some 2)
def mX6_began : oM := (yX6_began, cX6_began, 2, none, 0, 0)
set_option maxRecDepth 100000 in
theorem kc_X6_began : oMc mX6_began := ⟨(oWL_t (n := 1033) rfl rfl), (oWL_t (n := 5) rfl rfl), by decide, by decide⟩
set_option maxRecDepth 100000 in
theorem ki_X6_began : oMi mX6_began := ⟨kc_X6_began, (oWL_t (n := 1032) rfl rfl)⟩
set_option maxRecDepth 100000 in
theorem kv_X6_began : oMv mX6_began := ⟨ki_X6_began, (oWL_p (n := 60) rfl rfl)⟩
theorem kn_X6_began : oN mX6_began 1 := (by decide +kernel : (parseMethodDescriptor (yX6_began).desc).map (fun d => d.parameters.length) = some 1)
def mX6_weight : oM := (yX6_weight, cX6_weight, 5, some .int, 1, 21)
set_option maxRecDepth 100000 in
theorem kc_X6_weight : oMc mX6_weight := ⟨(oWL_t (n := 1029) rfl rfl), (oWL_t (n := 5) rfl rfl), by decide, by decide⟩
set_option maxRecDepth 100000 in
theorem ki_X6_weight : oMi mX6_weight := ⟨kc_X6_weight, (oWL_t (n := 1028) rfl rfl)⟩
set_option maxRecDepth 100000 in
theorem kv_X6_weight : oMv mX6_weight := ⟨ki_X6_weight, (oWL_p (n := 59) rfl rfl)⟩
theorem kn_X6_weight : oN mX6_weight 1 := (by decide +kernel : (parseMethodDescriptor (yX6_weight).desc).map (fun d => d.parameters.length) = some 1)
def mX6_marked : oM := (yX6_marked, cX6_marked, 4, some .int, 2, 45)
set_option maxRecDepth 100000 in
theorem kc_X6_marked : oMc mX6_marked := ⟨(oWL_t (n := 1037) rfl rfl), (oWL_t (n := 5) rfl rfl), by decide, by decide⟩
set_option maxRecDepth 100000 in
theorem ki_X6_marked : oMi mX6_marked := ⟨kc_X6_marked, (oWL_t (n := 1036) rfl rfl)⟩
set_option maxRecDepth 100000 in
theorem kv_X6_marked : oMv mX6_marked := ⟨ki_X6_marked, (oWL_p (n := 61) rfl rfl)⟩
theorem kn_X6_marked : oN mX6_marked 1 := (by decide +kernel : (parseMethodDescriptor (yX6_marked).desc).map (fun d => d.parameters.length) = some 1)
def mX6_ask : oM := (yX6_ask, cX6_ask, 3, some .int, 3, 68)
set_option maxRecDepth 100000 in
theorem kc_X6_ask : oMc mX6_ask := ⟨(oWL_t (n := 1025) rfl rfl), (oWL_t (n := 5) rfl rfl), by decide, by decide⟩
set_option maxRecDepth 100000 in
theorem ki_X6_ask : oMi mX6_ask := ⟨kc_X6_ask, (oWL_t (n := 1023) rfl rfl)⟩
set_option maxRecDepth 100000 in
theorem kv_X6_ask : oMv mX6_ask := ⟨ki_X6_ask, (oWL_t (n := 1024) rfl rfl)⟩
theorem kn_X6_ask : oN mX6_ask 2 := (by decide +kernel : (parseMethodDescriptor (yX6_ask).desc).map (fun d => d.parameters.length) = some 2)
def mX6_trace : oM := (yX6_trace, cX6_trace, 2, some .int, 1, 25)
set_option maxRecDepth 100000 in
theorem kc_X6_trace : oMc mX6_trace := ⟨(oWL_t (n := 1041) rfl rfl), (oWL_t (n := 5) rfl rfl), by decide, by decide⟩
set_option maxRecDepth 100000 in
theorem ki_X6_trace : oMi mX6_trace := ⟨kc_X6_trace, (oWL_t (n := 1039) rfl rfl)⟩
set_option maxRecDepth 100000 in
theorem kv_X6_trace : oMv mX6_trace := ⟨ki_X6_trace, (oWL_t (n := 1040) rfl rfl)⟩
theorem kn_X6_trace : oN mX6_trace 1 := (by decide +kernel : (parseMethodDescriptor (yX6_trace).desc).map (fun d => d.parameters.length) = some 1)
def mX6_count : oM := (yX6_count, cX6_count, 2, some .long, 3, 65)
set_option maxRecDepth 100000 in
theorem kc_X6_count : oMc mX6_count := ⟨(oWL_t (n := 1045) rfl rfl), (oWL_t (n := 5) rfl rfl), by decide, by decide⟩
set_option maxRecDepth 100000 in
theorem ki_X6_count : oMi mX6_count := ⟨kc_X6_count, (oWL_t (n := 1043) rfl rfl)⟩
set_option maxRecDepth 100000 in
theorem kv_X6_count : oMv mX6_count := ⟨ki_X6_count, (oWL_t (n := 1044) rfl rfl)⟩
theorem kn_X6_count : oN mX6_count 1 := (by decide +kernel : (parseMethodDescriptor (yX6_count).desc).map (fun d => d.parameters.length) = some 1)
def mJ6_bitCount_0f7a4 : oM := (yJ6_bitCount_0f7a4, cJ6_bitCount_0f7a4, 1, some .int, 0, 0)
set_option maxRecDepth 100000 in
theorem kc_J6_bitCount_0f7a4 : oMc mJ6_bitCount_0f7a4 := ⟨(oWL_t (n := 328) rfl rfl), (oWL_t (n := 9) rfl rfl), by decide, by decide⟩
set_option maxRecDepth 100000 in
theorem ks_J6_bitCount_0f7a4 : oMs mJ6_bitCount_0f7a4 := ⟨kc_J6_bitCount_0f7a4, (oWL_t (n := 327) rfl rfl)⟩
theorem kn_J6_bitCount_0f7a4 : oN mJ6_bitCount_0f7a4 1 := (by decide +kernel : (parseMethodDescriptor (yJ6_bitCount_0f7a4).desc).map (fun d => d.parameters.length) = some 1)
def mJ9_floorDiv_7cf53 : oM := (yJ9_floorDiv_7cf53, cJ9_floorDiv_7cf53, 3, some .int, 0, 0)
set_option maxRecDepth 100000 in
theorem kc_J9_floorDiv_7cf53 : oMc mJ9_floorDiv_7cf53 := ⟨(oWL_t (n := 446) rfl rfl), (oWL_t (n := 8) rfl rfl), by decide, by decide⟩
set_option maxRecDepth 100000 in
theorem ks_J9_floorDiv_7cf53 : oMs mJ9_floorDiv_7cf53 := ⟨kc_J9_floorDiv_7cf53, (oWL_t (n := 445) rfl rfl)⟩
theorem kn_J9_floorDiv_7cf53 : oN mJ9_floorDiv_7cf53 2 := (by decide +kernel : (parseMethodDescriptor (yJ9_floorDiv_7cf53).desc).map (fun d => d.parameters.length) = some 2)
def mJ9_abs_0f7a4 : oM := (yJ9_abs_0f7a4, cJ9_abs_0f7a4, 1, some .int, 0, 0)
set_option maxRecDepth 100000 in
theorem kc_J9_abs_0f7a4 : oMc mJ9_abs_0f7a4 := ⟨(oWL_t (n := 378) rfl rfl), (oWL_t (n := 8) rfl rfl), by decide, by decide⟩
set_option maxRecDepth 100000 in
theorem ks_J9_abs_0f7a4 : oMs mJ9_abs_0f7a4 := ⟨kc_J9_abs_0f7a4, (oWL_t (n := 377) rfl rfl)⟩
theorem kn_J9_abs_0f7a4 : oN mJ9_abs_0f7a4 1 := (by decide +kernel : (parseMethodDescriptor (yJ9_abs_0f7a4).desc).map (fun d => d.parameters.length) = some 1)
def mJ9_max_7cf53 : oM := (yJ9_max_7cf53, cJ9_max_7cf53, 2, some .int, 0, 0)
set_option maxRecDepth 100000 in
theorem kc_J9_max_7cf53 : oMc mJ9_max_7cf53 := ⟨(oWL_t (n := 277) rfl rfl), (oWL_t (n := 8) rfl rfl), by decide, by decide⟩
set_option maxRecDepth 100000 in
theorem ks_J9_max_7cf53 : oMs mJ9_max_7cf53 := ⟨kc_J9_max_7cf53, (oWL_t (n := 276) rfl rfl)⟩
theorem kn_J9_max_7cf53 : oN mJ9_max_7cf53 2 := (by decide +kernel : (parseMethodDescriptor (yJ9_max_7cf53).desc).map (fun d => d.parameters.length) = some 2)
def mJ9_min_7cf53 : oM := (yJ9_min_7cf53, cJ9_min_7cf53, 2, some .int, 0, 0)
set_option maxRecDepth 100000 in
theorem kc_J9_min_7cf53 : oMc mJ9_min_7cf53 := ⟨(oWL_t (n := 312) rfl rfl), (oWL_t (n := 8) rfl rfl), by decide, by decide⟩
set_option maxRecDepth 100000 in
theorem ks_J9_min_7cf53 : oMs mJ9_min_7cf53 := ⟨kc_J9_min_7cf53, (oWL_t (n := 311) rfl rfl)⟩
theorem kn_J9_min_7cf53 : oN mJ9_min_7cf53 2 := (by decide +kernel : (parseMethodDescriptor (yJ9_min_7cf53).desc).map (fun d => d.parameters.length) = some 2)
def mJ0_length_8abf5 : oM := (yJ0_length_8abf5, cJ0_length_8abf5, 1, some .int, 1, 20)
set_option maxRecDepth 100000 in
theorem kc_J0_length_8abf5 : oMc mJ0_length_8abf5 := ⟨(oWL_t (n := 495) rfl rfl), (oWL_t (n := 10) rfl rfl), by decide, by decide⟩
set_option maxRecDepth 100000 in
theorem ki_J0_length_8abf5 : oMi mJ0_length_8abf5 := ⟨kc_J0_length_8abf5, (oWL_t (n := 493) rfl rfl)⟩
set_option maxRecDepth 100000 in
theorem kv_J0_length_8abf5 : oMv mJ0_length_8abf5 := ⟨ki_J0_length_8abf5, (oWL_t (n := 494) rfl rfl)⟩
theorem kn_J0_length_8abf5 : oN mJ0_length_8abf5 0 := (by decide +kernel : (parseMethodDescriptor (yJ0_length_8abf5).desc).map (fun d => d.parameters.length) = some 0)
def mJ0_charAt_5068e : oM := (yJ0_charAt_5068e, cJ0_charAt_5068e, 2, some .char, 4, 85)
set_option maxRecDepth 100000 in
theorem kc_J0_charAt_5068e : oMc mJ0_charAt_5068e := ⟨(oWL_t (n := 505) rfl rfl), (oWL_t (n := 10) rfl rfl), by decide, by decide⟩
set_option maxRecDepth 100000 in
theorem ki_J0_charAt_5068e : oMi mJ0_charAt_5068e := ⟨kc_J0_charAt_5068e, (oWL_t (n := 503) rfl rfl)⟩
set_option maxRecDepth 100000 in
theorem kv_J0_charAt_5068e : oMv mJ0_charAt_5068e := ⟨ki_J0_charAt_5068e, (oWL_t (n := 504) rfl rfl)⟩
theorem kn_J0_charAt_5068e : oN mJ0_charAt_5068e 1 := (by decide +kernel : (parseMethodDescriptor (yJ0_charAt_5068e).desc).map (fun d => d.parameters.length) = some 1)
def mJ0_coder_7d493 : oM := (yJ0_coder_7d493, cJ0_coder_7d493, 1, some .byte, 0, 0)
set_option maxRecDepth 100000 in
theorem kc_J0_coder_7d493 : oMc mJ0_coder_7d493 := ⟨(oWL_t (n := 499) rfl rfl), (oWL_t (n := 10) rfl rfl), by decide, by decide⟩
set_option maxRecDepth 100000 in
theorem ki_J0_coder_7d493 : oMi mJ0_coder_7d493 := ⟨kc_J0_coder_7d493, (oWL_t (n := 497) rfl rfl)⟩
set_option maxRecDepth 100000 in
theorem kv_J0_coder_7d493 : oMv mJ0_coder_7d493 := ⟨ki_J0_coder_7d493, (oWL_t (n := 498) rfl rfl)⟩
theorem kn_J0_coder_7d493 : oN mJ0_coder_7d493 0 := (by decide +kernel : (parseMethodDescriptor (yJ0_coder_7d493).desc).map (fun d => d.parameters.length) = some 0)
def mJ0_isLatin1_aae02 : oM := (yJ0_isLatin1_aae02, cJ0_isLatin1_aae02, 1, some .boolean, 0, 0)
set_option maxRecDepth 100000 in
theorem kc_J0_isLatin1_aae02 : oMc mJ0_isLatin1_aae02 := ⟨(oWL_t (n := 509) rfl rfl), (oWL_t (n := 10) rfl rfl), by decide, by decide⟩
set_option maxRecDepth 100000 in
theorem ki_J0_isLatin1_aae02 : oMi mJ0_isLatin1_aae02 := ⟨kc_J0_isLatin1_aae02, (oWL_t (n := 507) rfl rfl)⟩
set_option maxRecDepth 100000 in
theorem kv_J0_isLatin1_aae02 : oMv mJ0_isLatin1_aae02 := ⟨ki_J0_isLatin1_aae02, (oWL_t (n := 508) rfl rfl)⟩
theorem kn_J0_isLatin1_aae02 : oN mJ0_isLatin1_aae02 0 := (by decide +kernel : (parseMethodDescriptor (yJ0_isLatin1_aae02).desc).map (fun d => d.parameters.length) = some 0)
def mJ0_checkIndex_df160 : oM := (yJ0_checkIndex_df160, cJ0_checkIndex_df160, 2, none, 1, 22)
set_option maxRecDepth 100000 in
theorem kc_J0_checkIndex_df160 : oMc mJ0_checkIndex_df160 := ⟨(oWL_t (n := 515) rfl rfl), (oWL_t (n := 10) rfl rfl), by decide, by decide⟩
set_option maxRecDepth 100000 in
theorem ks_J0_checkIndex_df160 : oMs mJ0_checkIndex_df160 := ⟨kc_J0_checkIndex_df160, (oWL_t (n := 514) rfl rfl)⟩
theorem kn_J0_checkIndex_df160 : oN mJ0_checkIndex_df160 2 := (by decide +kernel : (parseMethodDescriptor (yJ0_checkIndex_df160).desc).map (fun d => d.parameters.length) = some 2)
def mJ1_charAt_3b067 : oM := (yJ1_charAt_3b067, cJ1_charAt_3b067, 2, some .char, 2, 43)
set_option maxRecDepth 100000 in
theorem kc_J1_charAt_3b067 : oMc mJ1_charAt_3b067 := ⟨(oWL_t (n := 512) rfl rfl), (oWL_t (n := 11) rfl rfl), by decide, by decide⟩
set_option maxRecDepth 100000 in
theorem ks_J1_charAt_3b067 : oMs mJ1_charAt_3b067 := ⟨kc_J1_charAt_3b067, (oWL_t (n := 511) rfl rfl)⟩
theorem kn_J1_charAt_3b067 : oN mJ1_charAt_3b067 2 := (by decide +kernel : (parseMethodDescriptor (yJ1_charAt_3b067).desc).map (fun d => d.parameters.length) = some 2)
def mJ3_checkIndex_8e157 : oM := (yJ3_checkIndex_8e157, cJ3_checkIndex_8e157, 3, some .int, 0, 0)
set_option maxRecDepth 100000 in
theorem kc_J3_checkIndex_8e157 : oMc mJ3_checkIndex_8e157 := ⟨(oWL_t (n := 520) rfl rfl), (oWL_t (n := 12) rfl rfl), by decide, by decide⟩
set_option maxRecDepth 100000 in
theorem ks_J3_checkIndex_8e157 : oMs mJ3_checkIndex_8e157 := ⟨kc_J3_checkIndex_8e157, (oWL_t (n := 519) rfl rfl)⟩
theorem kn_J3_checkIndex_8e157 : oN mJ3_checkIndex_8e157 3 := (by decide +kernel : (parseMethodDescriptor (yJ3_checkIndex_8e157).desc).map (fun d => d.parameters.length) = some 3)
set_option maxRecDepth 100000 in
theorem fl_X0_9 : oFL RX0 9 0 0 (.array .int) := ⟨by decide, by decide, rfl, (oWL_t (n := 105) rfl rfl)⟩
set_option maxRecDepth 100000 in
theorem fl_X0_15 : oFL RX0 15 0 1 .int := ⟨by decide, by decide, rfl, (oWL_t (n := 106) rfl rfl)⟩
set_option maxRecDepth 100000 in
theorem fl_X0_52 : oFL RX0 52 1 8 .int := ⟨by decide, by decide, rfl, (oWL_t (n := 205) rfl rfl)⟩
set_option maxRecDepth 100000 in
theorem fl_X0_55 : oFL RX0 55 1 9 .int := ⟨by decide, by decide, rfl, (oWL_t (n := 208) rfl rfl)⟩
set_option maxRecDepth 100000 in
theorem fl_X0_58 : oFL RX0 58 1 10 .int := ⟨by decide, by decide, rfl, (oWL_t (n := 212) rfl rfl)⟩
set_option maxRecDepth 100000 in
theorem fl_X0_61 : oFL RX0 61 1 4 .int := ⟨by decide, by decide, rfl, (oWL_t (n := 197) rfl rfl)⟩
set_option maxRecDepth 100000 in
theorem fl_X0_64 : oFL RX0 64 1 2 .int := ⟨by decide, by decide, rfl, (oWL_t (n := 190) rfl rfl)⟩
set_option maxRecDepth 100000 in
theorem fl_X1_12 : oFL RX1 12 1 3 (.object "OilRound$Plan") := ⟨by decide, by decide, rfl, (oWL_t (n := 192) rfl rfl)⟩
set_option maxRecDepth 100000 in
theorem fl_X1_18 : oFL RX1 18 1 4 .int := ⟨by decide, by decide, rfl, (oWL_t (n := 195) rfl rfl)⟩
set_option maxRecDepth 100000 in
theorem fl_X1_22 : oFL RX1 22 1 5 .int := ⟨by decide, by decide, rfl, (oWL_t (n := 198) rfl rfl)⟩
set_option maxRecDepth 100000 in
theorem fl_X1_25 : oFL RX1 25 1 6 .int := ⟨by decide, by decide, rfl, (oWL_t (n := 200) rfl rfl)⟩
set_option maxRecDepth 100000 in
theorem fl_X1_28 : oFL RX1 28 1 7 .int := ⟨by decide, by decide, rfl, (oWL_t (n := 202) rfl rfl)⟩
set_option maxRecDepth 100000 in
theorem fl_X1_31 : oFL RX1 31 1 10 .int := ⟨by decide, by decide, rfl, (oWL_t (n := 210) rfl rfl)⟩
set_option maxRecDepth 100000 in
theorem fl_X1_34 : oFL RX1 34 1 11 .int := ⟨by decide, by decide, rfl, (oWL_t (n := 213) rfl rfl)⟩
set_option maxRecDepth 100000 in
theorem fl_X1_37 : oFL RX1 37 1 12 .boolean := ⟨by decide, by decide, rfl, (oWL_t (n := 215) rfl rfl)⟩
set_option maxRecDepth 100000 in
theorem fl_X1_41 : oFL RX1 41 1 13 .int := ⟨by decide, by decide, rfl, (oWL_t (n := 216) rfl rfl)⟩
set_option maxRecDepth 100000 in
theorem fl_X1_44 : oFL RX1 44 1 14 .int := ⟨by decide, by decide, rfl, (oWL_t (n := 218) rfl rfl)⟩
set_option maxRecDepth 100000 in
theorem fl_X1_47 : oFL RX1 47 1 0 .int := ⟨by decide, by decide, rfl, (oWL_t (n := 185) rfl rfl)⟩
set_option maxRecDepth 100000 in
theorem fl_X1_50 : oFL RX1 50 1 1 .int := ⟨by decide, by decide, rfl, (oWL_t (n := 187) rfl rfl)⟩
set_option maxRecDepth 100000 in
theorem fl_X1_53 : oFL RX1 53 1 2 .int := ⟨by decide, by decide, rfl, (oWL_t (n := 189) rfl rfl)⟩
set_option maxRecDepth 100000 in
theorem fl_X1_56 : oFL RX1 56 1 8 .int := ⟨by decide, by decide, rfl, (oWL_t (n := 204) rfl rfl)⟩
set_option maxRecDepth 100000 in
theorem fl_X1_59 : oFL RX1 59 1 9 .int := ⟨by decide, by decide, rfl, (oWL_t (n := 207) rfl rfl)⟩
set_option maxRecDepth 100000 in
theorem fl_X2_9 : oFL RX2 9 2 0 .int := ⟨by decide, by decide, rfl, (oWL_t (n := 175) rfl rfl)⟩
set_option maxRecDepth 100000 in
theorem fl_X2_15 : oFL RX2 15 2 1 .int := ⟨by decide, by decide, rfl, (oWL_t (n := 176) rfl rfl)⟩
set_option maxRecDepth 100000 in
theorem fl_X2_18 : oFL RX2 18 2 2 .int := ⟨by decide, by decide, rfl, (oWL_t (n := 177) rfl rfl)⟩
set_option maxRecDepth 100000 in
theorem fl_X3_11 : oFL RX3 11 3 0 (.array .byte) := ⟨by decide, by decide, rfl, (oWL_t (n := 59) rfl rfl)⟩
set_option maxRecDepth 100000 in
theorem fl_X3_15 : oFL RX3 15 3 1 .int := ⟨by decide, by decide, rfl, (oWL_t (n := 60) rfl rfl)⟩
set_option maxRecDepth 100000 in
theorem fl_X3_19 : oFL RX3 19 3 2 .int := ⟨by decide, by decide, rfl, (oWL_t (n := 62) rfl rfl)⟩
set_option maxRecDepth 100000 in
theorem fl_X3_22 : oFL RX3 22 3 3 .int := ⟨by decide, by decide, rfl, (oWL_t (n := 64) rfl rfl)⟩
set_option maxRecDepth 100000 in
theorem fl_X3_25 : oFL RX3 25 3 4 .int := ⟨by decide, by decide, rfl, (oWL_t (n := 65) rfl rfl)⟩
set_option maxRecDepth 100000 in
theorem fl_X3_28 : oFL RX3 28 3 5 .int := ⟨by decide, by decide, rfl, (oWL_t (n := 66) rfl rfl)⟩
set_option maxRecDepth 100000 in
theorem fl_X3_31 : oFL RX3 31 3 6 .int := ⟨by decide, by decide, rfl, (oWL_t (n := 67) rfl rfl)⟩
set_option maxRecDepth 100000 in
theorem fl_X3_34 : oFL RX3 34 3 7 .int := ⟨by decide, by decide, rfl, (oWL_t (n := 68) rfl rfl)⟩
set_option maxRecDepth 100000 in
theorem fl_X3_37 : oFL RX3 37 3 8 (.object "OilRound$House") := ⟨by decide, by decide, rfl, (oWL_t (n := 69) rfl rfl)⟩
set_option maxRecDepth 100000 in
theorem fl_X3_41 : oFL RX3 41 3 9 .int := ⟨by decide, by decide, rfl, (oWL_t (n := 70) rfl rfl)⟩
set_option maxRecDepth 100000 in
theorem fl_X3_44 : oFL RX3 44 3 10 .int := ⟨by decide, by decide, rfl, (oWL_t (n := 71) rfl rfl)⟩
set_option maxRecDepth 100000 in
theorem fl_X3_47 : oFL RX3 47 3 11 .int := ⟨by decide, by decide, rfl, (oWL_t (n := 72) rfl rfl)⟩
set_option maxRecDepth 100000 in
theorem fl_X3_63 : oFL RX3 63 1 3 (.object "OilRound$Plan") := ⟨by decide, by decide, rfl, (oWL_t (n := 193) rfl rfl)⟩
set_option maxRecDepth 100000 in
theorem fl_X4_9 : oFL RX4 9 4 0 (.array .int) := ⟨by decide, by decide, rfl, (oWL_t (n := 30) rfl rfl)⟩
set_option maxRecDepth 100000 in
theorem fl_X4_15 : oFL RX4 15 4 1 (.array .int) := ⟨by decide, by decide, rfl, (oWL_t (n := 31) rfl rfl)⟩
set_option maxRecDepth 100000 in
theorem fl_X4_18 : oFL RX4 18 4 2 (.array .int) := ⟨by decide, by decide, rfl, (oWL_t (n := 32) rfl rfl)⟩
set_option maxRecDepth 100000 in
theorem fl_X4_21 : oFL RX4 21 4 3 (.array .int) := ⟨by decide, by decide, rfl, (oWL_t (n := 33) rfl rfl)⟩
set_option maxRecDepth 100000 in
theorem fl_X4_24 : oFL RX4 24 4 4 (.array .int) := ⟨by decide, by decide, rfl, (oWL_t (n := 34) rfl rfl)⟩
set_option maxRecDepth 100000 in
theorem fl_X4_27 : oFL RX4 27 4 5 .int := ⟨by decide, by decide, rfl, (oWL_t (n := 35) rfl rfl)⟩
set_option maxRecDepth 100000 in
theorem fl_X4_31 : oFL RX4 31 4 6 .int := ⟨by decide, by decide, rfl, (oWL_t (n := 36) rfl rfl)⟩
set_option maxRecDepth 100000 in
theorem fl_X4_54 : oFL RX4 54 1 0 .int := ⟨by decide, by decide, rfl, (oWL_t (n := 186) rfl rfl)⟩
set_option maxRecDepth 100000 in
theorem fl_X4_59 : oFL RX4 59 1 1 .int := ⟨by decide, by decide, rfl, (oWL_t (n := 188) rfl rfl)⟩
set_option maxRecDepth 100000 in
theorem fl_X5_11 : oFL RX5 11 5 0 (.array (.object "OilRound$House")) := ⟨by decide, by decide, rfl, (oWL_t (n := 112) rfl rfl)⟩
set_option maxRecDepth 100000 in
theorem fl_X5_18 : oFL RX5 18 5 1 (.object "OilRound$Route") := ⟨by decide, by decide, rfl, (oWL_t (n := 113) rfl rfl)⟩
set_option maxRecDepth 100000 in
theorem fl_X5_25 : oFL RX5 25 5 2 (.object "OilRound$PlanText") := ⟨by decide, by decide, rfl, (oWL_t (n := 114) rfl rfl)⟩
set_option maxRecDepth 100000 in
theorem fl_X5_32 : oFL RX5 32 5 3 (.object "OilRound$Asks") := ⟨by decide, by decide, rfl, (oWL_t (n := 115) rfl rfl)⟩
set_option maxRecDepth 100000 in
theorem fl_X5_36 : oFL RX5 36 5 4 .int := ⟨by decide, by decide, rfl, (oWL_t (n := 116) rfl rfl)⟩
set_option maxRecDepth 100000 in
theorem fl_X5_40 : oFL RX5 40 5 5 .int := ⟨by decide, by decide, rfl, (oWL_t (n := 117) rfl rfl)⟩
set_option maxRecDepth 100000 in
theorem fl_X5_43 : oFL RX5 43 5 6 .int := ⟨by decide, by decide, rfl, (oWL_t (n := 118) rfl rfl)⟩
set_option maxRecDepth 100000 in
theorem fl_X5_46 : oFL RX5 46 5 7 .int := ⟨by decide, by decide, rfl, (oWL_t (n := 119) rfl rfl)⟩
set_option maxRecDepth 100000 in
theorem fl_X5_49 : oFL RX5 49 5 8 .int := ⟨by decide, by decide, rfl, (oWL_t (n := 120) rfl rfl)⟩
set_option maxRecDepth 100000 in
theorem fl_X5_52 : oFL RX5 52 5 9 .int := ⟨by decide, by decide, rfl, (oWL_t (n := 121) rfl rfl)⟩
set_option maxRecDepth 100000 in
theorem fl_X5_55 : oFL RX5 55 5 10 .int := ⟨by decide, by decide, rfl, (oWL_t (n := 122) rfl rfl)⟩
set_option maxRecDepth 100000 in
theorem fl_X5_58 : oFL RX5 58 5 11 .long := ⟨by decide, by decide, rfl, (oWL_t (n := 123) rfl rfl)⟩
set_option maxRecDepth 100000 in
theorem fl_X5_62 : oFL RX5 62 5 12 .long := ⟨by decide, by decide, rfl, (oWL_t (n := 124) rfl rfl)⟩
set_option maxRecDepth 100000 in
theorem fl_X5_65 : oFL RX5 65 5 13 .long := ⟨by decide, by decide, rfl, (oWL_t (n := 125) rfl rfl)⟩
set_option maxRecDepth 100000 in
theorem fl_X5_81 : oFL RX5 81 1 10 .int := ⟨by decide, by decide, rfl, (oWL_t (n := 211) rfl rfl)⟩
set_option maxRecDepth 100000 in
theorem fl_X5_84 : oFL RX5 84 1 13 .int := ⟨by decide, by decide, rfl, (oWL_t (n := 217) rfl rfl)⟩
set_option maxRecDepth 100000 in
theorem fl_X5_88 : oFL RX5 88 1 4 .int := ⟨by decide, by decide, rfl, (oWL_t (n := 196) rfl rfl)⟩
set_option maxRecDepth 100000 in
theorem fl_X5_91 : oFL RX5 91 1 5 .int := ⟨by decide, by decide, rfl, (oWL_t (n := 199) rfl rfl)⟩
set_option maxRecDepth 100000 in
theorem fl_X5_94 : oFL RX5 94 1 6 .int := ⟨by decide, by decide, rfl, (oWL_t (n := 201) rfl rfl)⟩
set_option maxRecDepth 100000 in
theorem fl_X5_97 : oFL RX5 97 1 7 .int := ⟨by decide, by decide, rfl, (oWL_t (n := 203) rfl rfl)⟩
set_option maxRecDepth 100000 in
theorem fl_X5_112 : oFL RX5 112 1 8 .int := ⟨by decide, by decide, rfl, (oWL_t (n := 206) rfl rfl)⟩
set_option maxRecDepth 100000 in
theorem fl_X5_115 : oFL RX5 115 1 9 .int := ⟨by decide, by decide, rfl, (oWL_t (n := 209) rfl rfl)⟩
set_option maxRecDepth 100000 in
theorem fl_X5_122 : oFL RX5 122 1 11 .int := ⟨by decide, by decide, rfl, (oWL_t (n := 214) rfl rfl)⟩
set_option maxRecDepth 100000 in
theorem fl_X5_125 : oFL RX5 125 1 14 .int := ⟨by decide, by decide, rfl, (oWL_t (n := 219) rfl rfl)⟩
set_option maxRecDepth 100000 in
theorem fl_X5_161 : oFL RX5 161 1 2 .int := ⟨by decide, by decide, rfl, (oWL_t (n := 191) rfl rfl)⟩
set_option maxRecDepth 100000 in
theorem fl_X5_164 : oFL RX5 164 1 3 (.object "OilRound$Plan") := ⟨by decide, by decide, rfl, (oWL_t (n := 194) rfl rfl)⟩
set_option maxRecDepth 100000 in
theorem fl_X5_188 : oFL RX5 188 3 2 .int := ⟨by decide, by decide, rfl, (oWL_t (n := 63) rfl rfl)⟩
set_option maxRecDepth 100000 in
theorem fl_X5_211 : oFL RX5 211 3 1 .int := ⟨by decide, by decide, rfl, (oWL_t (n := 61) rfl rfl)⟩
set_option maxRecDepth 100000 in
theorem fl_X6_7 : oFL RX6 7 6 2 (.array .int) := ⟨by decide, by decide, rfl, (oWL_t (n := 677) rfl rfl)⟩
set_option maxRecDepth 100000 in
theorem fl_X6_13 : oFL RX6 13 6 3 (.array .int) := ⟨by decide, by decide, rfl, (oWL_t (n := 678) rfl rfl)⟩
set_option maxRecDepth 100000 in
theorem fl_X6_16 : oFL RX6 16 6 4 (.array .int) := ⟨by decide, by decide, rfl, (oWL_t (n := 679) rfl rfl)⟩
set_option maxRecDepth 100000 in
theorem fl_X6_19 : oFL RX6 19 6 5 (.array .int) := ⟨by decide, by decide, rfl, (oWL_t (n := 680) rfl rfl)⟩
set_option maxRecDepth 100000 in
theorem fl_X6_22 : oFL RX6 22 6 6 (.array .int) := ⟨by decide, by decide, rfl, (oWL_t (n := 681) rfl rfl)⟩
set_option maxRecDepth 100000 in
theorem fl_X6_25 : oFL RX6 25 6 7 (.array .int) := ⟨by decide, by decide, rfl, (oWL_t (n := 682) rfl rfl)⟩
set_option maxRecDepth 100000 in
theorem fl_X6_28 : oFL RX6 28 6 8 (.array .int) := ⟨by decide, by decide, rfl, (oWL_t (n := 683) rfl rfl)⟩
set_option maxRecDepth 100000 in
theorem fl_X6_31 : oFL RX6 31 6 9 (.array .int) := ⟨by decide, by decide, rfl, (oWL_t (n := 684) rfl rfl)⟩
set_option maxRecDepth 100000 in
theorem fl_X6_34 : oFL RX6 34 6 10 (.array .boolean) := ⟨by decide, by decide, rfl, (oWL_t (n := 685) rfl rfl)⟩
set_option maxRecDepth 100000 in
theorem fl_X6_38 : oFL RX6 38 6 11 (.array .int) := ⟨by decide, by decide, rfl, (oWL_t (n := 686) rfl rfl)⟩
set_option maxRecDepth 100000 in
theorem fl_X6_41 : oFL RX6 41 6 12 (.array .int) := ⟨by decide, by decide, rfl, (oWL_t (n := 687) rfl rfl)⟩
set_option maxRecDepth 100000 in
theorem fl_X6_44 : oFL RX6 44 6 13 (.array .int) := ⟨by decide, by decide, rfl, (oWL_t (n := 688) rfl rfl)⟩
set_option maxRecDepth 100000 in
theorem fl_X6_47 : oFL RX6 47 6 14 (.array .int) := ⟨by decide, by decide, rfl, (oWL_t (n := 689) rfl rfl)⟩
set_option maxRecDepth 100000 in
theorem fl_X6_50 : oFL RX6 50 6 15 (.array .int) := ⟨by decide, by decide, rfl, (oWL_t (n := 690) rfl rfl)⟩
set_option maxRecDepth 100000 in
theorem fl_X6_53 : oFL RX6 53 6 17 .int := ⟨by decide, by decide, rfl, (oWL_t (n := 692) rfl rfl)⟩
set_option maxRecDepth 100000 in
theorem fl_X6_57 : oFL RX6 57 6 18 .int := ⟨by decide, by decide, rfl, (oWL_t (n := 693) rfl rfl)⟩
set_option maxRecDepth 100000 in
theorem fl_X6_60 : oFL RX6 60 6 20 .int := ⟨by decide, by decide, rfl, (oWL_t (n := 695) rfl rfl)⟩
set_option maxRecDepth 100000 in
theorem fl_X6_63 : oFL RX6 63 6 21 .int := ⟨by decide, by decide, rfl, (oWL_t (n := 696) rfl rfl)⟩
set_option maxRecDepth 100000 in
theorem fl_X6_66 : oFL RX6 66 6 25 (.array .int) := ⟨by decide, by decide, rfl, (oWL_t (n := 700) rfl rfl)⟩
set_option maxRecDepth 100000 in
theorem fl_X6_69 : oFL RX6 69 6 27 (.array .int) := ⟨by decide, by decide, rfl, (oWL_t (n := 702) rfl rfl)⟩
set_option maxRecDepth 100000 in
theorem fl_X6_72 : oFL RX6 72 6 28 (.array .int) := ⟨by decide, by decide, rfl, (oWL_t (n := 703) rfl rfl)⟩
set_option maxRecDepth 100000 in
theorem fl_X6_75 : oFL RX6 75 6 39 (.array .int) := ⟨by decide, by decide, rfl, (oWL_t (n := 714) rfl rfl)⟩
set_option maxRecDepth 100000 in
theorem fl_X6_78 : oFL RX6 78 6 40 (.array .int) := ⟨by decide, by decide, rfl, (oWL_t (n := 715) rfl rfl)⟩
set_option maxRecDepth 100000 in
theorem fl_X6_81 : oFL RX6 81 6 41 (.array .int) := ⟨by decide, by decide, rfl, (oWL_t (n := 716) rfl rfl)⟩
set_option maxRecDepth 100000 in
theorem fl_X6_84 : oFL RX6 84 6 42 (.array .int) := ⟨by decide, by decide, rfl, (oWL_t (n := 717) rfl rfl)⟩
set_option maxRecDepth 100000 in
theorem fl_X6_87 : oFL RX6 87 6 43 (.array .int) := ⟨by decide, by decide, rfl, (oWL_t (n := 718) rfl rfl)⟩
set_option maxRecDepth 100000 in
theorem fl_X6_90 : oFL RX6 90 6 0 .int := ⟨by decide, by decide, rfl, (oWL_t (n := 675) rfl rfl)⟩
set_option maxRecDepth 100000 in
theorem fl_X6_93 : oFL RX6 93 6 1 .int := ⟨by decide, by decide, rfl, (oWL_t (n := 676) rfl rfl)⟩
set_option maxRecDepth 100000 in
theorem fl_X6_115 : oFL RX6 115 6 16 .int := ⟨by decide, by decide, rfl, (oWL_t (n := 691) rfl rfl)⟩
set_option maxRecDepth 100000 in
theorem fl_X6_134 : oFL RX6 134 6 19 .int := ⟨by decide, by decide, rfl, (oWL_t (n := 694) rfl rfl)⟩
set_option maxRecDepth 100000 in
theorem fl_X6_139 : oFL RX6 139 6 22 .long := ⟨by decide, by decide, rfl, (oWL_t (n := 697) rfl rfl)⟩
set_option maxRecDepth 100000 in
theorem fl_X6_150 : oFL RX6 150 6 26 .int := ⟨by decide, by decide, rfl, (oWL_t (n := 701) rfl rfl)⟩
set_option maxRecDepth 100000 in
theorem fl_X6_187 : oFL RX6 187 6 23 .long := ⟨by decide, by decide, rfl, (oWL_t (n := 698) rfl rfl)⟩
set_option maxRecDepth 100000 in
theorem fl_X6_190 : oFL RX6 190 6 24 .long := ⟨by decide, by decide, rfl, (oWL_t (n := 699) rfl rfl)⟩
set_option maxRecDepth 100000 in
theorem fl_X6_201 : oFL RX6 201 6 29 .int := ⟨by decide, by decide, rfl, (oWL_t (n := 704) rfl rfl)⟩
set_option maxRecDepth 100000 in
theorem fl_X6_206 : oFL RX6 206 6 31 .int := ⟨by decide, by decide, rfl, (oWL_t (n := 706) rfl rfl)⟩
set_option maxRecDepth 100000 in
theorem fl_X6_209 : oFL RX6 209 6 32 .int := ⟨by decide, by decide, rfl, (oWL_t (n := 707) rfl rfl)⟩
set_option maxRecDepth 100000 in
theorem fl_X6_215 : oFL RX6 215 6 34 .int := ⟨by decide, by decide, rfl, (oWL_t (n := 709) rfl rfl)⟩
set_option maxRecDepth 100000 in
theorem fl_X6_218 : oFL RX6 218 6 33 .int := ⟨by decide, by decide, rfl, (oWL_t (n := 708) rfl rfl)⟩
set_option maxRecDepth 100000 in
theorem fl_X6_227 : oFL RX6 227 6 35 .int := ⟨by decide, by decide, rfl, (oWL_t (n := 710) rfl rfl)⟩
set_option maxRecDepth 100000 in
theorem fl_X6_230 : oFL RX6 230 6 36 .int := ⟨by decide, by decide, rfl, (oWL_t (n := 711) rfl rfl)⟩
set_option maxRecDepth 100000 in
theorem fl_X6_233 : oFL RX6 233 6 37 .int := ⟨by decide, by decide, rfl, (oWL_t (n := 712) rfl rfl)⟩
set_option maxRecDepth 100000 in
theorem fl_X6_265 : oFL RX6 265 6 38 .int := ⟨by decide, by decide, rfl, (oWL_t (n := 713) rfl rfl)⟩
set_option maxRecDepth 100000 in
theorem fl_X6_271 : oFL RX6 271 6 30 .int := ⟨by decide, by decide, rfl, (oWL_t (n := 705) rfl rfl)⟩
set_option maxRecDepth 100000 in
theorem fl_X6_281 : oFL RX6 281 6 44 .int := ⟨by decide, by decide, rfl, (oWL_t (n := 719) rfl rfl)⟩
set_option maxRecDepth 100000 in
theorem cl_J0_335 : Cond.methodLink RJ0 335 yJ0_coder_7d493 ∈ oWL := (oWL_t (n := 496) rfl rfl)
set_option maxRecDepth 100000 in
theorem cl_J0_492 : Cond.methodLink RJ0 492 yJ0_isLatin1_aae02 ∈ oWL := (oWL_t (n := 506) rfl rfl)
set_option maxRecDepth 100000 in
theorem cl_J0_495 : Cond.methodLink RJ0 495 yJ1_charAt_3b067 ∈ oWL := (oWL_t (n := 510) rfl rfl)
set_option maxRecDepth 100000 in
theorem cl_J0_1059 : Cond.methodLink RJ0 1059 yJ3_checkIndex_8e157 ∈ oWL := (oWL_t (n := 518) rfl rfl)
set_option maxRecDepth 100000 in
theorem cl_J1_9 : Cond.methodLink RJ1 9 yJ0_checkIndex_df160 ∈ oWL := (oWL_t (n := 513) rfl rfl)
set_option maxRecDepth 100000 in
theorem cl_L_9 : Cond.methodLink RL 9 yX5_init ∈ oWL := (oWL_t (n := 16) rfl rfl)
set_option maxRecDepth 100000 in
theorem cl_L_12 : Cond.methodLink RL 12 yX6_init ∈ oWL := (oWL_t (n := 671) rfl rfl)
set_option maxRecDepth 100000 in
theorem cl_L_13 : Cond.methodLink RL 13 yX5_house ∈ oWL := (oWL_t (n := 155) rfl rfl)
set_option maxRecDepth 100000 in
theorem cl_L_17 : Cond.methodLink RL 17 yX6_house ∈ oWL := (oWL_t (n := 812) rfl rfl)
set_option maxRecDepth 100000 in
theorem cl_L_18 : Cond.methodLink RL 18 yX5_prior ∈ oWL := (oWL_t (n := 251) rfl rfl)
set_option maxRecDepth 100000 in
theorem cl_L_22 : Cond.methodLink RL 22 yX6_prior ∈ oWL := (oWL_t (n := 824) rfl rfl)
set_option maxRecDepth 100000 in
theorem cl_L_23 : Cond.methodLink RL 23 yX5_day ∈ oWL := (oWL_t (n := 263) rfl rfl)
set_option maxRecDepth 100000 in
theorem cl_L_27 : Cond.methodLink RL 27 yX6_day ∈ oWL := (oWL_t (n := 833) rfl rfl)
set_option maxRecDepth 100000 in
theorem cl_L_28 : Cond.methodLink RL 28 yX5_look ∈ oWL := (oWL_t (n := 286) rfl rfl)
set_option maxRecDepth 100000 in
theorem cl_L_32 : Cond.methodLink RL 32 yX6_look ∈ oWL := (oWL_t (n := 846) rfl rfl)
set_option maxRecDepth 100000 in
theorem cl_L_33 : Cond.methodLink RL 33 yX5_told ∈ oWL := (oWL_t (n := 298) rfl rfl)
set_option maxRecDepth 100000 in
theorem cl_L_36 : Cond.methodLink RL 36 yX6_told ∈ oWL := (oWL_t (n := 859) rfl rfl)
set_option maxRecDepth 100000 in
theorem cl_L_37 : Cond.methodLink RL 37 yX5_lasts ∈ oWL := (oWL_t (n := 302) rfl rfl)
set_option maxRecDepth 100000 in
theorem cl_L_40 : Cond.methodLink RL 40 yX6_lasts ∈ oWL := (oWL_t (n := 863) rfl rfl)
set_option maxRecDepth 100000 in
theorem cl_L_41 : Cond.methodLink RL 41 yX5_stock ∈ oWL := (oWL_t (n := 313) rfl rfl)
set_option maxRecDepth 100000 in
theorem cl_L_44 : Cond.methodLink RL 44 yX6_stock ∈ oWL := (oWL_t (n := 867) rfl rfl)
set_option maxRecDepth 100000 in
theorem cl_L_45 : Cond.methodLink RL 45 yX5_lorry ∈ oWL := (oWL_t (n := 318) rfl rfl)
set_option maxRecDepth 100000 in
theorem cl_L_48 : Cond.methodLink RL 48 yX6_lorry ∈ oWL := (oWL_t (n := 872) rfl rfl)
set_option maxRecDepth 100000 in
theorem cl_L_49 : Cond.methodLink RL 49 yX5_calls ∈ oWL := (oWL_t (n := 322) rfl rfl)
set_option maxRecDepth 100000 in
theorem cl_L_53 : Cond.methodLink RL 53 yX6_calls ∈ oWL := (oWL_t (n := 877) rfl rfl)
set_option maxRecDepth 100000 in
theorem cl_L_54 : Cond.methodLink RL 54 yX5_round ∈ oWL := (oWL_t (n := 345) rfl rfl)
set_option maxRecDepth 100000 in
theorem cl_L_57 : Cond.methodLink RL 57 yX6_round ∈ oWL := (oWL_t (n := 886) rfl rfl)
set_option maxRecDepth 100000 in
theorem cl_L_58 : Cond.methodLink RL 58 yX5_stop ∈ oWL := (oWL_t (n := 401) rfl rfl)
set_option maxRecDepth 100000 in
theorem cl_L_61 : Cond.methodLink RL 61 yX6_stop ∈ oWL := (oWL_t (n := 914) rfl rfl)
set_option maxRecDepth 100000 in
theorem cl_L_62 : Cond.methodLink RL 62 yX5_fill ∈ oWL := (oWL_t (n := 409) rfl rfl)
set_option maxRecDepth 100000 in
theorem cl_L_65 : Cond.methodLink RL 65 yX6_fill ∈ oWL := (oWL_t (n := 918) rfl rfl)
set_option maxRecDepth 100000 in
theorem cl_L_66 : Cond.methodLink RL 66 yX5_price ∈ oWL := (oWL_t (n := 447) rfl rfl)
set_option maxRecDepth 100000 in
theorem cl_L_69 : Cond.methodLink RL 69 yX6_price ∈ oWL := (oWL_t (n := 942) rfl rfl)
set_option maxRecDepth 100000 in
theorem cl_L_72 : Cond.methodLink RL 72 yX5_feed ∈ oWL := (oWL_t (n := 451) rfl rfl)
set_option maxRecDepth 100000 in
theorem cl_L_76 : Cond.methodLink RL 76 yX6_feed ∈ oWL := (oWL_t (n := 951) rfl rfl)
set_option maxRecDepth 100000 in
theorem cl_L_77 : Cond.methodLink RL 77 yX5_plans ∈ oWL := (oWL_t (n := 460) rfl rfl)
set_option maxRecDepth 100000 in
theorem cl_L_80 : Cond.methodLink RL 80 yX6_plans ∈ oWL := (oWL_t (n := 957) rfl rfl)
set_option maxRecDepth 100000 in
theorem cl_L_81 : Cond.methodLink RL 81 yX5_fault ∈ oWL := (oWL_t (n := 568) rfl rfl)
set_option maxRecDepth 100000 in
theorem cl_L_84 : Cond.methodLink RL 84 yX6_fault ∈ oWL := (oWL_t (n := 1004) rfl rfl)
set_option maxRecDepth 100000 in
theorem cl_L_85 : Cond.methodLink RL 85 yX5_quote ∈ oWL := (oWL_t (n := 572) rfl rfl)
set_option maxRecDepth 100000 in
theorem cl_L_88 : Cond.methodLink RL 88 yX6_quote ∈ oWL := (oWL_t (n := 947) rfl rfl)
set_option maxRecDepth 100000 in
theorem cl_L_89 : Cond.methodLink RL 89 yX5_kind ∈ oWL := (oWL_t (n := 576) rfl rfl)
set_option maxRecDepth 100000 in
theorem cl_L_92 : Cond.methodLink RL 92 yX6_kind ∈ oWL := (oWL_t (n := 1008) rfl rfl)
set_option maxRecDepth 100000 in
theorem cl_L_93 : Cond.methodLink RL 93 yX5_as ∈ oWL := (oWL_t (n := 596) rfl rfl)
set_option maxRecDepth 100000 in
theorem cl_L_96 : Cond.methodLink RL 96 yX6_as ∈ oWL := (oWL_t (n := 1016) rfl rfl)
set_option maxRecDepth 100000 in
theorem cl_L_97 : Cond.methodLink RL 97 yX5_ask ∈ oWL := (oWL_t (n := 605) rfl rfl)
set_option maxRecDepth 100000 in
theorem cl_L_100 : Cond.methodLink RL 100 yX6_ask ∈ oWL := (oWL_t (n := 1022) rfl rfl)
set_option maxRecDepth 100000 in
theorem cl_L_101 : Cond.methodLink RL 101 yX5_trace ∈ oWL := (oWL_t (n := 655) rfl rfl)
set_option maxRecDepth 100000 in
theorem cl_L_104 : Cond.methodLink RL 104 yX6_trace ∈ oWL := (oWL_t (n := 1038) rfl rfl)
set_option maxRecDepth 100000 in
theorem cl_L_105 : Cond.methodLink RL 105 yX5_count ∈ oWL := (oWL_t (n := 664) rfl rfl)
set_option maxRecDepth 100000 in
theorem cl_L_109 : Cond.methodLink RL 109 yX6_count ∈ oWL := (oWL_t (n := 1042) rfl rfl)
set_option maxRecDepth 100000 in
theorem cl_X0_3 : Cond.methodLink RX0 3 Lib.objectInit ∈ oWL := (oWL_t (n := 104) rfl rfl)
set_option maxRecDepth 100000 in
theorem cl_X0_20 : Cond.methodLink RX0 20 yX1_toldKind ∈ oWL := (oWL_t (n := 617) rfl rfl)
set_option maxRecDepth 100000 in
theorem cl_X0_26 : Cond.methodLink RX0 26 yX0_leakyWeight ∈ oWL := (oWL_t (n := 618) rfl rfl)
set_option maxRecDepth 100000 in
theorem cl_X0_30 : Cond.methodLink RX0 30 yX0_steadyWeight ∈ oWL := (oWL_t (n := 630) rfl rfl)
set_option maxRecDepth 100000 in
theorem cl_X0_33 : Cond.methodLink RX0 33 yX0_knownWeight ∈ oWL := (oWL_t (n := 634) rfl rfl)
set_option maxRecDepth 100000 in
theorem cl_X0_36 : Cond.methodLink RX0 36 yX0_lentWeight ∈ oWL := (oWL_t (n := 626) rfl rfl)
set_option maxRecDepth 100000 in
theorem cl_X0_39 : Cond.methodLink RX0 39 yX0_leakyMark ∈ oWL := (oWL_t (n := 642) rfl rfl)
set_option maxRecDepth 100000 in
theorem cl_X0_42 : Cond.methodLink RX0 42 yX0_knownMark ∈ oWL := (oWL_t (n := 651) rfl rfl)
set_option maxRecDepth 100000 in
theorem cl_X0_45 : Cond.methodLink RX0 45 yX0_lentMark ∈ oWL := (oWL_t (n := 646) rfl rfl)
set_option maxRecDepth 100000 in
theorem cl_X0_48 : Cond.methodLink RX0 48 yX0_begin ∈ oWL := (oWL_t (n := 622) rfl rfl)
set_option maxRecDepth 100000 in
theorem cl_X0_67 : Cond.methodLink RX0 67 yX0_weight ∈ oWL := (oWL_t (n := 650) rfl rfl)
set_option maxRecDepth 100000 in
theorem cl_X1_3 : Cond.methodLink RX1 3 Lib.objectInit ∈ oWL := (oWL_t (n := 168) rfl rfl)
set_option maxRecDepth 100000 in
theorem cl_X1_62 : Cond.methodLink RX1 62 yX1_low ∈ oWL := (oWL_t (n := 271) rfl rfl)
set_option maxRecDepth 100000 in
theorem cl_X1_66 : Cond.methodLink RX1 66 yJ9_max_7cf53 ∈ oWL := (oWL_t (n := 275) rfl rfl)
set_option maxRecDepth 100000 in
theorem cl_X1_72 : Cond.methodLink RX1 72 yX1_high ∈ oWL := (oWL_t (n := 278) rfl rfl)
set_option maxRecDepth 100000 in
theorem cl_X1_75 : Cond.methodLink RX1 75 yJ9_min_7cf53 ∈ oWL := (oWL_t (n := 310) rfl rfl)
set_option maxRecDepth 100000 in
theorem cl_X1_78 : Cond.methodLink RX1 78 yX1_noteOf ∈ oWL := (oWL_t (n := 430) rfl rfl)
set_option maxRecDepth 100000 in
theorem cl_X1_81 : Cond.methodLink RX1 81 yX1_narrow ∈ oWL := (oWL_t (n := 434) rfl rfl)
set_option maxRecDepth 100000 in
theorem cl_X1_85 : Cond.methodLink RX1 85 yX1_cut ∈ oWL := (oWL_t (n := 438) rfl rfl)
set_option maxRecDepth 100000 in
theorem cl_X1_88 : Cond.methodLink RX1 88 yX1_roundedUp ∈ oWL := (oWL_t (n := 441) rfl rfl)
set_option maxRecDepth 100000 in
theorem cl_X1_91 : Cond.methodLink RX1 91 yJ9_floorDiv_7cf53 ∈ oWL := (oWL_t (n := 444) rfl rfl)
set_option maxRecDepth 100000 in
theorem cl_X1_94 : Cond.methodLink RX1 94 yX1_isKnown ∈ oWL := (oWL_t (n := 592) rfl rfl)
set_option maxRecDepth 100000 in
theorem cl_X1_98 : Cond.methodLink RX1 98 yX1_isSteady ∈ oWL := (oWL_t (n := 588) rfl rfl)
set_option maxRecDepth 100000 in
theorem cl_X1_101 : Cond.methodLink RX1 101 yX1_isLeaky ∈ oWL := (oWL_t (n := 584) rfl rfl)
set_option maxRecDepth 100000 in
theorem cl_X2_3 : Cond.methodLink RX2 3 Lib.objectInit ∈ oWL := (oWL_t (n := 174) rfl rfl)
set_option maxRecDepth 100000 in
theorem cl_X2_21 : Cond.methodLink RX2 21 yJ9_min_7cf53 ∈ oWL := (oWL_t (n := 417) rfl rfl)
set_option maxRecDepth 100000 in
theorem cl_X2_27 : Cond.methodLink RX2 27 yX2_ahead ∈ oWL := (oWL_t (n := 418) rfl rfl)
set_option maxRecDepth 100000 in
theorem cl_X3_3 : Cond.methodLink RX3 3 Lib.objectInit ∈ oWL := (oWL_t (n := 58) rfl rfl)
set_option maxRecDepth 100000 in
theorem cl_X3_51 : Cond.methodLink RX3 51 yX3_readOnce ∈ oWL := (oWL_t (n := 468) rfl rfl)
set_option maxRecDepth 100000 in
theorem cl_X3_55 : Cond.methodLink RX3 55 yX3_readToken ∈ oWL := (oWL_t (n := 472) rfl rfl)
set_option maxRecDepth 100000 in
theorem cl_X3_58 : Cond.methodLink RX3 58 yX3_takeToken ∈ oWL := (oWL_t (n := 550) rfl rfl)
set_option maxRecDepth 100000 in
theorem cl_X3_69 : Cond.methodLink RX3 69 yX2_become ∈ oWL := (oWL_t (n := 564) rfl rfl)
set_option maxRecDepth 100000 in
theorem cl_X3_75 : Cond.methodLink RX3 75 yX3_canStandHere ∈ oWL := (oWL_t (n := 554) rfl rfl)
set_option maxRecDepth 100000 in
theorem cl_X3_83 : Cond.methodLink RX3 83 yX3_takeWay ∈ oWL := (oWL_t (n := 559) rfl rfl)
set_option maxRecDepth 100000 in
theorem cl_X3_86 : Cond.methodLink RX3 86 yX3_byteAt ∈ oWL := (oWL_t (n := 476) rfl rfl)
set_option maxRecDepth 100000 in
theorem cl_X3_90 : Cond.methodLink RX3 90 yX3_isLetter ∈ oWL := (oWL_t (n := 480) rfl rfl)
set_option maxRecDepth 100000 in
theorem cl_X3_94 : Cond.methodLink RX3 94 yX3_nameToken ∈ oWL := (oWL_t (n := 483) rfl rfl)
set_option maxRecDepth 100000 in
theorem cl_X3_98 : Cond.methodLink RX3 98 yX3_isFigure ∈ oWL := (oWL_t (n := 543) rfl rfl)
set_option maxRecDepth 100000 in
theorem cl_X3_101 : Cond.methodLink RX3 101 yX3_numberToken ∈ oWL := (oWL_t (n := 546) rfl rfl)
set_option maxRecDepth 100000 in
theorem cl_X3_106 : Cond.methodLink RX3 106 yX3_isName ∈ oWL := (oWL_t (n := 488) rfl rfl)
set_option maxRecDepth 100000 in
theorem cl_X3_116 : Cond.methodLink RX3 116 yJ0_length_8abf5 ∈ oWL := (oWL_t (n := 492) rfl rfl)
set_option maxRecDepth 100000 in
theorem cl_X3_121 : Cond.methodLink RX3 121 yJ0_charAt_5068e ∈ oWL := (oWL_t (n := 502) rfl rfl)
set_option maxRecDepth 100000 in
theorem cl_X4_3 : Cond.methodLink RX4 3 Lib.objectInit ∈ oWL := (oWL_t (n := 29) rfl rfl)
set_option maxRecDepth 100000 in
theorem cl_X4_34 : Cond.methodLink RX4 34 yX4_leastAt ∈ oWL := (oWL_t (n := 383) rfl rfl)
set_option maxRecDepth 100000 in
theorem cl_X4_39 : Cond.methodLink RX4 39 yX4_gather ∈ oWL := (oWL_t (n := 361) rfl rfl)
set_option maxRecDepth 100000 in
theorem cl_X4_43 : Cond.methodLink RX4 43 yX4_measure ∈ oWL := (oWL_t (n := 366) rfl rfl)
set_option maxRecDepth 100000 in
theorem cl_X4_47 : Cond.methodLink RX4 47 yX4_arrange ∈ oWL := (oWL_t (n := 388) rfl rfl)
set_option maxRecDepth 100000 in
theorem cl_X4_62 : Cond.methodLink RX4 62 yX4_between ∈ oWL := (oWL_t (n := 370) rfl rfl)
set_option maxRecDepth 100000 in
theorem cl_X4_66 : Cond.methodLink RX4 66 yX4_wayBy ∈ oWL := (oWL_t (n := 379) rfl rfl)
set_option maxRecDepth 100000 in
theorem cl_X4_70 : Cond.methodLink RX4 70 yJ9_min_7cf53 ∈ oWL := (oWL_t (n := 387) rfl rfl)
set_option maxRecDepth 100000 in
theorem cl_X4_75 : Cond.methodLink RX4 75 yX4_firstNext ∈ oWL := (oWL_t (n := 392) rfl rfl)
set_option maxRecDepth 100000 in
theorem cl_X4_82 : Cond.methodLink RX4 82 yJ9_abs_0f7a4 ∈ oWL := (oWL_t (n := 376) rfl rfl)
set_option maxRecDepth 100000 in
theorem cl_X5_1 : Cond.methodLink RX5 1 Lib.objectInit ∈ oWL := (oWL_t (n := 19) rfl rfl)
set_option maxRecDepth 100000 in
theorem cl_X5_68 : Cond.methodLink RX5 68 yX5_isOutside ∈ oWL := (oWL_t (n := 159) rfl rfl)
set_option maxRecDepth 100000 in
theorem cl_X5_74 : Cond.methodLink RX5 74 yX1_init ∈ oWL := (oWL_t (n := 165) rfl rfl)
set_option maxRecDepth 100000 in
theorem cl_X5_77 : Cond.methodLink RX5 77 yX5_houseAt ∈ oWL := (oWL_t (n := 255) rfl rfl)
set_option maxRecDepth 100000 in
theorem cl_X5_100 : Cond.methodLink RX5 100 yX1_endDay ∈ oWL := (oWL_t (n := 267) rfl rfl)
set_option maxRecDepth 100000 in
theorem cl_X5_104 : Cond.methodLink RX5 104 yX1_isSafe ∈ oWL := (oWL_t (n := 282) rfl rfl)
set_option maxRecDepth 100000 in
theorem cl_X5_108 : Cond.methodLink RX5 108 yX5_countDue ∈ oWL := (oWL_t (n := 290) rfl rfl)
set_option maxRecDepth 100000 in
theorem cl_X5_118 : Cond.methodLink RX5 118 yX1_isDue ∈ oWL := (oWL_t (n := 294) rfl rfl)
set_option maxRecDepth 100000 in
theorem cl_X5_128 : Cond.methodLink RX5 128 yX1_daysAboveZero ∈ oWL := (oWL_t (n := 306) rfl rfl)
set_option maxRecDepth 100000 in
theorem cl_X5_133 : Cond.methodLink RX5 133 yJ6_bitCount_0f7a4 ∈ oWL := (oWL_t (n := 326) rfl rfl)
set_option maxRecDepth 100000 in
theorem cl_X5_138 : Cond.methodLink RX5 138 yX5_mostUrgent ∈ oWL := (oWL_t (n := 332) rfl rfl)
set_option maxRecDepth 100000 in
theorem cl_X5_141 : Cond.methodLink RX5 141 yX1_mayNeed ∈ oWL := (oWL_t (n := 341) rfl rfl)
set_option maxRecDepth 100000 in
theorem cl_X5_144 : Cond.methodLink RX5 144 yX5_isNoRound ∈ oWL := (oWL_t (n := 349) rfl rfl)
set_option maxRecDepth 100000 in
theorem cl_X5_148 : Cond.methodLink RX5 148 yX5_needOf ∈ oWL := (oWL_t (n := 353) rfl rfl)
set_option maxRecDepth 100000 in
theorem cl_X5_151 : Cond.methodLink RX5 151 yX4_prepare ∈ oWL := (oWL_t (n := 357) rfl rfl)
set_option maxRecDepth 100000 in
theorem cl_X5_155 : Cond.methodLink RX5 155 yX4_way ∈ oWL := (oWL_t (n := 397) rfl rfl)
set_option maxRecDepth 100000 in
theorem cl_X5_158 : Cond.methodLink RX5 158 yX4_houseOn ∈ oWL := (oWL_t (n := 405) rfl rfl)
set_option maxRecDepth 100000 in
theorem cl_X5_168 : Cond.methodLink RX5 168 yX2_costOf ∈ oWL := (oWL_t (n := 413) rfl rfl)
set_option maxRecDepth 100000 in
theorem cl_X5_174 : Cond.methodLink RX5 174 yX2_useUp ∈ oWL := (oWL_t (n := 422) rfl rfl)
set_option maxRecDepth 100000 in
theorem cl_X5_177 : Cond.methodLink RX5 177 yX1_takeFill ∈ oWL := (oWL_t (n := 426) rfl rfl)
set_option maxRecDepth 100000 in
theorem cl_X5_180 : Cond.methodLink RX5 180 yX3_append ∈ oWL := (oWL_t (n := 455) rfl rfl)
set_option maxRecDepth 100000 in
theorem cl_X5_184 : Cond.methodLink RX5 184 yX3_readAll ∈ oWL := (oWL_t (n := 464) rfl rfl)
set_option maxRecDepth 100000 in
theorem cl_X5_191 : Cond.methodLink RX5 191 yX1_toldKind ∈ oWL := (oWL_t (n := 580) rfl rfl)
set_option maxRecDepth 100000 in
theorem cl_X5_194 : Cond.methodLink RX5 194 yX1_isOf ∈ oWL := (oWL_t (n := 600) rfl rfl)
set_option maxRecDepth 100000 in
theorem cl_X5_198 : Cond.methodLink RX5 198 yX0_emptyTrace ∈ oWL := (oWL_t (n := 609) rfl rfl)
set_option maxRecDepth 100000 in
theorem cl_X5_201 : Cond.methodLink RX5 201 yX0_weight ∈ oWL := (oWL_t (n := 613) rfl rfl)
set_option maxRecDepth 100000 in
theorem cl_X5_205 : Cond.methodLink RX5 205 yX0_mark ∈ oWL := (oWL_t (n := 638) rfl rfl)
set_option maxRecDepth 100000 in
theorem cl_X5_208 : Cond.methodLink RX5 208 yX0_traced ∈ oWL := (oWL_t (n := 659) rfl rfl)
set_option maxRecDepth 100000 in
theorem cl_X5_216 : Cond.methodLink RX5 216 yX5_houseIn ∈ oWL := (oWL_t (n := 259) rfl rfl)
set_option maxRecDepth 100000 in
theorem cl_X5_221 : Cond.methodLink RX5 221 yX1_daysToGo ∈ oWL := (oWL_t (n := 337) rfl rfl)
set_option maxRecDepth 100000 in
theorem cl_X6_1 : Cond.methodLink RX6 1 Lib.objectInit ∈ oWL := (oWL_t (n := 674) rfl rfl)
set_option maxRecDepth 100000 in
theorem cl_X6_96 : Cond.methodLink RX6 96 yX6_in ∈ oWL := (oWL_t (n := 817) rfl rfl)
set_option maxRecDepth 100000 in
theorem cl_X6_108 : Cond.methodLink RX6 108 yX6_isHouse ∈ oWL := (oWL_t (n := 828) rfl rfl)
set_option maxRecDepth 100000 in
theorem cl_X6_118 : Cond.methodLink RX6 118 yX6_lowOf ∈ oWL := (oWL_t (n := 838) rfl rfl)
set_option maxRecDepth 100000 in
theorem cl_X6_122 : Cond.methodLink RX6 122 yX6_highOf ∈ oWL := (oWL_t (n := 842) rfl rfl)
set_option maxRecDepth 100000 in
theorem cl_X6_125 : Cond.methodLink RX6 125 yX6_isDue ∈ oWL := (oWL_t (n := 855) rfl rfl)
set_option maxRecDepth 100000 in
theorem cl_X6_130 : Cond.methodLink RX6 130 yX6_due ∈ oWL := (oWL_t (n := 851) rfl rfl)
set_option maxRecDepth 100000 in
theorem cl_X6_146 : Cond.methodLink RX6 146 yX6_canGo ∈ oWL := (oWL_t (n := 882) rfl rfl)
set_option maxRecDepth 100000 in
theorem cl_X6_153 : Cond.methodLink RX6 153 yX6_size ∈ oWL := (oWL_t (n := 903) rfl rfl)
set_option maxRecDepth 100000 in
theorem cl_X6_156 : Cond.methodLink RX6 156 yX6_fromDepot ∈ oWL := (oWL_t (n := 899) rfl rfl)
set_option maxRecDepth 100000 in
theorem cl_X6_159 : Cond.methodLink RX6 159 yX6_between ∈ oWL := (oWL_t (n := 906) rfl rfl)
set_option maxRecDepth 100000 in
theorem cl_X6_162 : Cond.methodLink RX6 162 yX6_isSet ∈ oWL := (oWL_t (n := 890) rfl rfl)
set_option maxRecDepth 100000 in
theorem cl_X6_167 : Cond.methodLink RX6 167 yX6_findWays ∈ oWL := (oWL_t (n := 895) rfl rfl)
set_option maxRecDepth 100000 in
theorem cl_X6_170 : Cond.methodLink RX6 170 yX6_nextOf ∈ oWL := (oWL_t (n := 910) rfl rfl)
set_option maxRecDepth 100000 in
theorem cl_X6_173 : Cond.methodLink RX6 173 yX6_cut ∈ oWL := (oWL_t (n := 933) rfl rfl)
set_option maxRecDepth 100000 in
theorem cl_X6_176 : Cond.methodLink RX6 176 yX6_least ∈ oWL := (oWL_t (n := 926) rfl rfl)
set_option maxRecDepth 100000 in
theorem cl_X6_178 : Cond.methodLink RX6 178 yX6_most ∈ oWL := (oWL_t (n := 936) rfl rfl)
set_option maxRecDepth 100000 in
theorem cl_X6_181 : Cond.methodLink RX6 181 yX6_roundedUp ∈ oWL := (oWL_t (n := 939) rfl rfl)
set_option maxRecDepth 100000 in
theorem cl_X6_184 : Cond.methodLink RX6 184 yX6_cost ∈ oWL := (oWL_t (n := 922) rfl rfl)
set_option maxRecDepth 100000 in
theorem cl_X6_193 : Cond.methodLink RX6 193 yX6_makeNarrower ∈ oWL := (oWL_t (n := 929) rfl rfl)
set_option maxRecDepth 100000 in
theorem cl_X6_212 : Cond.methodLink RX6 212 yX6_byteAt ∈ oWL := (oWL_t (n := 965) rfl rfl)
set_option maxRecDepth 100000 in
theorem cl_X6_221 : Cond.methodLink RX6 221 yX6_isLetter ∈ oWL := (oWL_t (n := 969) rfl rfl)
set_option maxRecDepth 100000 in
theorem cl_X6_224 : Cond.methodLink RX6 224 yX6_isFigure ∈ oWL := (oWL_t (n := 972) rfl rfl)
set_option maxRecDepth 100000 in
theorem cl_X6_236 : Cond.methodLink RX6 236 yX6_bad ∈ oWL := (oWL_t (n := 988) rfl rfl)
set_option maxRecDepth 100000 in
theorem cl_X6_240 : Cond.methodLink RX6 240 yX6_step ∈ oWL := (oWL_t (n := 961) rfl rfl)
set_option maxRecDepth 100000 in
theorem cl_X6_243 : Cond.methodLink RX6 243 yX6_name ∈ oWL := (oWL_t (n := 979) rfl rfl)
set_option maxRecDepth 100000 in
theorem cl_X6_249 : Cond.methodLink RX6 249 yX6_take ∈ oWL := (oWL_t (n := 984) rfl rfl)
set_option maxRecDepth 100000 in
theorem cl_X6_253 : Cond.methodLink RX6 253 yX6_number ∈ oWL := (oWL_t (n := 992) rfl rfl)
set_option maxRecDepth 100000 in
theorem cl_X6_262 : Cond.methodLink RX6 262 yX6_is ∈ oWL := (oWL_t (n := 999) rfl rfl)
set_option maxRecDepth 100000 in
theorem cl_X6_268 : Cond.methodLink RX6 268 yX6_readOne ∈ oWL := (oWL_t (n := 975) rfl rfl)
set_option maxRecDepth 100000 in
theorem cl_X6_275 : Cond.methodLink RX6 275 yX6_kindOf ∈ oWL := (oWL_t (n := 1012) rfl rfl)
set_option maxRecDepth 100000 in
theorem cl_X6_284 : Cond.methodLink RX6 284 yX6_began ∈ oWL := (oWL_t (n := 1030) rfl rfl)
set_option maxRecDepth 100000 in
theorem cl_X6_287 : Cond.methodLink RX6 287 yX6_weight ∈ oWL := (oWL_t (n := 1026) rfl rfl)
set_option maxRecDepth 100000 in
theorem cl_X6_290 : Cond.methodLink RX6 290 yX6_marked ∈ oWL := (oWL_t (n := 1034) rfl rfl)
theorem nl_X1_11 : (RX1, 11, yX2_init) ∈ oNestL := List.mem_of_getElem? (i := 3) rfl
theorem nl_X3_79 : (RX3, 79, yX5_houseIn) ∈ oNestL := List.mem_of_getElem? (i := 6) rfl
theorem nl_X4_50 : (RX4, 50, yX5_houseIn) ∈ oNestL := List.mem_of_getElem? (i := 4) rfl
theorem nl_X4_78 : (RX4, 78, yX5_isOutside) ∈ oNestL := List.mem_of_getElem? (i := 5) rfl
theorem nl_X5_17 : (RX5, 17, yX4_init) ∈ oNestL := List.mem_of_getElem? (i := 0) rfl
theorem nl_X5_24 : (RX5, 24, yX3_init) ∈ oNestL := List.mem_of_getElem? (i := 1) rfl
theorem nl_X5_31 : (RX5, 31, yX0_init) ∈ oNestL := List.mem_of_getElem? (i := 2) rfl
set_option maxRecDepth 100000 in
theorem lc_J6_265 : Cond.constant RJ6 265 (1431655765) ∈ oWL := (oWL_t (n := 329) rfl rfl)
set_option maxRecDepth 100000 in
theorem lc_J6_266 : Cond.constant RJ6 266 (858993459) ∈ oWL := (oWL_t (n := 330) rfl rfl)
set_option maxRecDepth 100000 in
theorem lc_J6_267 : Cond.constant RJ6 267 (252645135) ∈ oWL := (oWL_t (n := 331) rfl rfl)
set_option maxRecDepth 100000 in
theorem lc_X0_19 : Cond.constant RX0 19 (-1000000) ∈ oWL := (oWL_t (n := 663) rfl rfl)
set_option maxRecDepth 100000 in
theorem lc_X3_50 : Cond.constant RX3 50 (-1000003) ∈ oWL := (oWL_t (n := 459) rfl rfl)
set_option maxRecDepth 100000 in
theorem lc_X3_62 : Cond.constant RX3 62 (-1000100) ∈ oWL := (oWL_t (n := 563) rfl rfl)
set_option maxRecDepth 100000 in
theorem lc_X4_38 : Cond.constant RX4 38 (-1000000) ∈ oWL := (oWL_t (n := 396) rfl rfl)
set_option maxRecDepth 100000 in
theorem lc_X4_65 : Cond.constant RX4 65 (1000000) ∈ oWL := (oWL_t (n := 375) rfl rfl)
set_option maxRecDepth 100000 in
theorem lc_X5_72 : Cond.constant RX5 72 (-1000001) ∈ oWL := (oWL_t (n := 162) rfl rfl)
set_option maxRecDepth 100000 in
theorem lc_X5_73 : Cond.constant RX5 73 (-1000003) ∈ oWL := (oWL_t (n := 163) rfl rfl)
set_option maxRecDepth 100000 in
theorem lc_X5_87 : Cond.constant RX5 87 (-1000002) ∈ oWL := (oWL_t (n := 262) rfl rfl)
set_option maxRecDepth 100000 in
theorem lc_X5_132 : Cond.constant RX5 132 (100000) ∈ oWL := (oWL_t (n := 317) rfl rfl)
set_option maxRecDepth 100000 in
theorem lc_X5_197 : Cond.constant RX5 197 (-1000004) ∈ oWL := (oWL_t (n := 604) rfl rfl)
set_option maxRecDepth 100000 in
theorem lc_X5_220 : Cond.constant RX5 220 (-1000000) ∈ oWL := (oWL_t (n := 336) rfl rfl)
set_option maxRecDepth 100000 in
theorem lc_X6_106 : Cond.constant RX6 106 (-1000001) ∈ oWL := (oWL_t (n := 822) rfl rfl)
set_option maxRecDepth 100000 in
theorem lc_X6_107 : Cond.constant RX6 107 (-1000003) ∈ oWL := (oWL_t (n := 823) rfl rfl)
set_option maxRecDepth 100000 in
theorem lc_X6_112 : Cond.constant RX6 112 (-1000002) ∈ oWL := (oWL_t (n := 832) rfl rfl)
set_option maxRecDepth 100000 in
theorem lc_X6_145 : Cond.constant RX6 145 (-1000000) ∈ oWL := (oWL_t (n := 881) rfl rfl)
set_option maxRecDepth 100000 in
theorem lc_X6_274 : Cond.constant RX6 274 (-1000100) ∈ oWL := (oWL_t (n := 1003) rfl rfl)
set_option maxRecDepth 100000 in
theorem lc_X6_280 : Cond.constant RX6 280 (-1000004) ∈ oWL := (oWL_t (n := 1021) rfl rfl)
set_option maxRecDepth 100000 in
theorem ll_L_70 : Cond.constantLong RL 70 (4294967295) ∈ oWL := (oWL_t (n := 1047) rfl rfl)
set_option maxRecDepth 100000 in
theorem ll_X5_214 : Cond.constantLong RX5 214 (-1000001) ∈ oWL := (oWL_t (n := 668) rfl rfl)
set_option maxRecDepth 100000 in
theorem ll_X6_100 : Cond.constantLong RX6 100 (50) ∈ oWL := (oWL_t (n := 816) rfl rfl)
set_option maxRecDepth 100000 in
theorem ll_X6_102 : Cond.constantLong RX6 102 (100) ∈ oWL := (oWL_t (n := 820) rfl rfl)
set_option maxRecDepth 100000 in
theorem ll_X6_104 : Cond.constantLong RX6 104 (5000) ∈ oWL := (oWL_t (n := 821) rfl rfl)
set_option maxRecDepth 100000 in
theorem ll_X6_113 : Cond.constantLong RX6 113 (40) ∈ oWL := (oWL_t (n := 837) rfl rfl)
set_option maxRecDepth 100000 in
theorem ll_X6_128 : Cond.constantLong RX6 128 (10) ∈ oWL := (oWL_t (n := 850) rfl rfl)
set_option maxRecDepth 100000 in
theorem ll_X6_137 : Cond.constantLong RX6 137 (100000) ∈ oWL := (oWL_t (n := 871) rfl rfl)
set_option maxRecDepth 100000 in
theorem ll_X6_143 : Cond.constantLong RX6 143 (9000) ∈ oWL := (oWL_t (n := 876) rfl rfl)
set_option maxRecDepth 100000 in
theorem ll_X6_165 : Cond.constantLong RX6 165 (2) ∈ oWL := (oWL_t (n := 894) rfl rfl)
set_option maxRecDepth 100000 in
theorem ll_X6_197 : Cond.constantLong RX6 197 (1000) ∈ oWL := (oWL_t (n := 946) rfl rfl)
set_option maxRecDepth 100000 in
theorem ll_X6_199 : Cond.constantLong RX6 199 (8) ∈ oWL := (oWL_t (n := 955) rfl rfl)
set_option maxRecDepth 100000 in
theorem ll_X6_204 : Cond.constantLong RX6 204 (255) ∈ oWL := (oWL_t (n := 956) rfl rfl)
set_option maxRecDepth 100000 in
theorem ll_X6_247 : Cond.constantLong RX6 247 (448546567013) ∈ oWL := (oWL_t (n := 983) rfl rfl)
set_option maxRecDepth 100000 in
theorem ll_X6_256 : Cond.constantLong RX6 256 (6513008) ∈ oWL := (oWL_t (n := 996) rfl rfl)
set_option maxRecDepth 100000 in
theorem ll_X6_258 : Cond.constantLong RX6 258 (1885432164) ∈ oWL := (oWL_t (n := 997) rfl rfl)
set_option maxRecDepth 100000 in
theorem ll_X6_260 : Cond.constantLong RX6 260 (6578553) ∈ oWL := (oWL_t (n := 998) rfl rfl)
set_option maxRecDepth 100000 in
theorem ll_X6_278 : Cond.constantLong RX6 278 (3) ∈ oWL := (oWL_t (n := 1020) rfl rfl)
set_option maxRecDepth 100000 in
theorem ll_X6_293 : Cond.constantLong RX6 293 (-1000001) ∈ oWL := (oWL_t (n := 1046) rfl rfl)
set_option maxRecDepth 100000 in
theorem oi_in : Cond.instanceMethod Lib.objectInit ∈ oWL := (oWL_t (n := 20) rfl rfl)
set_option maxRecDepth 100000 in
theorem oi_co : Cond.code Lib.objectInit ⟨#[0xb1]⟩ 1 none ∈ oWL := (oWL_t (n := 21) rfl rfl)
set_option maxRecDepth 100000 in
theorem in_X5 : Cond.instantiable (clQ 5).1 (clQ 5).2.2 ∈ oWL := (oWL_t (n := 15) rfl rfl)
set_option maxRecDepth 100000 in
theorem iz_X5 : Cond.initialized (clQ 5).1 ∈ oWL := (oWL_t (n := 1) rfl rfl)
set_option maxRecDepth 100000 in
theorem in_X4 : Cond.instantiable (clQ 4).1 (clQ 4).2.2 ∈ oWL := (oWL_t (n := 25) rfl rfl)
set_option maxRecDepth 100000 in
theorem iz_X4 : Cond.initialized (clQ 4).1 ∈ oWL := (oWL_t (n := 2) rfl rfl)
set_option maxRecDepth 100000 in
theorem in_X3 : Cond.instantiable (clQ 3).1 (clQ 3).2.2 ∈ oWL := (oWL_t (n := 54) rfl rfl)
set_option maxRecDepth 100000 in
theorem iz_X3 : Cond.initialized (clQ 3).1 ∈ oWL := (oWL_t (n := 3) rfl rfl)
set_option maxRecDepth 100000 in
theorem in_X0 : Cond.instantiable (clQ 0).1 (clQ 0).2.2 ∈ oWL := (oWL_t (n := 100) rfl rfl)
set_option maxRecDepth 100000 in
theorem iz_X0 : Cond.initialized (clQ 0).1 ∈ oWL := (oWL_t (n := 4) rfl rfl)
set_option maxRecDepth 100000 in
theorem in_X1 : Cond.instantiable (clQ 1).1 (clQ 1).2.2 ∈ oWL := (oWL_t (n := 164) rfl rfl)
set_option maxRecDepth 100000 in
theorem iz_X1 : Cond.initialized (clQ 1).1 ∈ oWL := (oWL_t (n := 6) rfl rfl)
set_option maxRecDepth 100000 in
theorem in_X2 : Cond.instantiable (clQ 2).1 (clQ 2).2.2 ∈ oWL := (oWL_t (n := 170) rfl rfl)
set_option maxRecDepth 100000 in
theorem iz_X2 : Cond.initialized (clQ 2).1 ∈ oWL := (oWL_t (n := 7) rfl rfl)
set_option maxRecDepth 100000 in
theorem in_X6 : Cond.instantiable (clQ 6).1 (clQ 6).2.2 ∈ oWL := (oWL_t (n := 670) rfl rfl)
set_option maxRecDepth 100000 in
theorem iz_X6 : Cond.initialized (clQ 6).1 ∈ oWL := (oWL_t (n := 5) rfl rfl)
set_option maxRecDepth 100000 in
theorem ck_L_7 : Cond.classLink RL 7 "OilRound" ∈ oWL := (oWL_t (n := 14) rfl rfl)
set_option maxRecDepth 100000 in
theorem ck_L_10 : Cond.classLink RL 10 "OilRoundModel" ∈ oWL := (oWL_t (n := 669) rfl rfl)
set_option maxRecDepth 100000 in
theorem ck_X1_9 : Cond.classLink RX1 9 "OilRound$Plan" ∈ oWL := (oWL_t (n := 169) rfl rfl)
set_option maxRecDepth 100000 in
theorem ck_X5_9 : Cond.classLink RX5 9 "OilRound$House" ∈ oWL := (oWL_t (n := 22) rfl rfl)
set_option maxRecDepth 100000 in
theorem ck_X5_15 : Cond.classLink RX5 15 "OilRound$Route" ∈ oWL := (oWL_t (n := 24) rfl rfl)
set_option maxRecDepth 100000 in
theorem ck_X5_22 : Cond.classLink RX5 22 "OilRound$PlanText" ∈ oWL := (oWL_t (n := 53) rfl rfl)
set_option maxRecDepth 100000 in
theorem ck_X5_29 : Cond.classLink RX5 29 "OilRound$Asks" ∈ oWL := (oWL_t (n := 99) rfl rfl)
set_option maxRecDepth 100000 in
theorem ac_int : Cond.arrayClass .int ∈ oWL := (oWL_t (n := 52) rfl rfl)
set_option maxRecDepth 100000 in
theorem ac_byte : Cond.arrayClass .byte ∈ oWL := (oWL_t (n := 98) rfl rfl)
set_option maxRecDepth 100000 in
theorem ac_boolean : Cond.arrayClass .boolean ∈ oWL := (oWL_t (n := 811) rfl rfl)
/-- the shape: the cells that the two constructors made, and what points at them -/
def rfL : List (Nat × Nat × Nat) := [(0, 0, 1), (0, 1, 2), (0, 2, 8), (0, 3, 10), (2, 0, 3), (2, 1, 4), (2, 2, 5), (2, 3, 6), (2, 4, 7), (8, 0, 9), (10, 0, 11), (12, 2, 13), (12, 3, 14), (12, 4, 15), (12, 5, 16), (12, 6, 17), (12, 7, 18), (12, 8, 19), (12, 9, 20), (12, 10, 21), (12, 11, 22), (12, 12, 23), (12, 13, 24), (12, 14, 25), (12, 15, 26), (12, 25, 27), (12, 27, 28), (12, 28, 29), (12, 39, 30), (12, 40, 31), (12, 41, 32), (12, 42, 33), (12, 43, 34)]
def oSh (h : oH) : Prop := 35 ≤ h.1 ∧ ∀ q ∈ rfL, hR h q.1 q.2.1 = some q.2.2
theorem sh_0_0 {h : oH} (hs : oSh h) : hR h 0 0 = some 1 := hs.2 (0, 0, 1) (List.mem_of_getElem? (i := 0) rfl)
theorem sh_0_1 {h : oH} (hs : oSh h) : hR h 0 1 = some 2 := hs.2 (0, 1, 2) (List.mem_of_getElem? (i := 1) rfl)
theorem sh_0_2 {h : oH} (hs : oSh h) : hR h 0 2 = some 8 := hs.2 (0, 2, 8) (List.mem_of_getElem? (i := 2) rfl)
theorem sh_0_3 {h : oH} (hs : oSh h) : hR h 0 3 = some 10 := hs.2 (0, 3, 10) (List.mem_of_getElem? (i := 3) rfl)
theorem sh_2_0 {h : oH} (hs : oSh h) : hR h 2 0 = some 3 := hs.2 (2, 0, 3) (List.mem_of_getElem? (i := 4) rfl)
theorem sh_2_1 {h : oH} (hs : oSh h) : hR h 2 1 = some 4 := hs.2 (2, 1, 4) (List.mem_of_getElem? (i := 5) rfl)
theorem sh_2_2 {h : oH} (hs : oSh h) : hR h 2 2 = some 5 := hs.2 (2, 2, 5) (List.mem_of_getElem? (i := 6) rfl)
theorem sh_2_3 {h : oH} (hs : oSh h) : hR h 2 3 = some 6 := hs.2 (2, 3, 6) (List.mem_of_getElem? (i := 7) rfl)
theorem sh_2_4 {h : oH} (hs : oSh h) : hR h 2 4 = some 7 := hs.2 (2, 4, 7) (List.mem_of_getElem? (i := 8) rfl)
theorem sh_8_0 {h : oH} (hs : oSh h) : hR h 8 0 = some 9 := hs.2 (8, 0, 9) (List.mem_of_getElem? (i := 9) rfl)
theorem sh_10_0 {h : oH} (hs : oSh h) : hR h 10 0 = some 11 := hs.2 (10, 0, 11) (List.mem_of_getElem? (i := 10) rfl)
theorem sh_12_2 {h : oH} (hs : oSh h) : hR h 12 2 = some 13 := hs.2 (12, 2, 13) (List.mem_of_getElem? (i := 11) rfl)
theorem sh_12_3 {h : oH} (hs : oSh h) : hR h 12 3 = some 14 := hs.2 (12, 3, 14) (List.mem_of_getElem? (i := 12) rfl)
theorem sh_12_4 {h : oH} (hs : oSh h) : hR h 12 4 = some 15 := hs.2 (12, 4, 15) (List.mem_of_getElem? (i := 13) rfl)
theorem sh_12_5 {h : oH} (hs : oSh h) : hR h 12 5 = some 16 := hs.2 (12, 5, 16) (List.mem_of_getElem? (i := 14) rfl)
theorem sh_12_6 {h : oH} (hs : oSh h) : hR h 12 6 = some 17 := hs.2 (12, 6, 17) (List.mem_of_getElem? (i := 15) rfl)
theorem sh_12_7 {h : oH} (hs : oSh h) : hR h 12 7 = some 18 := hs.2 (12, 7, 18) (List.mem_of_getElem? (i := 16) rfl)
theorem sh_12_8 {h : oH} (hs : oSh h) : hR h 12 8 = some 19 := hs.2 (12, 8, 19) (List.mem_of_getElem? (i := 17) rfl)
theorem sh_12_9 {h : oH} (hs : oSh h) : hR h 12 9 = some 20 := hs.2 (12, 9, 20) (List.mem_of_getElem? (i := 18) rfl)
theorem sh_12_10 {h : oH} (hs : oSh h) : hR h 12 10 = some 21 := hs.2 (12, 10, 21) (List.mem_of_getElem? (i := 19) rfl)
theorem sh_12_11 {h : oH} (hs : oSh h) : hR h 12 11 = some 22 := hs.2 (12, 11, 22) (List.mem_of_getElem? (i := 20) rfl)
theorem sh_12_12 {h : oH} (hs : oSh h) : hR h 12 12 = some 23 := hs.2 (12, 12, 23) (List.mem_of_getElem? (i := 21) rfl)
theorem sh_12_13 {h : oH} (hs : oSh h) : hR h 12 13 = some 24 := hs.2 (12, 13, 24) (List.mem_of_getElem? (i := 22) rfl)
theorem sh_12_14 {h : oH} (hs : oSh h) : hR h 12 14 = some 25 := hs.2 (12, 14, 25) (List.mem_of_getElem? (i := 23) rfl)
theorem sh_12_15 {h : oH} (hs : oSh h) : hR h 12 15 = some 26 := hs.2 (12, 15, 26) (List.mem_of_getElem? (i := 24) rfl)
theorem sh_12_25 {h : oH} (hs : oSh h) : hR h 12 25 = some 27 := hs.2 (12, 25, 27) (List.mem_of_getElem? (i := 25) rfl)
theorem sh_12_27 {h : oH} (hs : oSh h) : hR h 12 27 = some 28 := hs.2 (12, 27, 28) (List.mem_of_getElem? (i := 26) rfl)
theorem sh_12_28 {h : oH} (hs : oSh h) : hR h 12 28 = some 29 := hs.2 (12, 28, 29) (List.mem_of_getElem? (i := 27) rfl)
theorem sh_12_39 {h : oH} (hs : oSh h) : hR h 12 39 = some 30 := hs.2 (12, 39, 30) (List.mem_of_getElem? (i := 28) rfl)
theorem sh_12_40 {h : oH} (hs : oSh h) : hR h 12 40 = some 31 := hs.2 (12, 40, 31) (List.mem_of_getElem? (i := 29) rfl)
theorem sh_12_41 {h : oH} (hs : oSh h) : hR h 12 41 = some 32 := hs.2 (12, 41, 32) (List.mem_of_getElem? (i := 30) rfl)
theorem sh_12_42 {h : oH} (hs : oSh h) : hR h 12 42 = some 33 := hs.2 (12, 42, 33) (List.mem_of_getElem? (i := 31) rfl)
theorem sh_12_43 {h : oH} (hs : oSh h) : hR h 12 43 = some 34 := hs.2 (12, 43, 34) (List.mem_of_getElem? (i := 32) rfl)
theorem q_lt {h : oH} {a : Nat} (hs : oSh h) (ha : a < 35) : a < h.1 := Nat.lt_of_lt_of_le ha hs.1
def b1 (P : Prop) [Decidable P] : Int32 := if P then 1 else 0
theorem b1_t {P : Prop} [Decidable P] (h : P) : b1 P = 1 := if_pos h
theorem b1_f {P : Prop} [Decidable P] (h : ¬ P) : b1 P = 0 := if_neg h
theorem b1_e0 {P : Prop} [Decidable P] : b1 P = 0 ↔ ¬ P := by
  unfold b1
  by_cases h : P
  · rw [if_pos h]; exact ⟨fun q => absurd q (by decide), fun q => absurd h q⟩
  · rw [if_neg h]; exact ⟨fun _ => h, fun _ => rfl⟩
theorem b1_n0 {P : Prop} [Decidable P] : ¬ b1 P = 0 ↔ P := by
  rw [b1_e0]
  exact Decidable.not_not
theorem b1_nar {P : Prop} [Decidable P] : narrow .boolean (.int (b1 P)) = .int (b1 P) := by
  by_cases h : P
  · rw [b1_t h]; rfl
  · rw [b1_f h]; rfl
theorem b1_iff {P Q : Prop} [Decidable P] [Decidable Q] (h : P ↔ Q) : b1 P = b1 Q := by
  by_cases hp : P
  · rw [b1_t hp, b1_t (h.mp hp)]
  · rw [b1_f hp, b1_f (fun q => hp (h.mpr q))]

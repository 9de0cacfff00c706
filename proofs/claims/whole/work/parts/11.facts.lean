theorem qk0 : qCls 0 RX0 TX0 3 tyX0 := ⟨rfl, fun w hw => List.mem_filter.mpr ⟨(by decide +kernel : ∀ w ∈ wsX00, w ∈ lw_tbl) w hw, (List.all_eq_true.mp (by decide +kernel : (wsX00).all goodWord = true)) w hw⟩, tyX0_ok, nmX0⟩
theorem qk1 : qCls 1 RX1 TX1 2 tyX1 := ⟨rfl, fun w hw => List.mem_filter.mpr ⟨(by decide +kernel : ∀ w ∈ wsX10, w ∈ lw_tbl) w hw, (List.all_eq_true.mp (by decide +kernel : (wsX10).all goodWord = true)) w hw⟩, tyX1_ok, nmX1⟩
theorem qk2 : qCls 2 RX2 TX2 1 tyX2 := ⟨rfl, fun w hw => List.mem_filter.mpr ⟨(by decide +kernel : ∀ w ∈ wsX20, w ∈ lw_tbl) w hw, (List.all_eq_true.mp (by decide +kernel : (wsX20).all goodWord = true)) w hw⟩, tyX2_ok, nmX2⟩
theorem qk3 : qCls 3 RX3 TX3 5 tyX3 := ⟨rfl, fun w hw => List.mem_filter.mpr ⟨(by decide +kernel : ∀ w ∈ wsX30, w ∈ lw_tbl) w hw, (List.all_eq_true.mp (by decide +kernel : (wsX30).all goodWord = true)) w hw⟩, tyX3_ok, nmX3⟩
theorem qk4 : qCls 4 RX4 TX4 10 tyX4 := ⟨rfl, fun w hw => List.mem_filter.mpr ⟨(by decide +kernel : ∀ w ∈ wsX40, w ∈ lw_tbl) w hw, (List.all_eq_true.mp (by decide +kernel : (wsX40).all goodWord = true)) w hw⟩, tyX4_ok, nmX4⟩
theorem qk5 : qCls 5 RX5 TX5 16 tyX5 := ⟨rfl, fun w hw => List.mem_filter.mpr ⟨(by decide +kernel : ∀ w ∈ wsX50, w ∈ lw_tbl) w hw, (List.all_eq_true.mp (by decide +kernel : (wsX50).all goodWord = true)) w hw⟩, tyX5_ok, nmX5⟩
theorem qk6 : qCls 6 RX6 TX6 22 tyX6 := ⟨rfl, fun w hw => List.mem_filter.mpr ⟨(by decide +kernel : ∀ w ∈ wsX60, w ∈ lw_tbl) w hw, (List.all_eq_true.mp (by decide +kernel : (wsX60).all goodWord = true)) w hw⟩, tyX6_ok, nmX6⟩
abbrev MX0_push : qM := (yX0_push, cX0_push, 3, none, { frames := 1, cells := 0, slots := 0, locals := 22 })
theorem miX0_push : qIn MX0_push := ⟨qT_in 288 (by decide +kernel) rfl, qT_in 57 (by decide +kernel) rfl, ⟨by decide +kernel, by decide +kernel⟩, rfl, rfl⟩
theorem msX0_push : qIs MX0_push := ⟨qT_in 286 (by decide +kernel) rfl, qT_in 287 (by decide +kernel) rfl⟩
theorem maX0_push : qAr MX0_push 1 := by unfold qAr; decide +kernel
abbrev MX0_pop : qM := (yX0_pop, cX0_pop, 4, none, { frames := 1, cells := 0, slots := 0, locals := 22 })
theorem miX0_pop : qIn MX0_pop := ⟨qT_in 743 (by decide +kernel) rfl, qT_in 57 (by decide +kernel) rfl, ⟨by decide +kernel, by decide +kernel⟩, rfl, rfl⟩
theorem msX0_pop : qIs MX0_pop := ⟨qT_in 741 (by decide +kernel) rfl, qT_in 742 (by decide +kernel) rfl⟩
theorem maX0_pop : qAr MX0_pop 1 := by unfold qAr; decide +kernel
abbrev MX0_clear : qM := (yX0_clear, cX0_clear, 1, none, { frames := 0, cells := 0, slots := 0, locals := 0 })
theorem miX0_clear : qIn MX0_clear := ⟨qT_in 755 (by decide +kernel) rfl, qT_in 57 (by decide +kernel) rfl, ⟨by decide +kernel, by decide +kernel⟩, rfl, rfl⟩
theorem msX0_clear : qIs MX0_clear := ⟨qT_in 753 (by decide +kernel) rfl, qT_in 754 (by decide +kernel) rfl⟩
theorem maX0_clear : qAr MX0_clear 0 := by unfold qAr; decide +kernel
abbrev MX0_rowAt : qM := (yX0_rowAt, cX0_rowAt, 2, (some (.object "MateKeys$Position")), { frames := 0, cells := 0, slots := 0, locals := 0 })
theorem miX0_rowAt : qIn MX0_rowAt := ⟨qT_in 292 (by decide +kernel) rfl, qT_in 57 (by decide +kernel) rfl, ⟨by decide +kernel, by decide +kernel⟩, rfl, rfl⟩
theorem msX0_rowAt : qIs MX0_rowAt := ⟨qT_in 291 (by decide +kernel) rfl, qT_in 3 (by decide +kernel) rfl⟩
theorem maX0_rowAt : qAr MX0_rowAt 1 := by unfold qAr; decide +kernel
abbrev MX1_clear : qM := (yX1_clear, cX1_clear, 1, none, { frames := 0, cells := 0, slots := 0, locals := 0 })
theorem miX1_clear : qIn MX1_clear := ⟨qT_in 510 (by decide +kernel) rfl, qT_in 59 (by decide +kernel) rfl, ⟨by decide +kernel, by decide +kernel⟩, rfl, rfl⟩
theorem msX1_clear : qIs MX1_clear := ⟨qT_in 508 (by decide +kernel) rfl, qT_in 509 (by decide +kernel) rfl⟩
theorem maX1_clear : qAr MX1_clear 0 := by unfold qAr; decide +kernel
abbrev MX1_write : qM := (yX1_write, cX1_write, 2, none, { frames := 0, cells := 0, slots := 0, locals := 0 })
theorem miX1_write : qIn MX1_write := ⟨qT_in 567 (by decide +kernel) rfl, qT_in 59 (by decide +kernel) rfl, ⟨by decide +kernel, by decide +kernel⟩, rfl, rfl⟩
theorem msX1_write : qIs MX1_write := ⟨qT_in 565 (by decide +kernel) rfl, qT_in 566 (by decide +kernel) rfl⟩
theorem maX1_write : qAr MX1_write 1 := by unfold qAr; decide +kernel
abbrev MX1_writeMan : qM := (yX1_writeMan, cX1_writeMan, 2, none, { frames := 5, cells := 0, slots := 0, locals := 106 })
theorem miX1_writeMan : qIn MX1_writeMan := ⟨qT_in 514 (by decide +kernel) rfl, qT_in 59 (by decide +kernel) rfl, ⟨by decide +kernel, by decide +kernel⟩, rfl, rfl⟩
theorem msX1_writeMan : qIs MX1_writeMan := ⟨qT_in 512 (by decide +kernel) rfl, qT_in 513 (by decide +kernel) rfl⟩
theorem maX1_writeMan : qAr MX1_writeMan 1 := by unfold qAr; decide +kernel
abbrev MX1_writeSquare : qM := (yX1_writeSquare, cX1_writeSquare, 2, none, { frames := 1, cells := 0, slots := 0, locals := 21 })
theorem miX1_writeSquare : qIn MX1_writeSquare := ⟨qT_in 577 (by decide +kernel) rfl, qT_in 59 (by decide +kernel) rfl, ⟨by decide +kernel, by decide +kernel⟩, rfl, rfl⟩
theorem msX1_writeSquare : qIs MX1_writeSquare := ⟨qT_in 575 (by decide +kernel) rfl, qT_in 576 (by decide +kernel) rfl⟩
theorem maX1_writeSquare : qAr MX1_writeSquare 1 := by unfold qAr; decide +kernel
abbrev MX1_writeMoveSign : qM := (yX1_writeMoveSign, cX1_writeMoveSign, 2, none, { frames := 5, cells := 0, slots := 0, locals := 106 })
theorem miX1_writeMoveSign : qIn MX1_writeMoveSign := ⟨qT_in 581 (by decide +kernel) rfl, qT_in 59 (by decide +kernel) rfl, ⟨by decide +kernel, by decide +kernel⟩, rfl, rfl⟩
theorem msX1_writeMoveSign : qIs MX1_writeMoveSign := ⟨qT_in 579 (by decide +kernel) rfl, qT_in 580 (by decide +kernel) rfl⟩
theorem maX1_writeMoveSign : qAr MX1_writeMoveSign 1 := by unfold qAr; decide +kernel
abbrev MX1_codeAt : qM := (yX1_codeAt, cX1_codeAt, 2, (some .int), { frames := 0, cells := 0, slots := 0, locals := 0 })
theorem miX1_codeAt : qIn MX1_codeAt := ⟨qT_in 590 (by decide +kernel) rfl, qT_in 59 (by decide +kernel) rfl, ⟨by decide +kernel, by decide +kernel⟩, rfl, rfl⟩
theorem msX1_codeAt : qIs MX1_codeAt := ⟨qT_in 588 (by decide +kernel) rfl, qT_in 589 (by decide +kernel) rfl⟩
theorem maX1_codeAt : qAr MX1_codeAt 1 := by unfold qAr; decide +kernel
abbrev MX2_fillWithMoves : qM := (yX2_fillWithMoves, cX2_fillWithMoves, 3, none, { frames := 2, cells := 0, slots := 0, locals := 53 })
theorem miX2_fillWithMoves : qIn MX2_fillWithMoves := ⟨qT_in 432 (by decide +kernel) rfl, qT_in 58 (by decide +kernel) rfl, ⟨by decide +kernel, by decide +kernel⟩, rfl, rfl⟩
theorem msX2_fillWithMoves : qIs MX2_fillWithMoves := ⟨qT_in 430 (by decide +kernel) rfl, qT_in 431 (by decide +kernel) rfl⟩
theorem maX2_fillWithMoves : qAr MX2_fillWithMoves 1 := by unfold qAr; decide +kernel
abbrev MX2_fillWithKeys : qM := (yX2_fillWithKeys, cX2_fillWithKeys, 3, none, { frames := 4, cells := 0, slots := 0, locals := 104 })
theorem miX2_fillWithKeys : qIn MX2_fillWithKeys := ⟨qT_in 379 (by decide +kernel) rfl, qT_in 58 (by decide +kernel) rfl, ⟨by decide +kernel, by decide +kernel⟩, rfl, rfl⟩
theorem msX2_fillWithKeys : qIs MX2_fillWithKeys := ⟨qT_in 377 (by decide +kernel) rfl, qT_in 378 (by decide +kernel) rfl⟩
theorem maX2_fillWithKeys : qAr MX2_fillWithKeys 1 := by unfold qAr; decide +kernel
abbrev MX2_count : qM := (yX2_count, cX2_count, 3, (some .int), { frames := 1, cells := 0, slots := 0, locals := 22 })
theorem miX2_count : qIn MX2_count := ⟨qT_in 400 (by decide +kernel) rfl, qT_in 58 (by decide +kernel) rfl, ⟨by decide +kernel, by decide +kernel⟩, rfl, rfl⟩
theorem msX2_count : qIs MX2_count := ⟨qT_in 398 (by decide +kernel) rfl, qT_in 399 (by decide +kernel) rfl⟩
theorem maX2_count : qAr MX2_count 0 := by unfold qAr; decide +kernel
abbrev MX2_pick : qM := (yX2_pick, cX2_pick, 5, (some .int), { frames := 2, cells := 0, slots := 0, locals := 41 })
theorem miX2_pick : qIn MX2_pick := ⟨qT_in 437 (by decide +kernel) rfl, qT_in 58 (by decide +kernel) rfl, ⟨by decide +kernel, by decide +kernel⟩, rfl, rfl⟩
theorem msX2_pick : qIs MX2_pick := ⟨qT_in 435 (by decide +kernel) rfl, qT_in 436 (by decide +kernel) rfl⟩
theorem maX2_pick : qAr MX2_pick 1 := by unfold qAr; decide +kernel
abbrev MX3_copyFrom : qM := (yX3_copyFrom, cX3_copyFrom, 3, none, { frames := 0, cells := 0, slots := 0, locals := 0 })
theorem miX3_copyFrom : qIn MX3_copyFrom := ⟨qT_in 245 (by decide +kernel) rfl, qT_in 56 (by decide +kernel) rfl, ⟨by decide +kernel, by decide +kernel⟩, rfl, rfl⟩
theorem msX3_copyFrom : qIs MX3_copyFrom := ⟨qT_in 243 (by decide +kernel) rfl, qT_in 244 (by decide +kernel) rfl⟩
theorem maX3_copyFrom : qAr MX3_copyFrom 1 := by unfold qAr; decide +kernel
abbrev MX3_manOn : qM := (yX3_manOn, cX3_manOn, 2, (some .int), { frames := 1, cells := 0, slots := 0, locals := 20 })
theorem miX3_manOn : qIn MX3_manOn := ⟨qT_in 256 (by decide +kernel) rfl, qT_in 56 (by decide +kernel) rfl, ⟨by decide +kernel, by decide +kernel⟩, rfl, rfl⟩
theorem msX3_manOn : qIs MX3_manOn := ⟨qT_in 254 (by decide +kernel) rfl, qT_in 255 (by decide +kernel) rfl⟩
theorem maX3_manOn : qAr MX3_manOn 1 := by unfold qAr; decide +kernel
abbrev MX3_setMan : qM := (yX3_setMan, cX3_setMan, 3, none, { frames := 1, cells := 0, slots := 0, locals := 20 })
theorem miX3_setMan : qIn MX3_setMan := ⟨qT_in 280 (by decide +kernel) rfl, qT_in 56 (by decide +kernel) rfl, ⟨by decide +kernel, by decide +kernel⟩, rfl, rfl⟩
theorem msX3_setMan : qIs MX3_setMan := ⟨qT_in 278 (by decide +kernel) rfl, qT_in 279 (by decide +kernel) rfl⟩
theorem maX3_setMan : qAr MX3_setMan 2 := by unfold qAr; decide +kernel
abbrev MX3_countAll : qM := (yX3_countAll, cX3_countAll, 1, (some .int), { frames := 1, cells := 0, slots := 0, locals := 24 })
theorem miX3_countAll : qIn MX3_countAll := ⟨qT_in 272 (by decide +kernel) rfl, qT_in 56 (by decide +kernel) rfl, ⟨by decide +kernel, by decide +kernel⟩, rfl, rfl⟩
theorem msX3_countAll : qIs MX3_countAll := ⟨qT_in 270 (by decide +kernel) rfl, qT_in 271 (by decide +kernel) rfl⟩
theorem maX3_countAll : qAr MX3_countAll 0 := by unfold qAr; decide +kernel
abbrev MX3_countKinds : qM := (yX3_countKinds, cX3_countKinds, 5, (some .int), { frames := 0, cells := 0, slots := 0, locals := 0 })
theorem miX3_countKinds : qIn MX3_countKinds := ⟨qT_in 276 (by decide +kernel) rfl, qT_in 56 (by decide +kernel) rfl, ⟨by decide +kernel, by decide +kernel⟩, rfl, rfl⟩
theorem msX3_countKinds : qIs MX3_countKinds := ⟨qT_in 274 (by decide +kernel) rfl, qT_in 275 (by decide +kernel) rfl⟩
theorem maX3_countKinds : qAr MX3_countKinds 2 := by unfold qAr; decide +kernel
abbrev MX3_squareOf : qM := (yX3_squareOf, cX3_squareOf, 3, (some .int), { frames := 0, cells := 0, slots := 0, locals := 0 })
theorem miX3_squareOf : qIn MX3_squareOf := ⟨qT_in 268 (by decide +kernel) rfl, qT_in 56 (by decide +kernel) rfl, ⟨by decide +kernel, by decide +kernel⟩, rfl, rfl⟩
theorem msX3_squareOf : qIs MX3_squareOf := ⟨qT_in 266 (by decide +kernel) rfl, qT_in 267 (by decide +kernel) rfl⟩
theorem maX3_squareOf : qAr MX3_squareOf 1 := by unfold qAr; decide +kernel
abbrev MX3_fits : qM := (yX3_fits, cX3_fits, 2, (some .boolean), { frames := 3, cells := 0, slots := 0, locals := 72 })
theorem miX3_fits : qIn MX3_fits := ⟨qT_in 360 (by decide +kernel) rfl, qT_in 56 (by decide +kernel) rfl, ⟨by decide +kernel, by decide +kernel⟩, rfl, rfl⟩
theorem msX3_fits : qIs MX3_fits := ⟨qT_in 358 (by decide +kernel) rfl, qT_in 359 (by decide +kernel) rfl⟩
theorem maX3_fits : qAr MX3_fits 0 := by unfold qAr; decide +kernel
abbrev MX3_reach : qM := (yX3_reach, cX3_reach, 11, (some .int), { frames := 0, cells := 0, slots := 0, locals := 0 })
theorem miX3_reach : qIn MX3_reach := ⟨qT_in 325 (by decide +kernel) rfl, qT_in 56 (by decide +kernel) rfl, ⟨by decide +kernel, by decide +kernel⟩, rfl, rfl⟩
theorem msX3_reach : qIs MX3_reach := ⟨qT_in 323 (by decide +kernel) rfl, qT_in 324 (by decide +kernel) rfl⟩
theorem maX3_reach : qAr MX3_reach 1 := by unfold qAr; decide +kernel
abbrev MX3_covered : qM := (yX3_covered, cX3_covered, 3, (some .int), { frames := 1, cells := 0, slots := 0, locals := 30 })
theorem miX3_covered : qIn MX3_covered := ⟨qT_in 714 (by decide +kernel) rfl, qT_in 56 (by decide +kernel) rfl, ⟨by decide +kernel, by decide +kernel⟩, rfl, rfl⟩
theorem msX3_covered : qIs MX3_covered := ⟨qT_in 712 (by decide +kernel) rfl, qT_in 713 (by decide +kernel) rfl⟩
theorem maX3_covered : qAr MX3_covered 0 := by unfold qAr; decide +kernel
abbrev MX3_countManByMan : qM := (yX3_countManByMan, cX3_countManByMan, 4, (some .int), { frames := 2, cells := 0, slots := 0, locals := 41 })
theorem miX3_countManByMan : qIn MX3_countManByMan := ⟨qT_in 375 (by decide +kernel) rfl, qT_in 56 (by decide +kernel) rfl, ⟨by decide +kernel, by decide +kernel⟩, rfl, rfl⟩
theorem msX3_countManByMan : qIs MX3_countManByMan := ⟨qT_in 373 (by decide +kernel) rfl, qT_in 374 (by decide +kernel) rfl⟩
theorem maX3_countManByMan : qAr MX3_countManByMan 1 := by unfold qAr; decide +kernel
abbrev MX3_countLineByLine : qM := (yX3_countLineByLine, cX3_countLineByLine, 4, (some .int), { frames := 2, cells := 0, slots := 0, locals := 49 })
theorem miX3_countLineByLine : qIn MX3_countLineByLine := ⟨qT_in 364 (by decide +kernel) rfl, qT_in 56 (by decide +kernel) rfl, ⟨by decide +kernel, by decide +kernel⟩, rfl, rfl⟩
theorem msX3_countLineByLine : qIs MX3_countLineByLine := ⟨qT_in 362 (by decide +kernel) rfl, qT_in 363 (by decide +kernel) rfl⟩
theorem maX3_countLineByLine : qAr MX3_countLineByLine 1 := by unfold qAr; decide +kernel
abbrev MX3_isMetIn : qM := (yX3_isMetIn, cX3_isMetIn, 8, (some .boolean), { frames := 1, cells := 0, slots := 0, locals := 22 })
theorem miX3_isMetIn : qIn MX3_isMetIn := ⟨qT_in 368 (by decide +kernel) rfl, qT_in 56 (by decide +kernel) rfl, ⟨by decide +kernel, by decide +kernel⟩, rfl, rfl⟩
theorem msX3_isMetIn : qIs MX3_isMetIn := ⟨qT_in 367 (by decide +kernel) rfl, qT_in 9 (by decide +kernel) rfl⟩
theorem maX3_isMetIn : qAr MX3_isMetIn 2 := by unfold qAr; decide +kernel
abbrev MX3_attacksAlong : qM := (yX3_attacksAlong, cX3_attacksAlong, 3, (some .boolean), { frames := 0, cells := 0, slots := 0, locals := 0 })
theorem miX3_attacksAlong : qIn MX3_attacksAlong := ⟨qT_in 371 (by decide +kernel) rfl, qT_in 56 (by decide +kernel) rfl, ⟨by decide +kernel, by decide +kernel⟩, rfl, rfl⟩
theorem mtX3_attacksAlong : Cond.static yX3_attacksAlong ∈ qT := qT_in 370 (by decide +kernel) rfl
theorem maX3_attacksAlong : qAr MX3_attacksAlong 3 := by unfold qAr; decide +kernel
abbrev MX3_movesFrom : qM := (yX3_movesFrom, cX3_movesFrom, 4, (some .int), { frames := 1, cells := 0, slots := 0, locals := 30 })
theorem miX3_movesFrom : qIn MX3_movesFrom := ⟨qT_in 317 (by decide +kernel) rfl, qT_in 56 (by decide +kernel) rfl, ⟨by decide +kernel, by decide +kernel⟩, rfl, rfl⟩
theorem msX3_movesFrom : qIs MX3_movesFrom := ⟨qT_in 315 (by decide +kernel) rfl, qT_in 316 (by decide +kernel) rfl⟩
theorem maX3_movesFrom : qAr MX3_movesFrom 1 := by unfold qAr; decide +kernel
abbrev MX3_hasMove : qM := (yX3_hasMove, cX3_hasMove, 3, (some .boolean), { frames := 2, cells := 0, slots := 0, locals := 53 })
theorem miX3_hasMove : qIn MX3_hasMove := ⟨qT_in 313 (by decide +kernel) rfl, qT_in 56 (by decide +kernel) rfl, ⟨by decide +kernel, by decide +kernel⟩, rfl, rfl⟩
theorem msX3_hasMove : qIs MX3_hasMove := ⟨qT_in 311 (by decide +kernel) rfl, qT_in 312 (by decide +kernel) rfl⟩
theorem maX3_hasMove : qAr MX3_hasMove 2 := by unfold qAr; decide +kernel
abbrev MX3_outlook : qM := (yX3_outlook, cX3_outlook, 6, (some .int), { frames := 1, cells := 0, slots := 0, locals := 30 })
theorem miX3_outlook : qIn MX3_outlook := ⟨qT_in 391 (by decide +kernel) rfl, qT_in 56 (by decide +kernel) rfl, ⟨by decide +kernel, by decide +kernel⟩, rfl, rfl⟩
theorem msX3_outlook : qIs MX3_outlook := ⟨qT_in 389 (by decide +kernel) rfl, qT_in 390 (by decide +kernel) rfl⟩
theorem maX3_outlook : qAr MX3_outlook 0 := by unfold qAr; decide +kernel
abbrev MX3_outlookBehind : qM := (yX3_outlookBehind, cX3_outlookBehind, 6, (some .int), { frames := 2, cells := 0, slots := 0, locals := 55 })
theorem miX3_outlookBehind : qIn MX3_outlookBehind := ⟨qT_in 387 (by decide +kernel) rfl, qT_in 56 (by decide +kernel) rfl, ⟨by decide +kernel, by decide +kernel⟩, rfl, rfl⟩
theorem msX3_outlookBehind : qIs MX3_outlookBehind := ⟨qT_in 385 (by decide +kernel) rfl, qT_in 386 (by decide +kernel) rfl⟩
theorem maX3_outlookBehind : qAr MX3_outlookBehind 2 := by unfold qAr; decide +kernel
abbrev MX3_kindOfMove : qM := (yX3_kindOfMove, cX3_kindOfMove, 6, (some .int), { frames := 3, cells := 0, slots := 0, locals := 80 })
theorem miX3_kindOfMove : qIn MX3_kindOfMove := ⟨qT_in 463 (by decide +kernel) rfl, qT_in 56 (by decide +kernel) rfl, ⟨by decide +kernel, by decide +kernel⟩, rfl, rfl⟩
theorem msX3_kindOfMove : qIs MX3_kindOfMove := ⟨qT_in 461 (by decide +kernel) rfl, qT_in 462 (by decide +kernel) rfl⟩
theorem maX3_kindOfMove : qAr MX3_kindOfMove 2 := by unfold qAr; decide +kernel
abbrev MX3_keysFrom : qM := (yX3_keysFrom, cX3_keysFrom, 5, (some .int), { frames := 3, cells := 0, slots := 0, locals := 80 })
theorem miX3_keysFrom : qIn MX3_keysFrom := ⟨qT_in 383 (by decide +kernel) rfl, qT_in 56 (by decide +kernel) rfl, ⟨by decide +kernel, by decide +kernel⟩, rfl, rfl⟩
theorem msX3_keysFrom : qIs MX3_keysFrom := ⟨qT_in 381 (by decide +kernel) rfl, qT_in 382 (by decide +kernel) rfl⟩
theorem maX3_keysFrom : qAr MX3_keysFrom 1 := by unfold qAr; decide +kernel
abbrev MX4_add : qM := (yX4_add, cX4_add, 2, (some .int), { frames := 0, cells := 0, slots := 0, locals := 0 })
theorem miX4_add : qIn MX4_add := ⟨qT_in 598 (by decide +kernel) rfl, qT_in 60 (by decide +kernel) rfl, ⟨by decide +kernel, by decide +kernel⟩, rfl, rfl⟩
theorem msX4_add : qIs MX4_add := ⟨qT_in 596 (by decide +kernel) rfl, qT_in 597 (by decide +kernel) rfl⟩
theorem maX4_add : qAr MX4_add 1 := by unfold qAr; decide +kernel
abbrev MX4_clear : qM := (yX4_clear, cX4_clear, 1, none, { frames := 0, cells := 0, slots := 0, locals := 0 })
theorem miX4_clear : qIn MX4_clear := ⟨qT_in 689 (by decide +kernel) rfl, qT_in 60 (by decide +kernel) rfl, ⟨by decide +kernel, by decide +kernel⟩, rfl, rfl⟩
theorem msX4_clear : qIs MX4_clear := ⟨qT_in 687 (by decide +kernel) rfl, qT_in 688 (by decide +kernel) rfl⟩
theorem maX4_clear : qAr MX4_clear 0 := by unfold qAr; decide +kernel
abbrev MX4_findFault : qM := (yX4_findFault, cX4_findFault, 3, (some .int), { frames := 9, cells := 0, slots := 0, locals := 202 })
theorem miX4_findFault : qIn MX4_findFault := ⟨qT_in 606 (by decide +kernel) rfl, qT_in 60 (by decide +kernel) rfl, ⟨by decide +kernel, by decide +kernel⟩, rfl, rfl⟩
theorem msX4_findFault : qIs MX4_findFault := ⟨qT_in 604 (by decide +kernel) rfl, qT_in 605 (by decide +kernel) rfl⟩
theorem maX4_findFault : qAr MX4_findFault 0 := by unfold qAr; decide +kernel
abbrev MX4_keepCommand : qM := (yX4_keepCommand, cX4_keepCommand, 1, none, { frames := 0, cells := 0, slots := 0, locals := 0 })
theorem miX4_keepCommand : qIn MX4_keepCommand := ⟨qT_in 685 (by decide +kernel) rfl, qT_in 60 (by decide +kernel) rfl, ⟨by decide +kernel, by decide +kernel⟩, rfl, rfl⟩
theorem msX4_keepCommand : qIs MX4_keepCommand := ⟨qT_in 684 (by decide +kernel) rfl, qT_in 17 (by decide +kernel) rfl⟩
theorem maX4_keepCommand : qAr MX4_keepCommand 0 := by unfold qAr; decide +kernel
abbrev MX4_dueBehind : qM := (yX4_dueBehind, cX4_dueBehind, 3, (some .int), { frames := 8, cells := 0, slots := 0, locals := 180 })
theorem miX4_dueBehind : qIn MX4_dueBehind := ⟨qT_in 610 (by decide +kernel) rfl, qT_in 60 (by decide +kernel) rfl, ⟨by decide +kernel, by decide +kernel⟩, rfl, rfl⟩
theorem msX4_dueBehind : qIs MX4_dueBehind := ⟨qT_in 609 (by decide +kernel) rfl, qT_in 14 (by decide +kernel) rfl⟩
theorem maX4_dueBehind : qAr MX4_dueBehind 2 := by unfold qAr; decide +kernel
abbrev MX4_dueBehindFirst : qM := (yX4_dueBehindFirst, cX4_dueBehindFirst, 2, (some .int), { frames := 7, cells := 0, slots := 0, locals := 159 })
theorem miX4_dueBehindFirst : qIn MX4_dueBehindFirst := ⟨qT_in 614 (by decide +kernel) rfl, qT_in 60 (by decide +kernel) rfl, ⟨by decide +kernel, by decide +kernel⟩, rfl, rfl⟩
theorem msX4_dueBehindFirst : qIs MX4_dueBehindFirst := ⟨qT_in 613 (by decide +kernel) rfl, qT_in 15 (by decide +kernel) rfl⟩
theorem maX4_dueBehindFirst : qAr MX4_dueBehindFirst 1 := by unfold qAr; decide +kernel
abbrev MX4_squareIn : qM := (yX4_squareIn, cX4_squareIn, 3, (some .int), { frames := 1, cells := 0, slots := 0, locals := 20 })
theorem miX4_squareIn : qIn MX4_squareIn := ⟨qT_in 681 (by decide +kernel) rfl, qT_in 60 (by decide +kernel) rfl, ⟨by decide +kernel, by decide +kernel⟩, rfl, rfl⟩
theorem msX4_squareIn : qIs MX4_squareIn := ⟨qT_in 680 (by decide +kernel) rfl, qT_in 16 (by decide +kernel) rfl⟩
theorem maX4_squareIn : qAr MX4_squareIn 1 := by unfold qAr; decide +kernel
abbrev MX4_isLine : qM := (yX4_isLine, cX4_isLine, 1, (some .boolean), { frames := 0, cells := 0, slots := 0, locals := 0 })
theorem miX4_isLine : qIn MX4_isLine := ⟨qT_in 617 (by decide +kernel) rfl, qT_in 60 (by decide +kernel) rfl, ⟨by decide +kernel, by decide +kernel⟩, rfl, rfl⟩
theorem mtX4_isLine : Cond.static yX4_isLine ∈ qT := qT_in 616 (by decide +kernel) rfl
theorem maX4_isLine : qAr MX4_isLine 1 := by unfold qAr; decide +kernel
abbrev MX4_whatOf : qM := (yX4_whatOf, cX4_whatOf, 2, (some .int), { frames := 0, cells := 0, slots := 0, locals := 0 })
theorem miX4_whatOf : qIn MX4_whatOf := ⟨qT_in 693 (by decide +kernel) rfl, qT_in 60 (by decide +kernel) rfl, ⟨by decide +kernel, by decide +kernel⟩, rfl, rfl⟩
theorem msX4_whatOf : qIs MX4_whatOf := ⟨qT_in 691 (by decide +kernel) rfl, qT_in 692 (by decide +kernel) rfl⟩
theorem maX4_whatOf : qAr MX4_whatOf 1 := by unfold qAr; decide +kernel
abbrev MX4_originOf : qM := (yX4_originOf, cX4_originOf, 2, (some .int), { frames := 0, cells := 0, slots := 0, locals := 0 })
theorem miX4_originOf : qIn MX4_originOf := ⟨qT_in 701 (by decide +kernel) rfl, qT_in 60 (by decide +kernel) rfl, ⟨by decide +kernel, by decide +kernel⟩, rfl, rfl⟩
theorem msX4_originOf : qIs MX4_originOf := ⟨qT_in 699 (by decide +kernel) rfl, qT_in 700 (by decide +kernel) rfl⟩
theorem maX4_originOf : qAr MX4_originOf 1 := by unfold qAr; decide +kernel
abbrev MX4_squareOf : qM := (yX4_squareOf, cX4_squareOf, 2, (some .int), { frames := 0, cells := 0, slots := 0, locals := 0 })
theorem miX4_squareOf : qIn MX4_squareOf := ⟨qT_in 697 (by decide +kernel) rfl, qT_in 60 (by decide +kernel) rfl, ⟨by decide +kernel, by decide +kernel⟩, rfl, rfl⟩
theorem msX4_squareOf : qIs MX4_squareOf := ⟨qT_in 695 (by decide +kernel) rfl, qT_in 696 (by decide +kernel) rfl⟩
theorem maX4_squareOf : qAr MX4_squareOf 1 := by unfold qAr; decide +kernel
abbrev MX5_put : qM := (yX5_put, cX5_put, 3, (some .int), { frames := 3, cells := 0, slots := 0, locals := 66 })
theorem miX5_put : qIn MX5_put := ⟨qT_in 241 (by decide +kernel) rfl, qT_in 55 (by decide +kernel) rfl, ⟨by decide +kernel, by decide +kernel⟩, rfl, rfl⟩
theorem msX5_put : qIs MX5_put := ⟨qT_in 239 (by decide +kernel) rfl, qT_in 240 (by decide +kernel) rfl⟩
theorem maX5_put : qAr MX5_put 2 := by unfold qAr; decide +kernel
abbrev MX5_lift : qM := (yX5_lift, cX5_lift, 2, (some .int), { frames := 3, cells := 0, slots := 0, locals := 65 })
theorem miX5_lift : qIn MX5_lift := ⟨qT_in 297 (by decide +kernel) rfl, qT_in 55 (by decide +kernel) rfl, ⟨by decide +kernel, by decide +kernel⟩, rfl, rfl⟩
theorem msX5_lift : qIs MX5_lift := ⟨qT_in 295 (by decide +kernel) rfl, qT_in 296 (by decide +kernel) rfl⟩
theorem maX5_lift : qAr MX5_lift 1 := by unfold qAr; decide +kernel
abbrev MX5_play : qM := (yX5_play, cX5_play, 3, (some .int), { frames := 4, cells := 0, slots := 0, locals := 99 })
theorem miX5_play : qIn MX5_play := ⟨qT_in 305 (by decide +kernel) rfl, qT_in 55 (by decide +kernel) rfl, ⟨by decide +kernel, by decide +kernel⟩, rfl, rfl⟩
theorem msX5_play : qIs MX5_play := ⟨qT_in 303 (by decide +kernel) rfl, qT_in 304 (by decide +kernel) rfl⟩
theorem maX5_play : qAr MX5_play 2 := by unfold qAr; decide +kernel
abbrev MX5_turn : qM := (yX5_turn, cX5_turn, 1, (some .int), { frames := 3, cells := 0, slots := 0, locals := 67 })
theorem miX5_turn : qIn MX5_turn := ⟨qT_in 336 (by decide +kernel) rfl, qT_in 55 (by decide +kernel) rfl, ⟨by decide +kernel, by decide +kernel⟩, rfl, rfl⟩
theorem msX5_turn : qIs MX5_turn := ⟨qT_in 334 (by decide +kernel) rfl, qT_in 335 (by decide +kernel) rfl⟩
theorem maX5_turn : qAr MX5_turn 0 := by unfold qAr; decide +kernel
abbrev MX5_mirror : qM := (yX5_mirror, cX5_mirror, 1, (some .int), { frames := 3, cells := 0, slots := 0, locals := 67 })
theorem miX5_mirror : qIn MX5_mirror := ⟨qT_in 344 (by decide +kernel) rfl, qT_in 55 (by decide +kernel) rfl, ⟨by decide +kernel, by decide +kernel⟩, rfl, rfl⟩
theorem msX5_mirror : qIs MX5_mirror := ⟨qT_in 342 (by decide +kernel) rfl, qT_in 343 (by decide +kernel) rfl⟩
theorem maX5_mirror : qAr MX5_mirror 0 := by unfold qAr; decide +kernel
abbrev MX5_thrift : qM := (yX5_thrift, cX5_thrift, 1, (some .int), { frames := 6, cells := 0, slots := 0, locals := 150 })
theorem miX5_thrift : qIn MX5_thrift := ⟨qT_in 352 (by decide +kernel) rfl, qT_in 55 (by decide +kernel) rfl, ⟨by decide +kernel, by decide +kernel⟩, rfl, rfl⟩
theorem msX5_thrift : qIs MX5_thrift := ⟨qT_in 350 (by decide +kernel) rfl, qT_in 351 (by decide +kernel) rfl⟩
theorem maX5_thrift : qAr MX5_thrift 0 := by unfold qAr; decide +kernel
abbrev MX5_at : qM := (yX5_at, cX5_at, 2, (some .int), { frames := 2, cells := 0, slots := 0, locals := 41 })
theorem miX5_at : qIn MX5_at := ⟨qT_in 408 (by decide +kernel) rfl, qT_in 55 (by decide +kernel) rfl, ⟨by decide +kernel, by decide +kernel⟩, rfl, rfl⟩
theorem msX5_at : qIs MX5_at := ⟨qT_in 406 (by decide +kernel) rfl, qT_in 407 (by decide +kernel) rfl⟩
theorem maX5_at : qAr MX5_at 1 := by unfold qAr; decide +kernel
abbrev MX5_attackers : qM := (yX5_attackers, cX5_attackers, 2, (some .int), { frames := 3, cells := 0, slots := 0, locals := 64 })
theorem miX5_attackers : qIn MX5_attackers := ⟨qT_in 412 (by decide +kernel) rfl, qT_in 55 (by decide +kernel) rfl, ⟨by decide +kernel, by decide +kernel⟩, rfl, rfl⟩
theorem msX5_attackers : qIs MX5_attackers := ⟨qT_in 410 (by decide +kernel) rfl, qT_in 411 (by decide +kernel) rfl⟩
theorem maX5_attackers : qAr MX5_attackers 1 := by unfold qAr; decide +kernel
abbrev MX5_attackersAgain : qM := (yX5_attackersAgain, cX5_attackersAgain, 2, (some .int), { frames := 3, cells := 0, slots := 0, locals := 72 })
theorem miX5_attackersAgain : qIn MX5_attackersAgain := ⟨qT_in 416 (by decide +kernel) rfl, qT_in 55 (by decide +kernel) rfl, ⟨by decide +kernel, by decide +kernel⟩, rfl, rfl⟩
theorem msX5_attackersAgain : qIs MX5_attackersAgain := ⟨qT_in 414 (by decide +kernel) rfl, qT_in 415 (by decide +kernel) rfl⟩
theorem maX5_attackersAgain : qAr MX5_attackersAgain 1 := by unfold qAr; decide +kernel
abbrev MX5_manOf : qM := (yX5_manOf, cX5_manOf, 3, (some .int), { frames := 5, cells := 0, slots := 0, locals := 127 })
theorem miX5_manOf : qIn MX5_manOf := ⟨qT_in 421 (by decide +kernel) rfl, qT_in 55 (by decide +kernel) rfl, ⟨by decide +kernel, by decide +kernel⟩, rfl, rfl⟩
theorem msX5_manOf : qIs MX5_manOf := ⟨qT_in 419 (by decide +kernel) rfl, qT_in 420 (by decide +kernel) rfl⟩
theorem maX5_manOf : qAr MX5_manOf 2 := by unfold qAr; decide +kernel
abbrev MX5_move : qM := (yX5_move, cX5_move, 2, (some .int), { frames := 3, cells := 0, slots := 0, locals := 75 })
theorem miX5_move : qIn MX5_move := ⟨qT_in 428 (by decide +kernel) rfl, qT_in 55 (by decide +kernel) rfl, ⟨by decide +kernel, by decide +kernel⟩, rfl, rfl⟩
theorem msX5_move : qIs MX5_move := ⟨qT_in 426 (by decide +kernel) rfl, qT_in 427 (by decide +kernel) rfl⟩
theorem maX5_move : qAr MX5_move 1 := by unfold qAr; decide +kernel
abbrev MX5_escapes : qM := (yX5_escapes, cX5_escapes, 1, (some .int), { frames := 2, cells := 0, slots := 0, locals := 55 })
theorem miX5_escapes : qIn MX5_escapes := ⟨qT_in 442 (by decide +kernel) rfl, qT_in 55 (by decide +kernel) rfl, ⟨by decide +kernel, by decide +kernel⟩, rfl, rfl⟩
theorem msX5_escapes : qIs MX5_escapes := ⟨qT_in 440 (by decide +kernel) rfl, qT_in 441 (by decide +kernel) rfl⟩
theorem maX5_escapes : qAr MX5_escapes 0 := by unfold qAr; decide +kernel
abbrev MX5_isFit : qM := (yX5_isFit, cX5_isFit, 1, (some .int), { frames := 4, cells := 0, slots := 0, locals := 93 })
theorem miX5_isFit : qIn MX5_isFit := ⟨qT_in 451 (by decide +kernel) rfl, qT_in 55 (by decide +kernel) rfl, ⟨by decide +kernel, by decide +kernel⟩, rfl, rfl⟩
theorem msX5_isFit : qIs MX5_isFit := ⟨qT_in 449 (by decide +kernel) rfl, qT_in 450 (by decide +kernel) rfl⟩
theorem maX5_isFit : qAr MX5_isFit 0 := by unfold qAr; decide +kernel
abbrev MX5_key : qM := (yX5_key, cX5_key, 2, (some .int), { frames := 5, cells := 0, slots := 0, locals := 126 })
theorem miX5_key : qIn MX5_key := ⟨qT_in 455 (by decide +kernel) rfl, qT_in 55 (by decide +kernel) rfl, ⟨by decide +kernel, by decide +kernel⟩, rfl, rfl⟩
theorem msX5_key : qIs MX5_key := ⟨qT_in 453 (by decide +kernel) rfl, qT_in 454 (by decide +kernel) rfl⟩
theorem maX5_key : qAr MX5_key 1 := by unfold qAr; decide +kernel
abbrev MX5_kind : qM := (yX5_kind, cX5_kind, 3, (some .int), { frames := 4, cells := 0, slots := 0, locals := 105 })
theorem miX5_kind : qIn MX5_kind := ⟨qT_in 459 (by decide +kernel) rfl, qT_in 55 (by decide +kernel) rfl, ⟨by decide +kernel, by decide +kernel⟩, rfl, rfl⟩
theorem msX5_kind : qIs MX5_kind := ⟨qT_in 457 (by decide +kernel) rfl, qT_in 458 (by decide +kernel) rfl⟩
theorem maX5_kind : qAr MX5_kind 2 := by unfold qAr; decide +kernel
abbrev MX5_refutation : qM := (yX5_refutation, cX5_refutation, 3, (some .int), { frames := 4, cells := 0, slots := 0, locals := 105 })
theorem miX5_refutation : qIn MX5_refutation := ⟨qT_in 468 (by decide +kernel) rfl, qT_in 55 (by decide +kernel) rfl, ⟨by decide +kernel, by decide +kernel⟩, rfl, rfl⟩
theorem msX5_refutation : qIs MX5_refutation := ⟨qT_in 466 (by decide +kernel) rfl, qT_in 467 (by decide +kernel) rfl⟩
theorem maX5_refutation : qAr MX5_refutation 2 := by unfold qAr; decide +kernel
abbrev MX5_many : qM := (yX5_many, cX5_many, 2, (some .int), { frames := 5, cells := 0, slots := 0, locals := 128 })
theorem miX5_many : qIn MX5_many := ⟨qT_in 476 (by decide +kernel) rfl, qT_in 55 (by decide +kernel) rfl, ⟨by decide +kernel, by decide +kernel⟩, rfl, rfl⟩
theorem msX5_many : qIs MX5_many := ⟨qT_in 474 (by decide +kernel) rfl, qT_in 475 (by decide +kernel) rfl⟩
theorem maX5_many : qAr MX5_many 1 := by unfold qAr; decide +kernel
abbrev MX5_duals : qM := (yX5_duals, cX5_duals, 2, (some .int), { frames := 5, cells := 0, slots := 0, locals := 126 })
theorem miX5_duals : qIn MX5_duals := ⟨qT_in 489 (by decide +kernel) rfl, qT_in 55 (by decide +kernel) rfl, ⟨by decide +kernel, by decide +kernel⟩, rfl, rfl⟩
theorem msX5_duals : qIs MX5_duals := ⟨qT_in 487 (by decide +kernel) rfl, qT_in 488 (by decide +kernel) rfl⟩
theorem maX5_duals : qAr MX5_duals 0 := by unfold qAr; decide +kernel
abbrev MX5_would : qM := (yX5_would, cX5_would, 3, (some .int), { frames := 5, cells := 0, slots := 0, locals := 126 })
theorem miX5_would : qIn MX5_would := ⟨qT_in 493 (by decide +kernel) rfl, qT_in 55 (by decide +kernel) rfl, ⟨by decide +kernel, by decide +kernel⟩, rfl, rfl⟩
theorem msX5_would : qIs MX5_would := ⟨qT_in 491 (by decide +kernel) rfl, qT_in 492 (by decide +kernel) rfl⟩
theorem maX5_would : qAr MX5_would 2 := by unfold qAr; decide +kernel
abbrev MX5_ranked : qM := (yX5_ranked, cX5_ranked, 3, (some .int), { frames := 3, cells := 0, slots := 0, locals := 66 })
theorem miX5_ranked : qIn MX5_ranked := ⟨qT_in 497 (by decide +kernel) rfl, qT_in 55 (by decide +kernel) rfl, ⟨by decide +kernel, by decide +kernel⟩, rfl, rfl⟩
theorem msX5_ranked : qIs MX5_ranked := ⟨qT_in 495 (by decide +kernel) rfl, qT_in 496 (by decide +kernel) rfl⟩
theorem maX5_ranked : qAr MX5_ranked 1 := by unfold qAr; decide +kernel
abbrev MX5_show : qM := (yX5_show, cX5_show, 3, (some .int), { frames := 6, cells := 0, slots := 0, locals := 127 })
theorem miX5_show : qIn MX5_show := ⟨qT_in 506 (by decide +kernel) rfl, qT_in 55 (by decide +kernel) rfl, ⟨by decide +kernel, by decide +kernel⟩, rfl, rfl⟩
theorem msX5_show : qIs MX5_show := ⟨qT_in 504 (by decide +kernel) rfl, qT_in 505 (by decide +kernel) rfl⟩
theorem maX5_show : qAr MX5_show 0 := by unfold qAr; decide +kernel
abbrev MX5_tell : qM := (yX5_tell, cX5_tell, 3, (some .int), { frames := 6, cells := 0, slots := 0, locals := 127 })
theorem miX5_tell : qIn MX5_tell := ⟨qT_in 573 (by decide +kernel) rfl, qT_in 55 (by decide +kernel) rfl, ⟨by decide +kernel, by decide +kernel⟩, rfl, rfl⟩
theorem msX5_tell : qIs MX5_tell := ⟨qT_in 571 (by decide +kernel) rfl, qT_in 572 (by decide +kernel) rfl⟩
theorem maX5_tell : qAr MX5_tell 2 := by unfold qAr; decide +kernel
abbrev MX5_sign : qM := (yX5_sign, cX5_sign, 2, (some .int), { frames := 1, cells := 0, slots := 0, locals := 21 })
theorem miX5_sign : qIn MX5_sign := ⟨qT_in 586 (by decide +kernel) rfl, qT_in 55 (by decide +kernel) rfl, ⟨by decide +kernel, by decide +kernel⟩, rfl, rfl⟩
theorem msX5_sign : qIs MX5_sign := ⟨qT_in 584 (by decide +kernel) rfl, qT_in 585 (by decide +kernel) rfl⟩
theorem maX5_sign : qAr MX5_sign 1 := by unfold qAr; decide +kernel
abbrev MX5_append : qM := (yX5_append, cX5_append, 2, (some .int), { frames := 1, cells := 0, slots := 0, locals := 21 })
theorem miX5_append : qIn MX5_append := ⟨qT_in 594 (by decide +kernel) rfl, qT_in 55 (by decide +kernel) rfl, ⟨by decide +kernel, by decide +kernel⟩, rfl, rfl⟩
theorem msX5_append : qIs MX5_append := ⟨qT_in 592 (by decide +kernel) rfl, qT_in 593 (by decide +kernel) rfl⟩
theorem maX5_append : qAr MX5_append 1 := by unfold qAr; decide +kernel
abbrev MX5_read : qM := (yX5_read, cX5_read, 7, (some .int), { frames := 10, cells := 0, slots := 0, locals := 224 })
theorem miX5_read : qIn MX5_read := ⟨qT_in 602 (by decide +kernel) rfl, qT_in 55 (by decide +kernel) rfl, ⟨by decide +kernel, by decide +kernel⟩, rfl, rfl⟩
theorem msX5_read : qIs MX5_read := ⟨qT_in 600 (by decide +kernel) rfl, qT_in 601 (by decide +kernel) rfl⟩
theorem maX5_read : qAr MX5_read 0 := by unfold qAr; decide +kernel
abbrev MX5_refusal : qM := (yX5_refusal, cX5_refusal, 2, (some .int), { frames := 0, cells := 0, slots := 0, locals := 0 })
theorem miX5_refusal : qIn MX5_refusal := ⟨qT_in 705 (by decide +kernel) rfl, qT_in 55 (by decide +kernel) rfl, ⟨by decide +kernel, by decide +kernel⟩, rfl, rfl⟩
theorem msX5_refusal : qIs MX5_refusal := ⟨qT_in 703 (by decide +kernel) rfl, qT_in 704 (by decide +kernel) rfl⟩
theorem maX5_refusal : qAr MX5_refusal 1 := by unfold qAr; decide +kernel
abbrev MX5_account : qM := (yX5_account, cX5_account, 2, (some .int), { frames := 3, cells := 0, slots := 0, locals := 75 })
theorem miX5_account : qIn MX5_account := ⟨qT_in 709 (by decide +kernel) rfl, qT_in 55 (by decide +kernel) rfl, ⟨by decide +kernel, by decide +kernel⟩, rfl, rfl⟩
theorem msX5_account : qIs MX5_account := ⟨qT_in 707 (by decide +kernel) rfl, qT_in 708 (by decide +kernel) rfl⟩
theorem maX5_account : qAr MX5_account 1 := by unfold qAr; decide +kernel
abbrev MX5_isWell : qM := (yX5_isWell, cX5_isWell, 2, (some .int), { frames := 6, cells := 0, slots := 0, locals := 148 })
theorem miX5_isWell : qIn MX5_isWell := ⟨qT_in 718 (by decide +kernel) rfl, qT_in 55 (by decide +kernel) rfl, ⟨by decide +kernel, by decide +kernel⟩, rfl, rfl⟩
theorem msX5_isWell : qIs MX5_isWell := ⟨qT_in 716 (by decide +kernel) rfl, qT_in 717 (by decide +kernel) rfl⟩
theorem maX5_isWell : qAr MX5_isWell 0 := by unfold qAr; decide +kernel
abbrev MX5_share : qM := (yX5_share, cX5_share, 2, (some .int), { frames := 2, cells := 0, slots := 0, locals := 52 })
theorem miX5_share : qIn MX5_share := ⟨qT_in 730 (by decide +kernel) rfl, qT_in 55 (by decide +kernel) rfl, ⟨by decide +kernel, by decide +kernel⟩, rfl, rfl⟩
theorem msX5_share : qIs MX5_share := ⟨qT_in 728 (by decide +kernel) rfl, qT_in 729 (by decide +kernel) rfl⟩
theorem maX5_share : qAr MX5_share 0 := by unfold qAr; decide +kernel
abbrev MX5_undo : qM := (yX5_undo, cX5_undo, 1, (some .int), { frames := 2, cells := 0, slots := 0, locals := 45 })
theorem miX5_undo : qIn MX5_undo := ⟨qT_in 739 (by decide +kernel) rfl, qT_in 55 (by decide +kernel) rfl, ⟨by decide +kernel, by decide +kernel⟩, rfl, rfl⟩
theorem msX5_undo : qIs MX5_undo := ⟨qT_in 737 (by decide +kernel) rfl, qT_in 738 (by decide +kernel) rfl⟩
theorem maX5_undo : qAr MX5_undo 0 := by unfold qAr; decide +kernel
abbrev MX5_save : qM := (yX5_save, cX5_save, 1, (some .int), { frames := 2, cells := 0, slots := 0, locals := 44 })
theorem miX5_save : qIn MX5_save := ⟨qT_in 747 (by decide +kernel) rfl, qT_in 55 (by decide +kernel) rfl, ⟨by decide +kernel, by decide +kernel⟩, rfl, rfl⟩
theorem msX5_save : qIs MX5_save := ⟨qT_in 745 (by decide +kernel) rfl, qT_in 746 (by decide +kernel) rfl⟩
theorem maX5_save : qAr MX5_save 0 := by unfold qAr; decide +kernel
abbrev MX5_restore : qM := (yX5_restore, cX5_restore, 1, (some .int), { frames := 2, cells := 0, slots := 0, locals := 44 })
theorem miX5_restore : qIn MX5_restore := ⟨qT_in 751 (by decide +kernel) rfl, qT_in 55 (by decide +kernel) rfl, ⟨by decide +kernel, by decide +kernel⟩, rfl, rfl⟩
theorem msX5_restore : qIs MX5_restore := ⟨qT_in 749 (by decide +kernel) rfl, qT_in 750 (by decide +kernel) rfl⟩
theorem maX5_restore : qAr MX5_restore 0 := by unfold qAr; decide +kernel
abbrev MX5_putNow : qM := (yX5_putNow, cX5_putNow, 3, (some .int), { frames := 2, cells := 0, slots := 0, locals := 44 })
theorem miX5_putNow : qIn MX5_putNow := ⟨qT_in 249 (by decide +kernel) rfl, qT_in 55 (by decide +kernel) rfl, ⟨by decide +kernel, by decide +kernel⟩, rfl, rfl⟩
theorem msX5_putNow : qIs MX5_putNow := ⟨qT_in 248 (by decide +kernel) rfl, qT_in 0 (by decide +kernel) rfl⟩
theorem maX5_putNow : qAr MX5_putNow 2 := by unfold qAr; decide +kernel
abbrev MX5_liftNow : qM := (yX5_liftNow, cX5_liftNow, 3, (some .int), { frames := 2, cells := 0, slots := 0, locals := 42 })
theorem miX5_liftNow : qIn MX5_liftNow := ⟨qT_in 301 (by decide +kernel) rfl, qT_in 55 (by decide +kernel) rfl, ⟨by decide +kernel, by decide +kernel⟩, rfl, rfl⟩
theorem msX5_liftNow : qIs MX5_liftNow := ⟨qT_in 300 (by decide +kernel) rfl, qT_in 4 (by decide +kernel) rfl⟩
theorem maX5_liftNow : qAr MX5_liftNow 1 := by unfold qAr; decide +kernel
abbrev MX5_playNow : qM := (yX5_playNow, cX5_playNow, 5, (some .int), { frames := 3, cells := 0, slots := 0, locals := 75 })
theorem miX5_playNow : qIn MX5_playNow := ⟨qT_in 309 (by decide +kernel) rfl, qT_in 55 (by decide +kernel) rfl, ⟨by decide +kernel, by decide +kernel⟩, rfl, rfl⟩
theorem msX5_playNow : qIs MX5_playNow := ⟨qT_in 308 (by decide +kernel) rfl, qT_in 5 (by decide +kernel) rfl⟩
theorem maX5_playNow : qAr MX5_playNow 2 := by unfold qAr; decide +kernel
abbrev MX5_turnNow : qM := (yX5_turnNow, cX5_turnNow, 4, (some .int), { frames := 2, cells := 0, slots := 0, locals := 44 })
theorem miX5_turnNow : qIn MX5_turnNow := ⟨qT_in 340 (by decide +kernel) rfl, qT_in 55 (by decide +kernel) rfl, ⟨by decide +kernel, by decide +kernel⟩, rfl, rfl⟩
theorem msX5_turnNow : qIs MX5_turnNow := ⟨qT_in 339 (by decide +kernel) rfl, qT_in 6 (by decide +kernel) rfl⟩
theorem maX5_turnNow : qAr MX5_turnNow 0 := by unfold qAr; decide +kernel
abbrev MX5_mirrorNow : qM := (yX5_mirrorNow, cX5_mirrorNow, 4, (some .int), { frames := 2, cells := 0, slots := 0, locals := 44 })
theorem miX5_mirrorNow : qIn MX5_mirrorNow := ⟨qT_in 348 (by decide +kernel) rfl, qT_in 55 (by decide +kernel) rfl, ⟨by decide +kernel, by decide +kernel⟩, rfl, rfl⟩
theorem msX5_mirrorNow : qIs MX5_mirrorNow := ⟨qT_in 347 (by decide +kernel) rfl, qT_in 7 (by decide +kernel) rfl⟩
theorem maX5_mirrorNow : qAr MX5_mirrorNow 0 := by unfold qAr; decide +kernel
abbrev MX5_thriftNow : qM := (yX5_thriftNow, cX5_thriftNow, 4, (some .int), { frames := 5, cells := 0, slots := 0, locals := 127 })
theorem miX5_thriftNow : qIn MX5_thriftNow := ⟨qT_in 356 (by decide +kernel) rfl, qT_in 55 (by decide +kernel) rfl, ⟨by decide +kernel, by decide +kernel⟩, rfl, rfl⟩
theorem msX5_thriftNow : qIs MX5_thriftNow := ⟨qT_in 355 (by decide +kernel) rfl, qT_in 8 (by decide +kernel) rfl⟩
theorem maX5_thriftNow : qAr MX5_thriftNow 0 := by unfold qAr; decide +kernel
abbrev MX5_keep : qM := (yX5_keep, cX5_keep, 2, (some .int), { frames := 2, cells := 0, slots := 0, locals := 44 })
theorem miX5_keep : qIn MX5_keep := ⟨qT_in 284 (by decide +kernel) rfl, qT_in 55 (by decide +kernel) rfl, ⟨by decide +kernel, by decide +kernel⟩, rfl, rfl⟩
theorem msX5_keep : qIs MX5_keep := ⟨qT_in 283 (by decide +kernel) rfl, qT_in 2 (by decide +kernel) rfl⟩
theorem maX5_keep : qAr MX5_keep 1 := by unfold qAr; decide +kernel
abbrev MX5_refuse : qM := (yX5_refuse, cX5_refuse, 3, (some .int), { frames := 0, cells := 0, slots := 0, locals := 0 })
theorem miX5_refuse : qIn MX5_refuse := ⟨qT_in 261 (by decide +kernel) rfl, qT_in 55 (by decide +kernel) rfl, ⟨by decide +kernel, by decide +kernel⟩, rfl, rfl⟩
theorem msX5_refuse : qIs MX5_refuse := ⟨qT_in 260 (by decide +kernel) rfl, qT_in 1 (by decide +kernel) rfl⟩
theorem maX5_refuse : qAr MX5_refuse 2 := by unfold qAr; decide +kernel
abbrev MX5_canSpare : qM := (yX5_canSpare, cX5_canSpare, 4, (some .boolean), { frames := 4, cells := 0, slots := 0, locals := 104 })
theorem miX5_canSpare : qIn MX5_canSpare := ⟨qT_in 396 (by decide +kernel) rfl, qT_in 55 (by decide +kernel) rfl, ⟨by decide +kernel, by decide +kernel⟩, rfl, rfl⟩
theorem msX5_canSpare : qIs MX5_canSpare := ⟨qT_in 395 (by decide +kernel) rfl, qT_in 10 (by decide +kernel) rfl⟩
theorem maX5_canSpare : qAr MX5_canSpare 1 := by unfold qAr; decide +kernel
abbrev MX5_fillTally : qM := (yX5_fillTally, cX5_fillTally, 4, none, { frames := 4, cells := 0, slots := 0, locals := 105 })
theorem miX5_fillTally : qIn MX5_fillTally := ⟨qT_in 480 (by decide +kernel) rfl, qT_in 55 (by decide +kernel) rfl, ⟨by decide +kernel, by decide +kernel⟩, rfl, rfl⟩
theorem msX5_fillTally : qIs MX5_fillTally := ⟨qT_in 479 (by decide +kernel) rfl, qT_in 11 (by decide +kernel) rfl⟩
theorem maX5_fillTally : qAr MX5_fillTally 0 := by unfold qAr; decide +kernel
abbrev MX5_countKind : qM := (yX5_countKind, cX5_countKind, 2, none, { frames := 0, cells := 0, slots := 0, locals := 0 })
theorem miX5_countKind : qIn MX5_countKind := ⟨qT_in 485 (by decide +kernel) rfl, qT_in 55 (by decide +kernel) rfl, ⟨by decide +kernel, by decide +kernel⟩, rfl, rfl⟩
theorem msX5_countKind : qIs MX5_countKind := ⟨qT_in 484 (by decide +kernel) rfl, qT_in 12 (by decide +kernel) rfl⟩
theorem maX5_countKind : qAr MX5_countKind 1 := by unfold qAr; decide +kernel
abbrev MX5_kindsAreAllMoves : qM := (yX5_kindsAreAllMoves, cX5_kindsAreAllMoves, 1, (some .boolean), { frames := 5, cells := 0, slots := 0, locals := 128 })
theorem miX5_kindsAreAllMoves : qIn MX5_kindsAreAllMoves := ⟨qT_in 722 (by decide +kernel) rfl, qT_in 55 (by decide +kernel) rfl, ⟨by decide +kernel, by decide +kernel⟩, rfl, rfl⟩
theorem msX5_kindsAreAllMoves : qIs MX5_kindsAreAllMoves := ⟨qT_in 721 (by decide +kernel) rfl, qT_in 18 (by decide +kernel) rfl⟩
theorem maX5_kindsAreAllMoves : qAr MX5_kindsAreAllMoves 0 := by unfold qAr; decide +kernel
abbrev MX5_keysLeaveNoFlight : qM := (yX5_keysLeaveNoFlight, cX5_keysLeaveNoFlight, 3, (some .boolean), { frames := 5, cells := 0, slots := 0, locals := 126 })
theorem miX5_keysLeaveNoFlight : qIn MX5_keysLeaveNoFlight := ⟨qT_in 726 (by decide +kernel) rfl, qT_in 55 (by decide +kernel) rfl, ⟨by decide +kernel, by decide +kernel⟩, rfl, rfl⟩
theorem msX5_keysLeaveNoFlight : qIs MX5_keysLeaveNoFlight := ⟨qT_in 725 (by decide +kernel) rfl, qT_in 19 (by decide +kernel) rfl⟩
theorem maX5_keysLeaveNoFlight : qAr MX5_keysLeaveNoFlight 0 := by unfold qAr; decide +kernel
abbrev MX5_placeInOrder : qM := (yX5_placeInOrder, cX5_placeInOrder, 6, (some .int), { frames := 2, cells := 0, slots := 0, locals := 41 })
theorem miX5_placeInOrder : qIn MX5_placeInOrder := ⟨qT_in 502 (by decide +kernel) rfl, qT_in 55 (by decide +kernel) rfl, ⟨by decide +kernel, by decide +kernel⟩, rfl, rfl⟩
theorem msX5_placeInOrder : qIs MX5_placeInOrder := ⟨qT_in 501 (by decide +kernel) rfl, qT_in 13 (by decide +kernel) rfl⟩
theorem maX5_placeInOrder : qAr MX5_placeInOrder 1 := by unfold qAr; decide +kernel
abbrev MX5_isSquare : qM := (yX5_isSquare, cX5_isSquare, 1, (some .boolean), { frames := 0, cells := 0, slots := 0, locals := 0 })
theorem miX5_isSquare : qIn MX5_isSquare := ⟨qT_in 252 (by decide +kernel) rfl, qT_in 55 (by decide +kernel) rfl, ⟨by decide +kernel, by decide +kernel⟩, rfl, rfl⟩
theorem mtX5_isSquare : Cond.static yX5_isSquare ∈ qT := qT_in 251 (by decide +kernel) rfl
theorem maX5_isSquare : qAr MX5_isSquare 1 := by unfold qAr; decide +kernel
abbrev MX5_isWhite : qM := (yX5_isWhite, cX5_isWhite, 1, (some .boolean), { frames := 0, cells := 0, slots := 0, locals := 0 })
theorem miX5_isWhite : qIn MX5_isWhite := ⟨qT_in 320 (by decide +kernel) rfl, qT_in 55 (by decide +kernel) rfl, ⟨by decide +kernel, by decide +kernel⟩, rfl, rfl⟩
theorem mtX5_isWhite : Cond.static yX5_isWhite ∈ qT := qT_in 319 (by decide +kernel) rfl
theorem maX5_isWhite : qAr MX5_isWhite 1 := by unfold qAr; decide +kernel
abbrev MX5_isKing : qM := (yX5_isKing, cX5_isKing, 1, (some .boolean), { frames := 0, cells := 0, slots := 0, locals := 0 })
theorem miX5_isKing : qIn MX5_isKing := ⟨qT_in 264 (by decide +kernel) rfl, qT_in 55 (by decide +kernel) rfl, ⟨by decide +kernel, by decide +kernel⟩, rfl, rfl⟩
theorem mtX5_isKing : Cond.static yX5_isKing ∈ qT := qT_in 263 (by decide +kernel) rfl
theorem maX5_isKing : qAr MX5_isKing 1 := by unfold qAr; decide +kernel
abbrev MX5_hasSquare : qM := (yX5_hasSquare, cX5_hasSquare, 2, (some .boolean), { frames := 1, cells := 0, slots := 0, locals := 20 })
theorem miX5_hasSquare : qIn MX5_hasSquare := ⟨qT_in 332 (by decide +kernel) rfl, qT_in 55 (by decide +kernel) rfl, ⟨by decide +kernel, by decide +kernel⟩, rfl, rfl⟩
theorem mtX5_hasSquare : Cond.static yX5_hasSquare ∈ qT := qT_in 331 (by decide +kernel) rfl
theorem maX5_hasSquare : qAr MX5_hasSquare 2 := by unfold qAr; decide +kernel
abbrev MX5_squaresIn : qM := (yX5_squaresIn, cX5_squaresIn, 1, (some .int), { frames := 0, cells := 0, slots := 0, locals := 0 })
theorem miX5_squaresIn : qIn MX5_squaresIn := ⟨qT_in 446 (by decide +kernel) rfl, qT_in 55 (by decide +kernel) rfl, ⟨by decide +kernel, by decide +kernel⟩, rfl, rfl⟩
theorem mtX5_squaresIn : Cond.static yX5_squaresIn ∈ qT := qT_in 445 (by decide +kernel) rfl
theorem maX5_squaresIn : qAr MX5_squaresIn 1 := by unfold qAr; decide +kernel
abbrev MX5_bitsOf : qM := (yX5_bitsOf, cX5_bitsOf, 3, (some .int), { frames := 0, cells := 0, slots := 0, locals := 0 })
theorem miX5_bitsOf : qIn MX5_bitsOf := ⟨qT_in 403 (by decide +kernel) rfl, qT_in 55 (by decide +kernel) rfl, ⟨by decide +kernel, by decide +kernel⟩, rfl, rfl⟩
theorem mtX5_bitsOf : Cond.static yX5_bitsOf ∈ qT := qT_in 402 (by decide +kernel) rfl
theorem maX5_bitsOf : qAr MX5_bitsOf 1 := by unfold qAr; decide +kernel
abbrev MX5_lowestIn : qM := (yX5_lowestIn, cX5_lowestIn, 2, (some .int), { frames := 0, cells := 0, slots := 0, locals := 0 })
theorem miX5_lowestIn : qIn MX5_lowestIn := ⟨qT_in 472 (by decide +kernel) rfl, qT_in 55 (by decide +kernel) rfl, ⟨by decide +kernel, by decide +kernel⟩, rfl, rfl⟩
theorem mtX5_lowestIn : Cond.static yX5_lowestIn ∈ qT := qT_in 471 (by decide +kernel) rfl
theorem maX5_lowestIn : qAr MX5_lowestIn 1 := by unfold qAr; decide +kernel
abbrev MX5_bitsOfShare : qM := (yX5_bitsOfShare, cX5_bitsOfShare, 4, (some .int), { frames := 0, cells := 0, slots := 0, locals := 0 })
theorem miX5_bitsOfShare : qIn MX5_bitsOfShare := ⟨qT_in 734 (by decide +kernel) rfl, qT_in 55 (by decide +kernel) rfl, ⟨by decide +kernel, by decide +kernel⟩, rfl, rfl⟩
theorem mtX5_bitsOfShare : Cond.static yX5_bitsOfShare ∈ qT := qT_in 733 (by decide +kernel) rfl
theorem maX5_bitsOfShare : qAr MX5_bitsOfShare 1 := by unfold qAr; decide +kernel
abbrev MX6_in : qM := (yX6_in, cX6_in, 3, (some .boolean), { frames := 0, cells := 0, slots := 0, locals := 0 })
theorem miX6_in : qIn MX6_in := ⟨qT_in 836 (by decide +kernel) rfl, qT_in 61 (by decide +kernel) rfl, ⟨by decide +kernel, by decide +kernel⟩, rfl, rfl⟩
theorem mtX6_in : Cond.static yX6_in ∈ qT := qT_in 835 (by decide +kernel) rfl
theorem maX6_in : qAr MX6_in 3 := by unfold qAr; decide +kernel
abbrev MX6_keep : qM := (yX6_keep, cX6_keep, 1, none, { frames := 1, cells := 0, slots := 0, locals := 26 })
theorem miX6_keep : qIn MX6_keep := ⟨qT_in 844 (by decide +kernel) rfl, qT_in 61 (by decide +kernel) rfl, ⟨by decide +kernel, by decide +kernel⟩, rfl, rfl⟩
theorem msX6_keep : qIs MX6_keep := ⟨qT_in 843 (by decide +kernel) rfl, qT_in 20 (by decide +kernel) rfl⟩
theorem maX6_keep : qAr MX6_keep 0 := by unfold qAr; decide +kernel
abbrev MX6_ends : qM := (yX6_ends, cX6_ends, 2, (some .int), { frames := 1, cells := 0, slots := 0, locals := 26 })
theorem miX6_ends : qIn MX6_ends := ⟨qT_in 870 (by decide +kernel) rfl, qT_in 61 (by decide +kernel) rfl, ⟨by decide +kernel, by decide +kernel⟩, rfl, rfl⟩
theorem msX6_ends : qIs MX6_ends := ⟨qT_in 869 (by decide +kernel) rfl, qT_in 25 (by decide +kernel) rfl⟩
theorem maX6_ends : qAr MX6_ends 1 := by unfold qAr; decide +kernel
abbrev MX6_refuse : qM := (yX6_refuse, cX6_refuse, 3, (some .int), { frames := 0, cells := 0, slots := 0, locals := 0 })
theorem miX6_refuse : qIn MX6_refuse := ⟨qT_in 858 (by decide +kernel) rfl, qT_in 61 (by decide +kernel) rfl, ⟨by decide +kernel, by decide +kernel⟩, rfl, rfl⟩
theorem msX6_refuse : qIs MX6_refuse := ⟨qT_in 857 (by decide +kernel) rfl, qT_in 22 (by decide +kernel) rfl⟩
theorem maX6_refuse : qAr MX6_refuse 2 := by unfold qAr; decide +kernel
abbrev MX6_refusal : qM := (yX6_refusal, cX6_refusal, 2, (some .int), { frames := 1, cells := 0, slots := 0, locals := 22 })
theorem miX6_refusal : qIn MX6_refusal := ⟨qT_in 833 (by decide +kernel) rfl, qT_in 61 (by decide +kernel) rfl, ⟨by decide +kernel, by decide +kernel⟩, rfl, rfl⟩
theorem msX6_refusal : qIs MX6_refusal := ⟨qT_in 831 (by decide +kernel) rfl, qT_in 832 (by decide +kernel) rfl⟩
theorem maX6_refusal : qAr MX6_refusal 1 := by unfold qAr; decide +kernel
abbrev MX6_isSquare : qM := (yX6_isSquare, cX6_isSquare, 1, (some .boolean), { frames := 1, cells := 0, slots := 0, locals := 22 })
theorem miX6_isSquare : qIn MX6_isSquare := ⟨qT_in 854 (by decide +kernel) rfl, qT_in 61 (by decide +kernel) rfl, ⟨by decide +kernel, by decide +kernel⟩, rfl, rfl⟩
theorem mtX6_isSquare : Cond.static yX6_isSquare ∈ qT := qT_in 853 (by decide +kernel) rfl
theorem maX6_isSquare : qAr MX6_isSquare 1 := by unfold qAr; decide +kernel
abbrev MX6_isWhite : qM := (yX6_isWhite, cX6_isWhite, 1, (some .boolean), { frames := 1, cells := 0, slots := 0, locals := 22 })
theorem miX6_isWhite : qIn MX6_isWhite := ⟨qT_in 945 (by decide +kernel) rfl, qT_in 61 (by decide +kernel) rfl, ⟨by decide +kernel, by decide +kernel⟩, rfl, rfl⟩
theorem mtX6_isWhite : Cond.static yX6_isWhite ∈ qT := qT_in 944 (by decide +kernel) rfl
theorem maX6_isWhite : qAr MX6_isWhite 1 := by unfold qAr; decide +kernel
abbrev MX6_where : qM := (yX6_where, cX6_where, 4, (some .int), { frames := 0, cells := 0, slots := 0, locals := 0 })
theorem miX6_where : qIn MX6_where := ⟨qT_in 862 (by decide +kernel) rfl, qT_in 61 (by decide +kernel) rfl, ⟨by decide +kernel, by decide +kernel⟩, rfl, rfl⟩
theorem msX6_where : qIs MX6_where := ⟨qT_in 861 (by decide +kernel) rfl, qT_in 23 (by decide +kernel) rfl⟩
theorem maX6_where : qAr MX6_where 1 := by unfold qAr; decide +kernel
abbrev MX6_men : qM := (yX6_men, cX6_men, 3, (some .int), { frames := 0, cells := 0, slots := 0, locals := 0 })
theorem miX6_men : qIn MX6_men := ⟨qT_in 866 (by decide +kernel) rfl, qT_in 61 (by decide +kernel) rfl, ⟨by decide +kernel, by decide +kernel⟩, rfl, rfl⟩
theorem msX6_men : qIs MX6_men := ⟨qT_in 865 (by decide +kernel) rfl, qT_in 24 (by decide +kernel) rfl⟩
theorem maX6_men : qAr MX6_men 0 := by unfold qAr; decide +kernel
abbrev MX6_doPut : qM := (yX6_doPut, cX6_doPut, 3, (some .int), { frames := 2, cells := 0, slots := 0, locals := 42 })
theorem miX6_doPut : qIn MX6_doPut := ⟨qT_in 851 (by decide +kernel) rfl, qT_in 61 (by decide +kernel) rfl, ⟨by decide +kernel, by decide +kernel⟩, rfl, rfl⟩
theorem msX6_doPut : qIs MX6_doPut := ⟨qT_in 850 (by decide +kernel) rfl, qT_in 21 (by decide +kernel) rfl⟩
theorem maX6_doPut : qAr MX6_doPut 2 := by unfold qAr; decide +kernel
abbrev MX6_put : qM := (yX6_put, cX6_put, 3, (some .int), { frames := 3, cells := 0, slots := 0, locals := 64 })
theorem miX6_put : qIn MX6_put := ⟨qT_in 840 (by decide +kernel) rfl, qT_in 61 (by decide +kernel) rfl, ⟨by decide +kernel, by decide +kernel⟩, rfl, rfl⟩
theorem msX6_put : qIs MX6_put := ⟨qT_in 838 (by decide +kernel) rfl, qT_in 839 (by decide +kernel) rfl⟩
theorem maX6_put : qAr MX6_put 2 := by unfold qAr; decide +kernel
abbrev MX6_doLift : qM := (yX6_doLift, cX6_doLift, 3, (some .int), { frames := 2, cells := 0, slots := 0, locals := 42 })
theorem miX6_doLift : qIn MX6_doLift := ⟨qT_in 878 (by decide +kernel) rfl, qT_in 61 (by decide +kernel) rfl, ⟨by decide +kernel, by decide +kernel⟩, rfl, rfl⟩
theorem msX6_doLift : qIs MX6_doLift := ⟨qT_in 877 (by decide +kernel) rfl, qT_in 26 (by decide +kernel) rfl⟩
theorem maX6_doLift : qAr MX6_doLift 1 := by unfold qAr; decide +kernel
abbrev MX6_lift : qM := (yX6_lift, cX6_lift, 2, (some .int), { frames := 3, cells := 0, slots := 0, locals := 64 })
theorem miX6_lift : qIn MX6_lift := ⟨qT_in 874 (by decide +kernel) rfl, qT_in 61 (by decide +kernel) rfl, ⟨by decide +kernel, by decide +kernel⟩, rfl, rfl⟩
theorem msX6_lift : qIs MX6_lift := ⟨qT_in 872 (by decide +kernel) rfl, qT_in 873 (by decide +kernel) rfl⟩
theorem maX6_lift : qAr MX6_lift 1 := by unfold qAr; decide +kernel
abbrev MX6_at : qM := (yX6_at, cX6_at, 2, (some .int), { frames := 2, cells := 0, slots := 0, locals := 42 })
theorem miX6_at : qIn MX6_at := ⟨qT_in 882 (by decide +kernel) rfl, qT_in 61 (by decide +kernel) rfl, ⟨by decide +kernel, by decide +kernel⟩, rfl, rfl⟩
theorem msX6_at : qIs MX6_at := ⟨qT_in 880 (by decide +kernel) rfl, qT_in 881 (by decide +kernel) rfl⟩
theorem maX6_at : qAr MX6_at 1 := by unfold qAr; decide +kernel
abbrev MX6_away : qM := (yX6_away, cX6_away, 6, (some .int), { frames := 1, cells := 0, slots := 0, locals := 22 })
theorem miX6_away : qIn MX6_away := ⟨qT_in 894 (by decide +kernel) rfl, qT_in 61 (by decide +kernel) rfl, ⟨by decide +kernel, by decide +kernel⟩, rfl, rfl⟩
theorem msX6_away : qIs MX6_away := ⟨qT_in 893 (by decide +kernel) rfl, qT_in 28 (by decide +kernel) rfl⟩
theorem maX6_away : qAr MX6_away 3 := by unfold qAr; decide +kernel
abbrev MX6_firstAt : qM := (yX6_firstAt, cX6_firstAt, 5, (some .int), { frames := 2, cells := 0, slots := 0, locals := 47 })
theorem miX6_firstAt : qIn MX6_firstAt := ⟨qT_in 898 (by decide +kernel) rfl, qT_in 61 (by decide +kernel) rfl, ⟨by decide +kernel, by decide +kernel⟩, rfl, rfl⟩
theorem msX6_firstAt : qIs MX6_firstAt := ⟨qT_in 897 (by decide +kernel) rfl, qT_in 29 (by decide +kernel) rfl⟩
theorem maX6_firstAt : qAr MX6_firstAt 3 := by unfold qAr; decide +kernel
abbrev MX6_attackersOf : qM := (yX6_attackersOf, cX6_attackersOf, 9, (some .int), { frames := 3, cells := 0, slots := 0, locals := 71 })
theorem miX6_attackersOf : qIn MX6_attackersOf := ⟨qT_in 890 (by decide +kernel) rfl, qT_in 61 (by decide +kernel) rfl, ⟨by decide +kernel, by decide +kernel⟩, rfl, rfl⟩
theorem msX6_attackersOf : qIs MX6_attackersOf := ⟨qT_in 889 (by decide +kernel) rfl, qT_in 27 (by decide +kernel) rfl⟩
theorem maX6_attackersOf : qAr MX6_attackersOf 1 := by unfold qAr; decide +kernel
abbrev MX6_attacks : qM := (yX6_attacks, cX6_attacks, 11, (some .boolean), { frames := 3, cells := 0, slots := 0, locals := 71 })
theorem miX6_attacks : qIn MX6_attacks := ⟨qT_in 949 (by decide +kernel) rfl, qT_in 61 (by decide +kernel) rfl, ⟨by decide +kernel, by decide +kernel⟩, rfl, rfl⟩
theorem msX6_attacks : qIs MX6_attacks := ⟨qT_in 948 (by decide +kernel) rfl, qT_in 35 (by decide +kernel) rfl⟩
theorem maX6_attacks : qAr MX6_attacks 2 := by unfold qAr; decide +kernel
abbrev MX6_areBeside : qM := (yX6_areBeside, cX6_areBeside, 2, (some .boolean), { frames := 1, cells := 0, slots := 0, locals := 21 })
theorem miX6_areBeside : qIn MX6_areBeside := ⟨qT_in 918 (by decide +kernel) rfl, qT_in 61 (by decide +kernel) rfl, ⟨by decide +kernel, by decide +kernel⟩, rfl, rfl⟩
theorem mtX6_areBeside : Cond.static yX6_areBeside ∈ qT := qT_in 917 (by decide +kernel) rfl
theorem maX6_areBeside : qAr MX6_areBeside 2 := by unfold qAr; decide +kernel
abbrev MX6_isMove : qM := (yX6_isMove, cX6_isMove, 4, (some .boolean), { frames := 4, cells := 0, slots := 0, locals := 101 })
theorem miX6_isMove : qIn MX6_isMove := ⟨qT_in 942 (by decide +kernel) rfl, qT_in 61 (by decide +kernel) rfl, ⟨by decide +kernel, by decide +kernel⟩, rfl, rfl⟩
theorem msX6_isMove : qIs MX6_isMove := ⟨qT_in 941 (by decide +kernel) rfl, qT_in 34 (by decide +kernel) rfl⟩
theorem maX6_isMove : qAr MX6_isMove 2 := by unfold qAr; decide +kernel
abbrev MX6_countOf : qM := (yX6_countOf, cX6_countOf, 5, (some .int), { frames := 5, cells := 0, slots := 0, locals := 124 })
theorem miX6_countOf : qIn MX6_countOf := ⟨qT_in 1005 (by decide +kernel) rfl, qT_in 61 (by decide +kernel) rfl, ⟨by decide +kernel, by decide +kernel⟩, rfl, rfl⟩
theorem msX6_countOf : qIs MX6_countOf := ⟨qT_in 1004 (by decide +kernel) rfl, qT_in 41 (by decide +kernel) rfl⟩
theorem maX6_countOf : qAr MX6_countOf 2 := by unfold qAr; decide +kernel
abbrev MX6_attackers : qM := (yX6_attackers, cX6_attackers, 2, (some .int), { frames := 4, cells := 0, slots := 0, locals := 99 })
theorem miX6_attackers : qIn MX6_attackers := ⟨qT_in 886 (by decide +kernel) rfl, qT_in 61 (by decide +kernel) rfl, ⟨by decide +kernel, by decide +kernel⟩, rfl, rfl⟩
theorem msX6_attackers : qIs MX6_attackers := ⟨qT_in 884 (by decide +kernel) rfl, qT_in 885 (by decide +kernel) rfl⟩
theorem maX6_attackers : qAr MX6_attackers 1 := by unfold qAr; decide +kernel
abbrev MX6_attackersAgain : qM := (yX6_attackersAgain, cX6_attackersAgain, 2, (some .int), { frames := 5, cells := 0, slots := 0, locals := 120 })
theorem miX6_attackersAgain : qIn MX6_attackersAgain := ⟨qT_in 902 (by decide +kernel) rfl, qT_in 61 (by decide +kernel) rfl, ⟨by decide +kernel, by decide +kernel⟩, rfl, rfl⟩
theorem msX6_attackersAgain : qIs MX6_attackersAgain := ⟨qT_in 900 (by decide +kernel) rfl, qT_in 901 (by decide +kernel) rfl⟩
theorem maX6_attackersAgain : qAr MX6_attackersAgain 1 := by unfold qAr; decide +kernel
abbrev MX6_canEscape : qM := (yX6_canEscape, cX6_canEscape, 5, (some .boolean), { frames := 4, cells := 0, slots := 0, locals := 99 })
theorem miX6_canEscape : qIn MX6_canEscape := ⟨qT_in 915 (by decide +kernel) rfl, qT_in 61 (by decide +kernel) rfl, ⟨by decide +kernel, by decide +kernel⟩, rfl, rfl⟩
theorem msX6_canEscape : qIs MX6_canEscape := ⟨qT_in 914 (by decide +kernel) rfl, qT_in 31 (by decide +kernel) rfl⟩
theorem maX6_canEscape : qAr MX6_canEscape 1 := by unfold qAr; decide +kernel
abbrev MX6_escapeSet : qM := (yX6_escapeSet, cX6_escapeSet, 3, (some .int), { frames := 5, cells := 0, slots := 0, locals := 123 })
theorem miX6_escapeSet : qIn MX6_escapeSet := ⟨qT_in 911 (by decide +kernel) rfl, qT_in 61 (by decide +kernel) rfl, ⟨by decide +kernel, by decide +kernel⟩, rfl, rfl⟩
theorem msX6_escapeSet : qIs MX6_escapeSet := ⟨qT_in 910 (by decide +kernel) rfl, qT_in 30 (by decide +kernel) rfl⟩
theorem maX6_escapeSet : qAr MX6_escapeSet 0 := by unfold qAr; decide +kernel
abbrev MX6_escapes : qM := (yX6_escapes, cX6_escapes, 1, (some .int), { frames := 6, cells := 0, slots := 0, locals := 145 })
theorem miX6_escapes : qIn MX6_escapes := ⟨qT_in 907 (by decide +kernel) rfl, qT_in 61 (by decide +kernel) rfl, ⟨by decide +kernel, by decide +kernel⟩, rfl, rfl⟩
theorem msX6_escapes : qIs MX6_escapes := ⟨qT_in 905 (by decide +kernel) rfl, qT_in 906 (by decide +kernel) rfl⟩
theorem maX6_escapes : qAr MX6_escapes 0 := by unfold qAr; decide +kernel
abbrev MX6_fits : qM := (yX6_fits, cX6_fits, 2, (some .boolean), { frames := 4, cells := 0, slots := 0, locals := 99 })
theorem miX6_fits : qIn MX6_fits := ⟨qT_in 930 (by decide +kernel) rfl, qT_in 61 (by decide +kernel) rfl, ⟨by decide +kernel, by decide +kernel⟩, rfl, rfl⟩
theorem msX6_fits : qIs MX6_fits := ⟨qT_in 929 (by decide +kernel) rfl, qT_in 32 (by decide +kernel) rfl⟩
theorem maX6_fits : qAr MX6_fits 0 := by unfold qAr; decide +kernel
abbrev MX6_isFit : qM := (yX6_isFit, cX6_isFit, 1, (some .int), { frames := 5, cells := 0, slots := 0, locals := 120 })
theorem miX6_isFit : qIn MX6_isFit := ⟨qT_in 926 (by decide +kernel) rfl, qT_in 61 (by decide +kernel) rfl, ⟨by decide +kernel, by decide +kernel⟩, rfl, rfl⟩
theorem msX6_isFit : qIs MX6_isFit := ⟨qT_in 924 (by decide +kernel) rfl, qT_in 925 (by decide +kernel) rfl⟩
theorem maX6_isFit : qAr MX6_isFit 0 := by unfold qAr; decide +kernel
abbrev MX6_kindOf : qM := (yX6_kindOf, cX6_kindOf, 8, (some .int), { frames := 6, cells := 0, slots := 0, locals := 145 })
theorem miX6_kindOf : qIn MX6_kindOf := ⟨qT_in 953 (by decide +kernel) rfl, qT_in 61 (by decide +kernel) rfl, ⟨by decide +kernel, by decide +kernel⟩, rfl, rfl⟩
theorem msX6_kindOf : qIs MX6_kindOf := ⟨qT_in 952 (by decide +kernel) rfl, qT_in 36 (by decide +kernel) rfl⟩
theorem maX6_kindOf : qAr MX6_kindOf 2 := by unfold qAr; decide +kernel
abbrev MX6_tells : qM := (yX6_tells, cX6_tells, 6, none, { frames := 7, cells := 0, slots := 0, locals := 172 })
theorem miX6_tells : qIn MX6_tells := ⟨qT_in 938 (by decide +kernel) rfl, qT_in 61 (by decide +kernel) rfl, ⟨by decide +kernel, by decide +kernel⟩, rfl, rfl⟩
theorem msX6_tells : qIs MX6_tells := ⟨qT_in 937 (by decide +kernel) rfl, qT_in 33 (by decide +kernel) rfl⟩
theorem maX6_tells : qAr MX6_tells 2 := by unfold qAr; decide +kernel
abbrev MX6_move : qM := (yX6_move, cX6_move, 2, (some .int), { frames := 8, cells := 0, slots := 0, locals := 197 })
theorem miX6_move : qIn MX6_move := ⟨qT_in 934 (by decide +kernel) rfl, qT_in 61 (by decide +kernel) rfl, ⟨by decide +kernel, by decide +kernel⟩, rfl, rfl⟩
theorem msX6_move : qIs MX6_move := ⟨qT_in 932 (by decide +kernel) rfl, qT_in 933 (by decide +kernel) rfl⟩
theorem maX6_move : qAr MX6_move 1 := by unfold qAr; decide +kernel
abbrev MX6_key : qM := (yX6_key, cX6_key, 2, (some .int), { frames := 8, cells := 0, slots := 0, locals := 197 })
theorem miX6_key : qIn MX6_key := ⟨qT_in 957 (by decide +kernel) rfl, qT_in 61 (by decide +kernel) rfl, ⟨by decide +kernel, by decide +kernel⟩, rfl, rfl⟩
theorem msX6_key : qIs MX6_key := ⟨qT_in 955 (by decide +kernel) rfl, qT_in 956 (by decide +kernel) rfl⟩
theorem maX6_key : qAr MX6_key 1 := by unfold qAr; decide +kernel
abbrev MX6_areSquares : qM := (yX6_areSquares, cX6_areSquares, 3, (some .boolean), { frames := 2, cells := 0, slots := 0, locals := 42 })
theorem miX6_areSquares : qIn MX6_areSquares := ⟨qT_in 965 (by decide +kernel) rfl, qT_in 61 (by decide +kernel) rfl, ⟨by decide +kernel, by decide +kernel⟩, rfl, rfl⟩
theorem msX6_areSquares : qIs MX6_areSquares := ⟨qT_in 964 (by decide +kernel) rfl, qT_in 37 (by decide +kernel) rfl⟩
theorem maX6_areSquares : qAr MX6_areSquares 2 := by unfold qAr; decide +kernel
abbrev MX6_kind : qM := (yX6_kind, cX6_kind, 3, (some .int), { frames := 7, cells := 0, slots := 0, locals := 172 })
theorem miX6_kind : qIn MX6_kind := ⟨qT_in 961 (by decide +kernel) rfl, qT_in 61 (by decide +kernel) rfl, ⟨by decide +kernel, by decide +kernel⟩, rfl, rfl⟩
theorem msX6_kind : qIs MX6_kind := ⟨qT_in 959 (by decide +kernel) rfl, qT_in 960 (by decide +kernel) rfl⟩
theorem maX6_kind : qAr MX6_kind 2 := by unfold qAr; decide +kernel
abbrev MX6_refutation : qM := (yX6_refutation, cX6_refutation, 3, (some .int), { frames := 7, cells := 0, slots := 0, locals := 172 })
theorem miX6_refutation : qIn MX6_refutation := ⟨qT_in 969 (by decide +kernel) rfl, qT_in 61 (by decide +kernel) rfl, ⟨by decide +kernel, by decide +kernel⟩, rfl, rfl⟩
theorem msX6_refutation : qIs MX6_refutation := ⟨qT_in 967 (by decide +kernel) rfl, qT_in 968 (by decide +kernel) rfl⟩
theorem maX6_refutation : qAr MX6_refutation 2 := by unfold qAr; decide +kernel
abbrev MX6_manyOf : qM := (yX6_manyOf, cX6_manyOf, 2, (some .int), { frames := 8, cells := 0, slots := 0, locals := 197 })
theorem miX6_manyOf : qIn MX6_manyOf := ⟨qT_in 977 (by decide +kernel) rfl, qT_in 61 (by decide +kernel) rfl, ⟨by decide +kernel, by decide +kernel⟩, rfl, rfl⟩
theorem msX6_manyOf : qIs MX6_manyOf := ⟨qT_in 976 (by decide +kernel) rfl, qT_in 38 (by decide +kernel) rfl⟩
theorem maX6_manyOf : qAr MX6_manyOf 1 := by unfold qAr; decide +kernel
abbrev MX6_many : qM := (yX6_many, cX6_many, 2, (some .int), { frames := 9, cells := 0, slots := 0, locals := 218 })
theorem miX6_many : qIn MX6_many := ⟨qT_in 973 (by decide +kernel) rfl, qT_in 61 (by decide +kernel) rfl, ⟨by decide +kernel, by decide +kernel⟩, rfl, rfl⟩
theorem msX6_many : qIs MX6_many := ⟨qT_in 971 (by decide +kernel) rfl, qT_in 972 (by decide +kernel) rfl⟩
theorem maX6_many : qAr MX6_many 1 := by unfold qAr; decide +kernel
abbrev MX6_duals : qM := (yX6_duals, cX6_duals, 1, (some .int), { frames := 9, cells := 0, slots := 0, locals := 218 })
theorem miX6_duals : qIn MX6_duals := ⟨qT_in 981 (by decide +kernel) rfl, qT_in 61 (by decide +kernel) rfl, ⟨by decide +kernel, by decide +kernel⟩, rfl, rfl⟩
theorem msX6_duals : qIs MX6_duals := ⟨qT_in 979 (by decide +kernel) rfl, qT_in 980 (by decide +kernel) rfl⟩
theorem maX6_duals : qAr MX6_duals 0 := by unfold qAr; decide +kernel
abbrev MX6_would : qM := (yX6_would, cX6_would, 5, (some .int), { frames := 9, cells := 0, slots := 0, locals := 218 })
theorem miX6_would : qIn MX6_would := ⟨qT_in 985 (by decide +kernel) rfl, qT_in 61 (by decide +kernel) rfl, ⟨by decide +kernel, by decide +kernel⟩, rfl, rfl⟩
theorem msX6_would : qIs MX6_would := ⟨qT_in 983 (by decide +kernel) rfl, qT_in 984 (by decide +kernel) rfl⟩
theorem maX6_would : qAr MX6_would 2 := by unfold qAr; decide +kernel
abbrev MX6_canSpare : qM := (yX6_canSpare, cX6_canSpare, 6, (some .boolean), { frames := 9, cells := 0, slots := 0, locals := 218 })
theorem miX6_canSpare : qIn MX6_canSpare := ⟨qT_in 997 (by decide +kernel) rfl, qT_in 61 (by decide +kernel) rfl, ⟨by decide +kernel, by decide +kernel⟩, rfl, rfl⟩
theorem msX6_canSpare : qIs MX6_canSpare := ⟨qT_in 996 (by decide +kernel) rfl, qT_in 40 (by decide +kernel) rfl⟩
theorem maX6_canSpare : qAr MX6_canSpare 1 := by unfold qAr; decide +kernel
abbrev MX6_doThrift : qM := (yX6_doThrift, cX6_doThrift, 3, (some .int), { frames := 10, cells := 0, slots := 0, locals := 243 })
theorem miX6_doThrift : qIn MX6_doThrift := ⟨qT_in 993 (by decide +kernel) rfl, qT_in 61 (by decide +kernel) rfl, ⟨by decide +kernel, by decide +kernel⟩, rfl, rfl⟩
theorem msX6_doThrift : qIs MX6_doThrift := ⟨qT_in 992 (by decide +kernel) rfl, qT_in 39 (by decide +kernel) rfl⟩
theorem maX6_doThrift : qAr MX6_doThrift 0 := by unfold qAr; decide +kernel
abbrev MX6_thrift : qM := (yX6_thrift, cX6_thrift, 1, (some .int), { frames := 11, cells := 0, slots := 0, locals := 265 })
theorem miX6_thrift : qIn MX6_thrift := ⟨qT_in 989 (by decide +kernel) rfl, qT_in 61 (by decide +kernel) rfl, ⟨by decide +kernel, by decide +kernel⟩, rfl, rfl⟩
theorem msX6_thrift : qIs MX6_thrift := ⟨qT_in 987 (by decide +kernel) rfl, qT_in 988 (by decide +kernel) rfl⟩
theorem maX6_thrift : qAr MX6_thrift 0 := by unfold qAr; decide +kernel
abbrev MX6_manOf : qM := (yX6_manOf, cX6_manOf, 3, (some .int), { frames := 10, cells := 0, slots := 0, locals := 243 })
theorem miX6_manOf : qIn MX6_manOf := ⟨qT_in 1001 (by decide +kernel) rfl, qT_in 61 (by decide +kernel) rfl, ⟨by decide +kernel, by decide +kernel⟩, rfl, rfl⟩
theorem msX6_manOf : qIs MX6_manOf := ⟨qT_in 999 (by decide +kernel) rfl, qT_in 1000 (by decide +kernel) rfl⟩
theorem maX6_manOf : qAr MX6_manOf 2 := by unfold qAr; decide +kernel
abbrev MX6_ranked : qM := (yX6_ranked, cX6_ranked, 6, (some .int), { frames := 6, cells := 0, slots := 0, locals := 148 })
theorem miX6_ranked : qIn MX6_ranked := ⟨qT_in 1009 (by decide +kernel) rfl, qT_in 61 (by decide +kernel) rfl, ⟨by decide +kernel, by decide +kernel⟩, rfl, rfl⟩
theorem msX6_ranked : qIs MX6_ranked := ⟨qT_in 1007 (by decide +kernel) rfl, qT_in 1008 (by decide +kernel) rfl⟩
theorem maX6_ranked : qAr MX6_ranked 1 := by unfold qAr; decide +kernel
abbrev MX6_doPlay : qM := (yX6_doPlay, cX6_doPlay, 4, (some .int), { frames := 5, cells := 0, slots := 0, locals := 124 })
theorem miX6_doPlay : qIn MX6_doPlay := ⟨qT_in 1017 (by decide +kernel) rfl, qT_in 61 (by decide +kernel) rfl, ⟨by decide +kernel, by decide +kernel⟩, rfl, rfl⟩
theorem msX6_doPlay : qIs MX6_doPlay := ⟨qT_in 1016 (by decide +kernel) rfl, qT_in 42 (by decide +kernel) rfl⟩
theorem maX6_doPlay : qAr MX6_doPlay 2 := by unfold qAr; decide +kernel
abbrev MX6_play : qM := (yX6_play, cX6_play, 3, (some .int), { frames := 6, cells := 0, slots := 0, locals := 147 })
theorem miX6_play : qIn MX6_play := ⟨qT_in 1013 (by decide +kernel) rfl, qT_in 61 (by decide +kernel) rfl, ⟨by decide +kernel, by decide +kernel⟩, rfl, rfl⟩
theorem msX6_play : qIs MX6_play := ⟨qT_in 1011 (by decide +kernel) rfl, qT_in 1012 (by decide +kernel) rfl⟩
theorem maX6_play : qAr MX6_play 2 := by unfold qAr; decide +kernel
abbrev MX6_doTurn : qM := (yX6_doTurn, cX6_doTurn, 5, (some .int), { frames := 1, cells := 0, slots := 0, locals := 26 })
theorem miX6_doTurn : qIn MX6_doTurn := ⟨qT_in 1025 (by decide +kernel) rfl, qT_in 61 (by decide +kernel) rfl, ⟨by decide +kernel, by decide +kernel⟩, rfl, rfl⟩
theorem msX6_doTurn : qIs MX6_doTurn := ⟨qT_in 1024 (by decide +kernel) rfl, qT_in 43 (by decide +kernel) rfl⟩
theorem maX6_doTurn : qAr MX6_doTurn 1 := by unfold qAr; decide +kernel
abbrev MX6_turn : qM := (yX6_turn, cX6_turn, 1, (some .int), { frames := 2, cells := 0, slots := 0, locals := 50 })
theorem miX6_turn : qIn MX6_turn := ⟨qT_in 1021 (by decide +kernel) rfl, qT_in 61 (by decide +kernel) rfl, ⟨by decide +kernel, by decide +kernel⟩, rfl, rfl⟩
theorem msX6_turn : qIs MX6_turn := ⟨qT_in 1019 (by decide +kernel) rfl, qT_in 1020 (by decide +kernel) rfl⟩
theorem maX6_turn : qAr MX6_turn 0 := by unfold qAr; decide +kernel
abbrev MX6_mirror : qM := (yX6_mirror, cX6_mirror, 1, (some .int), { frames := 2, cells := 0, slots := 0, locals := 50 })
theorem miX6_mirror : qIn MX6_mirror := ⟨qT_in 1029 (by decide +kernel) rfl, qT_in 61 (by decide +kernel) rfl, ⟨by decide +kernel, by decide +kernel⟩, rfl, rfl⟩
theorem msX6_mirror : qIs MX6_mirror := ⟨qT_in 1027 (by decide +kernel) rfl, qT_in 1028 (by decide +kernel) rfl⟩
theorem maX6_mirror : qAr MX6_mirror 0 := by unfold qAr; decide +kernel
abbrev MX6_says : qM := (yX6_says, cX6_says, 2, none, { frames := 0, cells := 0, slots := 0, locals := 0 })
theorem miX6_says : qIn MX6_says := ⟨qT_in 1039 (by decide +kernel) rfl, qT_in 61 (by decide +kernel) rfl, ⟨by decide +kernel, by decide +kernel⟩, rfl, rfl⟩
theorem msX6_says : qIs MX6_says := ⟨qT_in 1038 (by decide +kernel) rfl, qT_in 44 (by decide +kernel) rfl⟩
theorem maX6_says : qAr MX6_says 1 := by unfold qAr; decide +kernel
abbrev MX6_show : qM := (yX6_show, cX6_show, 3, (some .int), { frames := 5, cells := 0, slots := 0, locals := 106 })
theorem miX6_show : qIn MX6_show := ⟨qT_in 1033 (by decide +kernel) rfl, qT_in 61 (by decide +kernel) rfl, ⟨by decide +kernel, by decide +kernel⟩, rfl, rfl⟩
theorem msX6_show : qIs MX6_show := ⟨qT_in 1031 (by decide +kernel) rfl, qT_in 1032 (by decide +kernel) rfl⟩
theorem maX6_show : qAr MX6_show 0 := by unfold qAr; decide +kernel
abbrev MX6_saysSquare : qM := (yX6_saysSquare, cX6_saysSquare, 2, none, { frames := 1, cells := 0, slots := 0, locals := 21 })
theorem miX6_saysSquare : qIn MX6_saysSquare := ⟨qT_in 1048 (by decide +kernel) rfl, qT_in 61 (by decide +kernel) rfl, ⟨by decide +kernel, by decide +kernel⟩, rfl, rfl⟩
theorem msX6_saysSquare : qIs MX6_saysSquare := ⟨qT_in 1047 (by decide +kernel) rfl, qT_in 45 (by decide +kernel) rfl⟩
theorem maX6_saysSquare : qAr MX6_saysSquare 1 := by unfold qAr; decide +kernel
abbrev MX6_tell : qM := (yX6_tell, cX6_tell, 4, (some .int), { frames := 8, cells := 0, slots := 0, locals := 194 })
theorem miX6_tell : qIn MX6_tell := ⟨qT_in 1043 (by decide +kernel) rfl, qT_in 61 (by decide +kernel) rfl, ⟨by decide +kernel, by decide +kernel⟩, rfl, rfl⟩
theorem msX6_tell : qIs MX6_tell := ⟨qT_in 1041 (by decide +kernel) rfl, qT_in 1042 (by decide +kernel) rfl⟩
theorem maX6_tell : qAr MX6_tell 2 := by unfold qAr; decide +kernel
abbrev MX6_sign : qM := (yX6_sign, cX6_sign, 2, (some .int), { frames := 1, cells := 0, slots := 0, locals := 22 })
theorem miX6_sign : qIn MX6_sign := ⟨qT_in 1052 (by decide +kernel) rfl, qT_in 61 (by decide +kernel) rfl, ⟨by decide +kernel, by decide +kernel⟩, rfl, rfl⟩
theorem msX6_sign : qIs MX6_sign := ⟨qT_in 1050 (by decide +kernel) rfl, qT_in 1051 (by decide +kernel) rfl⟩
theorem maX6_sign : qAr MX6_sign 1 := by unfold qAr; decide +kernel
abbrev MX6_append : qM := (yX6_append, cX6_append, 2, (some .int), { frames := 1, cells := 0, slots := 0, locals := 22 })
theorem miX6_append : qIn MX6_append := ⟨qT_in 1056 (by decide +kernel) rfl, qT_in 61 (by decide +kernel) rfl, ⟨by decide +kernel, by decide +kernel⟩, rfl, rfl⟩
theorem msX6_append : qIs MX6_append := ⟨qT_in 1054 (by decide +kernel) rfl, qT_in 1055 (by decide +kernel) rfl⟩
theorem maX6_append : qAr MX6_append 1 := by unfold qAr; decide +kernel
abbrev MX6_isHere : qM := (yX6_isHere, cX6_isHere, 3, (some .boolean), { frames := 1, cells := 0, slots := 0, locals := 22 })
theorem miX6_isHere : qIn MX6_isHere := ⟨qT_in 1077 (by decide +kernel) rfl, qT_in 61 (by decide +kernel) rfl, ⟨by decide +kernel, by decide +kernel⟩, rfl, rfl⟩
theorem msX6_isHere : qIs MX6_isHere := ⟨qT_in 1076 (by decide +kernel) rfl, qT_in 49 (by decide +kernel) rfl⟩
theorem maX6_isHere : qAr MX6_isHere 2 := by unfold qAr; decide +kernel
abbrev MX6_signAt : qM := (yX6_signAt, cX6_signAt, 3, (some .int), { frames := 2, cells := 0, slots := 0, locals := 44 })
theorem miX6_signAt : qIn MX6_signAt := ⟨qT_in 1073 (by decide +kernel) rfl, qT_in 61 (by decide +kernel) rfl, ⟨by decide +kernel, by decide +kernel⟩, rfl, rfl⟩
theorem msX6_signAt : qIs MX6_signAt := ⟨qT_in 1072 (by decide +kernel) rfl, qT_in 48 (by decide +kernel) rfl⟩
theorem maX6_signAt : qAr MX6_signAt 2 := by unfold qAr; decide +kernel
abbrev MX6_square : qM := (yX6_square, cX6_square, 2, (some .int), { frames := 3, cells := 0, slots := 0, locals := 66 })
theorem miX6_square : qIn MX6_square := ⟨qT_in 1069 (by decide +kernel) rfl, qT_in 61 (by decide +kernel) rfl, ⟨by decide +kernel, by decide +kernel⟩, rfl, rfl⟩
theorem msX6_square : qIs MX6_square := ⟨qT_in 1068 (by decide +kernel) rfl, qT_in 47 (by decide +kernel) rfl⟩
theorem maX6_square : qAr MX6_square 0 := by unfold qAr; decide +kernel
abbrev MX6_order : qM := (yX6_order, cX6_order, 4, none, { frames := 0, cells := 0, slots := 0, locals := 0 })
theorem miX6_order : qIn MX6_order := ⟨qT_in 1081 (by decide +kernel) rfl, qT_in 61 (by decide +kernel) rfl, ⟨by decide +kernel, by decide +kernel⟩, rfl, rfl⟩
theorem msX6_order : qIs MX6_order := ⟨qT_in 1080 (by decide +kernel) rfl, qT_in 50 (by decide +kernel) rfl⟩
theorem maX6_order : qAr MX6_order 3 := by unfold qAr; decide +kernel
abbrev MX6_readOrder : qM := (yX6_readOrder, cX6_readOrder, 5, none, { frames := 7, cells := 0, slots := 0, locals := 159 })
theorem miX6_readOrder : qIn MX6_readOrder := ⟨qT_in 1064 (by decide +kernel) rfl, qT_in 61 (by decide +kernel) rfl, ⟨by decide +kernel, by decide +kernel⟩, rfl, rfl⟩
theorem msX6_readOrder : qIs MX6_readOrder := ⟨qT_in 1063 (by decide +kernel) rfl, qT_in 46 (by decide +kernel) rfl⟩
theorem maX6_readOrder : qAr MX6_readOrder 0 := by unfold qAr; decide +kernel
abbrev MX6_does : qM := (yX6_does, cX6_does, 4, (some .int), { frames := 11, cells := 0, slots := 0, locals := 265 })
theorem miX6_does : qIn MX6_does := ⟨qT_in 1085 (by decide +kernel) rfl, qT_in 61 (by decide +kernel) rfl, ⟨by decide +kernel, by decide +kernel⟩, rfl, rfl⟩
theorem msX6_does : qIs MX6_does := ⟨qT_in 1084 (by decide +kernel) rfl, qT_in 51 (by decide +kernel) rfl⟩
theorem maX6_does : qAr MX6_does 1 := by unfold qAr; decide +kernel
abbrev MX6_read : qM := (yX6_read, cX6_read, 4, (some .int), { frames := 12, cells := 0, slots := 0, locals := 288 })
theorem miX6_read : qIn MX6_read := ⟨qT_in 1060 (by decide +kernel) rfl, qT_in 61 (by decide +kernel) rfl, ⟨by decide +kernel, by decide +kernel⟩, rfl, rfl⟩
theorem msX6_read : qIs MX6_read := ⟨qT_in 1058 (by decide +kernel) rfl, qT_in 1059 (by decide +kernel) rfl⟩
theorem maX6_read : qAr MX6_read 0 := by unfold qAr; decide +kernel
abbrev MX6_attacked : qM := (yX6_attacked, cX6_attacked, 3, (some .int), { frames := 4, cells := 0, slots := 0, locals := 99 })
theorem miX6_attacked : qIn MX6_attacked := ⟨qT_in 1097 (by decide +kernel) rfl, qT_in 61 (by decide +kernel) rfl, ⟨by decide +kernel, by decide +kernel⟩, rfl, rfl⟩
theorem msX6_attacked : qIs MX6_attacked := ⟨qT_in 1096 (by decide +kernel) rfl, qT_in 53 (by decide +kernel) rfl⟩
theorem maX6_attacked : qAr MX6_attacked 0 := by unfold qAr; decide +kernel
abbrev MX6_count : qM := (yX6_count, cX6_count, 4, (some .int), { frames := 2, cells := 0, slots := 0, locals := 42 })
theorem miX6_count : qIn MX6_count := ⟨qT_in 1093 (by decide +kernel) rfl, qT_in 61 (by decide +kernel) rfl, ⟨by decide +kernel, by decide +kernel⟩, rfl, rfl⟩
theorem msX6_count : qIs MX6_count := ⟨qT_in 1092 (by decide +kernel) rfl, qT_in 52 (by decide +kernel) rfl⟩
theorem maX6_count : qAr MX6_count 1 := by unfold qAr; decide +kernel
abbrev MX6_account : qM := (yX6_account, cX6_account, 2, (some .int), { frames := 9, cells := 0, slots := 0, locals := 218 })
theorem miX6_account : qIn MX6_account := ⟨qT_in 1089 (by decide +kernel) rfl, qT_in 61 (by decide +kernel) rfl, ⟨by decide +kernel, by decide +kernel⟩, rfl, rfl⟩
theorem msX6_account : qIs MX6_account := ⟨qT_in 1087 (by decide +kernel) rfl, qT_in 1088 (by decide +kernel) rfl⟩
theorem maX6_account : qAr MX6_account 1 := by unfold qAr; decide +kernel
abbrev MX6_isWell : qM := (yX6_isWell, cX6_isWell, 1, (some .int), { frames := 0, cells := 0, slots := 0, locals := 0 })
theorem miX6_isWell : qIn MX6_isWell := ⟨qT_in 1101 (by decide +kernel) rfl, qT_in 61 (by decide +kernel) rfl, ⟨by decide +kernel, by decide +kernel⟩, rfl, rfl⟩
theorem msX6_isWell : qIs MX6_isWell := ⟨qT_in 1099 (by decide +kernel) rfl, qT_in 1100 (by decide +kernel) rfl⟩
theorem maX6_isWell : qAr MX6_isWell 0 := by unfold qAr; decide +kernel
abbrev MX6_share : qM := (yX6_share, cX6_share, 1, (some .int), { frames := 5, cells := 0, slots := 0, locals := 121 })
theorem miX6_share : qIn MX6_share := ⟨qT_in 1105 (by decide +kernel) rfl, qT_in 61 (by decide +kernel) rfl, ⟨by decide +kernel, by decide +kernel⟩, rfl, rfl⟩
theorem msX6_share : qIs MX6_share := ⟨qT_in 1103 (by decide +kernel) rfl, qT_in 1104 (by decide +kernel) rfl⟩
theorem maX6_share : qAr MX6_share 0 := by unfold qAr; decide +kernel
abbrev MX6_undo : qM := (yX6_undo, cX6_undo, 1, (some .int), { frames := 1, cells := 0, slots := 0, locals := 26 })
theorem miX6_undo : qIn MX6_undo := ⟨qT_in 1120 (by decide +kernel) rfl, qT_in 61 (by decide +kernel) rfl, ⟨by decide +kernel, by decide +kernel⟩, rfl, rfl⟩
theorem msX6_undo : qIs MX6_undo := ⟨qT_in 1118 (by decide +kernel) rfl, qT_in 1119 (by decide +kernel) rfl⟩
theorem maX6_undo : qAr MX6_undo 0 := by unfold qAr; decide +kernel
abbrev MX6_save : qM := (yX6_save, cX6_save, 1, (some .int), { frames := 1, cells := 0, slots := 0, locals := 26 })
theorem miX6_save : qIn MX6_save := ⟨qT_in 1124 (by decide +kernel) rfl, qT_in 61 (by decide +kernel) rfl, ⟨by decide +kernel, by decide +kernel⟩, rfl, rfl⟩
theorem msX6_save : qIs MX6_save := ⟨qT_in 1122 (by decide +kernel) rfl, qT_in 1123 (by decide +kernel) rfl⟩
theorem maX6_save : qAr MX6_save 0 := by unfold qAr; decide +kernel
abbrev MX6_restore : qM := (yX6_restore, cX6_restore, 1, (some .int), { frames := 1, cells := 0, slots := 0, locals := 26 })
theorem miX6_restore : qIn MX6_restore := ⟨qT_in 1128 (by decide +kernel) rfl, qT_in 61 (by decide +kernel) rfl, ⟨by decide +kernel, by decide +kernel⟩, rfl, rfl⟩
theorem msX6_restore : qIs MX6_restore := ⟨qT_in 1126 (by decide +kernel) rfl, qT_in 1127 (by decide +kernel) rfl⟩
theorem maX6_restore : qAr MX6_restore 0 := by unfold qAr; decide +kernel
abbrev MJ11_isValidCodePoint_9a6ad : qM := (yJ11_isValidCodePoint_9a6ad, cJ11_isValidCodePoint_9a6ad, 2, (some .boolean), { frames := 0, cells := 0, slots := 0, locals := 0 })
theorem miJ11_isValidCodePoint_9a6ad : qIn MJ11_isValidCodePoint_9a6ad := ⟨qT_in 669 (by decide +kernel) rfl, qT_in 68 (by decide +kernel) rfl, ⟨by decide +kernel, by decide +kernel⟩, rfl, rfl⟩
theorem mtJ11_isValidCodePoint_9a6ad : Cond.static yJ11_isValidCodePoint_9a6ad ∈ qT := qT_in 668 (by decide +kernel) rfl
theorem maJ11_isValidCodePoint_9a6ad : qAr MJ11_isValidCodePoint_9a6ad 1 := by unfold qAr; decide +kernel
abbrev MJ11_highSurrogate_5068e : qM := (yJ11_highSurrogate_5068e, cJ11_highSurrogate_5068e, 1, (some .char), { frames := 0, cells := 0, slots := 0, locals := 0 })
theorem miJ11_highSurrogate_5068e : qIn MJ11_highSurrogate_5068e := ⟨qT_in 672 (by decide +kernel) rfl, qT_in 68 (by decide +kernel) rfl, ⟨by decide +kernel, by decide +kernel⟩, rfl, rfl⟩
theorem mtJ11_highSurrogate_5068e : Cond.static yJ11_highSurrogate_5068e ∈ qT := qT_in 671 (by decide +kernel) rfl
theorem maJ11_highSurrogate_5068e : qAr MJ11_highSurrogate_5068e 1 := by unfold qAr; decide +kernel
abbrev MJ11_lowSurrogate_5068e : qM := (yJ11_lowSurrogate_5068e, cJ11_lowSurrogate_5068e, 1, (some .char), { frames := 0, cells := 0, slots := 0, locals := 0 })
theorem miJ11_lowSurrogate_5068e : qIn MJ11_lowSurrogate_5068e := ⟨qT_in 676 (by decide +kernel) rfl, qT_in 68 (by decide +kernel) rfl, ⟨by decide +kernel, by decide +kernel⟩, rfl, rfl⟩
theorem mtJ11_lowSurrogate_5068e : Cond.static yJ11_lowSurrogate_5068e ∈ qT := qT_in 675 (by decide +kernel) rfl
theorem maJ11_lowSurrogate_5068e : qAr MJ11_lowSurrogate_5068e 1 := by unfold qAr; decide +kernel
abbrev MJ9_abs_0f7a4 : qM := (yJ9_abs_0f7a4, cJ9_abs_0f7a4, 1, (some .int), { frames := 0, cells := 0, slots := 0, locals := 0 })
theorem miJ9_abs_0f7a4 : qIn MJ9_abs_0f7a4 := ⟨qT_in 921 (by decide +kernel) rfl, qT_in 63 (by decide +kernel) rfl, ⟨by decide +kernel, by decide +kernel⟩, rfl, rfl⟩
theorem mtJ9_abs_0f7a4 : Cond.static yJ9_abs_0f7a4 ∈ qT := qT_in 920 (by decide +kernel) rfl
theorem maJ9_abs_0f7a4 : qAr MJ9_abs_0f7a4 1 := by unfold qAr; decide +kernel
abbrev MJ9_max_7cf53 : qM := (yJ9_max_7cf53, cJ9_max_7cf53, 2, (some .int), { frames := 0, cells := 0, slots := 0, locals := 0 })
theorem miJ9_max_7cf53 : qIn MJ9_max_7cf53 := ⟨qT_in 636 (by decide +kernel) rfl, qT_in 63 (by decide +kernel) rfl, ⟨by decide +kernel, by decide +kernel⟩, rfl, rfl⟩
theorem mtJ9_max_7cf53 : Cond.static yJ9_max_7cf53 ∈ qT := qT_in 635 (by decide +kernel) rfl
theorem maJ9_max_7cf53 : qAr MJ9_max_7cf53 2 := by unfold qAr; decide +kernel
abbrev MJ9_min_7cf53 : qM := (yJ9_min_7cf53, cJ9_min_7cf53, 2, (some .int), { frames := 0, cells := 0, slots := 0, locals := 0 })
theorem miJ9_min_7cf53 : qIn MJ9_min_7cf53 := ⟨qT_in 639 (by decide +kernel) rfl, qT_in 63 (by decide +kernel) rfl, ⟨by decide +kernel, by decide +kernel⟩, rfl, rfl⟩
theorem mtJ9_min_7cf53 : Cond.static yJ9_min_7cf53 ∈ qT := qT_in 638 (by decide +kernel) rfl
theorem maJ9_min_7cf53 : qAr MJ9_min_7cf53 2 := by unfold qAr; decide +kernel
abbrev MJ0_length_8abf5 : qM := (yJ0_length_8abf5, cJ0_length_8abf5, 1, (some .int), { frames := 1, cells := 0, slots := 0, locals := 20 })
theorem miJ0_length_8abf5 : qIn MJ0_length_8abf5 := ⟨qT_in 519 (by decide +kernel) rfl, qT_in 64 (by decide +kernel) rfl, ⟨by decide +kernel, by decide +kernel⟩, rfl, rfl⟩
theorem msJ0_length_8abf5 : qIs MJ0_length_8abf5 := ⟨qT_in 517 (by decide +kernel) rfl, qT_in 518 (by decide +kernel) rfl⟩
theorem maJ0_length_8abf5 : qAr MJ0_length_8abf5 0 := by unfold qAr; decide +kernel
abbrev MJ0_charAt_5068e : qM := (yJ0_charAt_5068e, cJ0_charAt_5068e, 2, (some .char), { frames := 4, cells := 0, slots := 0, locals := 85 })
theorem miJ0_charAt_5068e : qIn MJ0_charAt_5068e := ⟨qT_in 529 (by decide +kernel) rfl, qT_in 64 (by decide +kernel) rfl, ⟨by decide +kernel, by decide +kernel⟩, rfl, rfl⟩
theorem msJ0_charAt_5068e : qIs MJ0_charAt_5068e := ⟨qT_in 527 (by decide +kernel) rfl, qT_in 528 (by decide +kernel) rfl⟩
theorem maJ0_charAt_5068e : qAr MJ0_charAt_5068e 1 := by unfold qAr; decide +kernel
abbrev MJ0_indexOf_0f7a4 : qM := (yJ0_indexOf_0f7a4, cJ0_indexOf_0f7a4, 2, (some .int), { frames := 6, cells := 0, slots := 0, locals := 138 })
theorem miJ0_indexOf_0f7a4 : qIn MJ0_indexOf_0f7a4 := ⟨qT_in 622 (by decide +kernel) rfl, qT_in 64 (by decide +kernel) rfl, ⟨by decide +kernel, by decide +kernel⟩, rfl, rfl⟩
theorem msJ0_indexOf_0f7a4 : qIs MJ0_indexOf_0f7a4 := ⟨qT_in 620 (by decide +kernel) rfl, qT_in 621 (by decide +kernel) rfl⟩
theorem maJ0_indexOf_0f7a4 : qAr MJ0_indexOf_0f7a4 1 := by unfold qAr; decide +kernel
abbrev MJ0_indexOf_7cf53 : qM := (yJ0_indexOf_7cf53, cJ0_indexOf_7cf53, 3, (some .int), { frames := 5, cells := 0, slots := 0, locals := 116 })
theorem miJ0_indexOf_7cf53 : qIn MJ0_indexOf_7cf53 := ⟨qT_in 626 (by decide +kernel) rfl, qT_in 64 (by decide +kernel) rfl, ⟨by decide +kernel, by decide +kernel⟩, rfl, rfl⟩
theorem msJ0_indexOf_7cf53 : qIs MJ0_indexOf_7cf53 := ⟨qT_in 624 (by decide +kernel) rfl, qT_in 625 (by decide +kernel) rfl⟩
theorem maJ0_indexOf_7cf53 : qAr MJ0_indexOf_7cf53 2 := by unfold qAr; decide +kernel
abbrev MJ0_coder_7d493 : qM := (yJ0_coder_7d493, cJ0_coder_7d493, 1, (some .byte), { frames := 0, cells := 0, slots := 0, locals := 0 })
theorem miJ0_coder_7d493 : qIn MJ0_coder_7d493 := ⟨qT_in 523 (by decide +kernel) rfl, qT_in 64 (by decide +kernel) rfl, ⟨by decide +kernel, by decide +kernel⟩, rfl, rfl⟩
theorem msJ0_coder_7d493 : qIs MJ0_coder_7d493 := ⟨qT_in 521 (by decide +kernel) rfl, qT_in 522 (by decide +kernel) rfl⟩
theorem maJ0_coder_7d493 : qAr MJ0_coder_7d493 0 := by unfold qAr; decide +kernel
abbrev MJ0_isLatin1_aae02 : qM := (yJ0_isLatin1_aae02, cJ0_isLatin1_aae02, 1, (some .boolean), { frames := 0, cells := 0, slots := 0, locals := 0 })
theorem miJ0_isLatin1_aae02 : qIn MJ0_isLatin1_aae02 := ⟨qT_in 533 (by decide +kernel) rfl, qT_in 64 (by decide +kernel) rfl, ⟨by decide +kernel, by decide +kernel⟩, rfl, rfl⟩
theorem msJ0_isLatin1_aae02 : qIs MJ0_isLatin1_aae02 := ⟨qT_in 531 (by decide +kernel) rfl, qT_in 532 (by decide +kernel) rfl⟩
theorem maJ0_isLatin1_aae02 : qAr MJ0_isLatin1_aae02 0 := by unfold qAr; decide +kernel
abbrev MJ0_checkIndex_df160 : qM := (yJ0_checkIndex_df160, cJ0_checkIndex_df160, 2, none, { frames := 1, cells := 0, slots := 0, locals := 22 })
theorem miJ0_checkIndex_df160 : qIn MJ0_checkIndex_df160 := ⟨qT_in 539 (by decide +kernel) rfl, qT_in 64 (by decide +kernel) rfl, ⟨by decide +kernel, by decide +kernel⟩, rfl, rfl⟩
theorem mtJ0_checkIndex_df160 : Cond.static yJ0_checkIndex_df160 ∈ qT := qT_in 538 (by decide +kernel) rfl
theorem maJ0_checkIndex_df160 : qAr MJ0_checkIndex_df160 2 := by unfold qAr; decide +kernel
abbrev MJ0_checkBoundsBeginEnd_23922 : qM := (yJ0_checkBoundsBeginEnd_23922, cJ0_checkBoundsBeginEnd_23922, 3, none, { frames := 1, cells := 0, slots := 0, locals := 23 })
theorem miJ0_checkBoundsBeginEnd_23922 : qIn MJ0_checkBoundsBeginEnd_23922 := ⟨qT_in 657 (by decide +kernel) rfl, qT_in 64 (by decide +kernel) rfl, ⟨by decide +kernel, by decide +kernel⟩, rfl, rfl⟩
theorem mtJ0_checkBoundsBeginEnd_23922 : Cond.static yJ0_checkBoundsBeginEnd_23922 ∈ qT := qT_in 656 (by decide +kernel) rfl
theorem maJ0_checkBoundsBeginEnd_23922 : qAr MJ0_checkBoundsBeginEnd_23922 3 := by unfold qAr; decide +kernel
abbrev MJ1_charAt_3b067 : qM := (yJ1_charAt_3b067, cJ1_charAt_3b067, 2, (some .char), { frames := 2, cells := 0, slots := 0, locals := 43 })
theorem miJ1_charAt_3b067 : qIn MJ1_charAt_3b067 := ⟨qT_in 536 (by decide +kernel) rfl, qT_in 65 (by decide +kernel) rfl, ⟨by decide +kernel, by decide +kernel⟩, rfl, rfl⟩
theorem mtJ1_charAt_3b067 : Cond.static yJ1_charAt_3b067 ∈ qT := qT_in 535 (by decide +kernel) rfl
theorem maJ1_charAt_3b067 : qAr MJ1_charAt_3b067 2 := by unfold qAr; decide +kernel
abbrev MJ1_canEncode_9a6ad : qM := (yJ1_canEncode_9a6ad, cJ1_canEncode_9a6ad, 1, (some .boolean), { frames := 0, cells := 0, slots := 0, locals := 0 })
theorem miJ1_canEncode_9a6ad : qIn MJ1_canEncode_9a6ad := ⟨qT_in 633 (by decide +kernel) rfl, qT_in 65 (by decide +kernel) rfl, ⟨by decide +kernel, by decide +kernel⟩, rfl, rfl⟩
theorem mtJ1_canEncode_9a6ad : Cond.static yJ1_canEncode_9a6ad ∈ qT := qT_in 632 (by decide +kernel) rfl
theorem maJ1_canEncode_9a6ad : qAr MJ1_canEncode_9a6ad 1 := by unfold qAr; decide +kernel
abbrev MJ1_indexOf_4cfef : qM := (yJ1_indexOf_4cfef, cJ1_indexOf_4cfef, 4, (some .int), { frames := 1, cells := 0, slots := 0, locals := 25 })
theorem miJ1_indexOf_4cfef : qIn MJ1_indexOf_4cfef := ⟨qT_in 630 (by decide +kernel) rfl, qT_in 65 (by decide +kernel) rfl, ⟨by decide +kernel, by decide +kernel⟩, rfl, rfl⟩
theorem mtJ1_indexOf_4cfef : Cond.static yJ1_indexOf_4cfef ∈ qT := qT_in 629 (by decide +kernel) rfl
theorem maJ1_indexOf_4cfef : qAr MJ1_indexOf_4cfef 4 := by unfold qAr; decide +kernel
abbrev MJ1_indexOfChar_4cfef : qM := (yJ1_indexOfChar_4cfef, cJ1_indexOfChar_4cfef, 6, (some .int), { frames := 0, cells := 0, slots := 0, locals := 0 })
theorem miJ1_indexOfChar_4cfef : qIn MJ1_indexOfChar_4cfef := ⟨qT_in 642 (by decide +kernel) rfl, qT_in 65 (by decide +kernel) rfl, ⟨by decide +kernel, by decide +kernel⟩, rfl, rfl⟩
theorem mtJ1_indexOfChar_4cfef : Cond.static yJ1_indexOfChar_4cfef ∈ qT := qT_in 641 (by decide +kernel) rfl
theorem maJ1_indexOfChar_4cfef : qAr MJ1_indexOfChar_4cfef 4 := by unfold qAr; decide +kernel
abbrev MJ2_getChar_3b067 : qM := (yJ2_getChar_3b067, cJ2_getChar_3b067, 2, (some .char), { frames := 1, cells := 0, slots := 0, locals := 20 })
theorem miJ2_getChar_3b067 : qIn MJ2_getChar_3b067 := ⟨qT_in 557 (by decide +kernel) rfl, qT_in 67 (by decide +kernel) rfl, ⟨by decide +kernel, by decide +kernel⟩, rfl, rfl⟩
theorem mtJ2_getChar_3b067 : Cond.static yJ2_getChar_3b067 ∈ qT := qT_in 556 (by decide +kernel) rfl
theorem maJ2_getChar_3b067 : qAr MJ2_getChar_3b067 2 := by unfold qAr; decide +kernel
abbrev MJ2_length_9d52b : qM := (yJ2_length_9d52b, cJ2_length_9d52b, 1, (some .int), { frames := 0, cells := 0, slots := 0, locals := 0 })
theorem miJ2_length_9d52b : qIn MJ2_length_9d52b := ⟨qT_in 553 (by decide +kernel) rfl, qT_in 67 (by decide +kernel) rfl, ⟨by decide +kernel, by decide +kernel⟩, rfl, rfl⟩
theorem mtJ2_length_9d52b : Cond.static yJ2_length_9d52b ∈ qT := qT_in 552 (by decide +kernel) rfl
theorem maJ2_length_9d52b : qAr MJ2_length_9d52b 1 := by unfold qAr; decide +kernel
abbrev MJ2_indexOf_4cfef : qM := (yJ2_indexOf_4cfef, cJ2_indexOf_4cfef, 4, (some .int), { frames := 4, cells := 0, slots := 0, locals := 93 })
theorem miJ2_indexOf_4cfef : qIn MJ2_indexOf_4cfef := ⟨qT_in 645 (by decide +kernel) rfl, qT_in 67 (by decide +kernel) rfl, ⟨by decide +kernel, by decide +kernel⟩, rfl, rfl⟩
theorem mtJ2_indexOf_4cfef : Cond.static yJ2_indexOf_4cfef ∈ qT := qT_in 644 (by decide +kernel) rfl
theorem maJ2_indexOf_4cfef : qAr MJ2_indexOf_4cfef 4 := by unfold qAr; decide +kernel
abbrev MJ2_indexOfChar_4cfef : qM := (yJ2_indexOfChar_4cfef, cJ2_indexOfChar_4cfef, 4, (some .int), { frames := 3, cells := 0, slots := 0, locals := 67 })
theorem miJ2_indexOfChar_4cfef : qIn MJ2_indexOfChar_4cfef := ⟨qT_in 651 (by decide +kernel) rfl, qT_in 67 (by decide +kernel) rfl, ⟨by decide +kernel, by decide +kernel⟩, rfl, rfl⟩
theorem mtJ2_indexOfChar_4cfef : Cond.static yJ2_indexOfChar_4cfef ∈ qT := qT_in 650 (by decide +kernel) rfl
theorem maJ2_indexOfChar_4cfef : qAr MJ2_indexOfChar_4cfef 4 := by unfold qAr; decide +kernel
abbrev MJ2_indexOfCharUnsafe_4cfef : qM := (yJ2_indexOfCharUnsafe_4cfef, cJ2_indexOfCharUnsafe_4cfef, 5, (some .int), { frames := 2, cells := 0, slots := 0, locals := 41 })
theorem miJ2_indexOfCharUnsafe_4cfef : qIn MJ2_indexOfCharUnsafe_4cfef := ⟨qT_in 663 (by decide +kernel) rfl, qT_in 67 (by decide +kernel) rfl, ⟨by decide +kernel, by decide +kernel⟩, rfl, rfl⟩
theorem mtJ2_indexOfCharUnsafe_4cfef : Cond.static yJ2_indexOfCharUnsafe_4cfef ∈ qT := qT_in 662 (by decide +kernel) rfl
theorem maJ2_indexOfCharUnsafe_4cfef : qAr MJ2_indexOfCharUnsafe_4cfef 4 := by unfold qAr; decide +kernel
abbrev MJ2_indexOfSupplementary_4cfef : qM := (yJ2_indexOfSupplementary_4cfef, cJ2_indexOfSupplementary_4cfef, 7, (some .int), { frames := 3, cells := 0, slots := 0, locals := 67 })
theorem miJ2_indexOfSupplementary_4cfef : qIn MJ2_indexOfSupplementary_4cfef := ⟨qT_in 666 (by decide +kernel) rfl, qT_in 67 (by decide +kernel) rfl, ⟨by decide +kernel, by decide +kernel⟩, rfl, rfl⟩
theorem mtJ2_indexOfSupplementary_4cfef : Cond.static yJ2_indexOfSupplementary_4cfef ∈ qT := qT_in 665 (by decide +kernel) rfl
theorem maJ2_indexOfSupplementary_4cfef : qAr MJ2_indexOfSupplementary_4cfef 4 := by unfold qAr; decide +kernel
abbrev MJ2_charAt_3b067 : qM := (yJ2_charAt_3b067, cJ2_charAt_3b067, 2, (some .char), { frames := 3, cells := 0, slots := 0, locals := 64 })
theorem miJ2_charAt_3b067 : qIn MJ2_charAt_3b067 := ⟨qT_in 547 (by decide +kernel) rfl, qT_in 67 (by decide +kernel) rfl, ⟨by decide +kernel, by decide +kernel⟩, rfl, rfl⟩
theorem mtJ2_charAt_3b067 : Cond.static yJ2_charAt_3b067 ∈ qT := qT_in 546 (by decide +kernel) rfl
theorem maJ2_charAt_3b067 : qAr MJ2_charAt_3b067 2 := by unfold qAr; decide +kernel
abbrev MJ2_checkIndex_2214a : qM := (yJ2_checkIndex_2214a, cJ2_checkIndex_2214a, 2, none, { frames := 2, cells := 0, slots := 0, locals := 43 })
theorem miJ2_checkIndex_2214a : qIn MJ2_checkIndex_2214a := ⟨qT_in 550 (by decide +kernel) rfl, qT_in 67 (by decide +kernel) rfl, ⟨by decide +kernel, by decide +kernel⟩, rfl, rfl⟩
theorem mtJ2_checkIndex_2214a : Cond.static yJ2_checkIndex_2214a ∈ qT := qT_in 549 (by decide +kernel) rfl
theorem maJ2_checkIndex_2214a : qAr MJ2_checkIndex_2214a 2 := by unfold qAr; decide +kernel
abbrev MJ2_checkBoundsBeginEnd_d044e : qM := (yJ2_checkBoundsBeginEnd_d044e, cJ2_checkBoundsBeginEnd_d044e, 3, none, { frames := 2, cells := 0, slots := 0, locals := 45 })
theorem miJ2_checkBoundsBeginEnd_d044e : qIn MJ2_checkBoundsBeginEnd_d044e := ⟨qT_in 654 (by decide +kernel) rfl, qT_in 67 (by decide +kernel) rfl, ⟨by decide +kernel, by decide +kernel⟩, rfl, rfl⟩
theorem mtJ2_checkBoundsBeginEnd_d044e : Cond.static yJ2_checkBoundsBeginEnd_d044e ∈ qT := qT_in 653 (by decide +kernel) rfl
theorem maJ2_checkBoundsBeginEnd_d044e : qAr MJ2_checkBoundsBeginEnd_d044e 3 := by unfold qAr; decide +kernel
abbrev MJ3_checkIndex_8e157 : qM := (yJ3_checkIndex_8e157, cJ3_checkIndex_8e157, 3, (some .int), { frames := 0, cells := 0, slots := 0, locals := 0 })
theorem miJ3_checkIndex_8e157 : qIn MJ3_checkIndex_8e157 := ⟨qT_in 544 (by decide +kernel) rfl, qT_in 66 (by decide +kernel) rfl, ⟨by decide +kernel, by decide +kernel⟩, rfl, rfl⟩
theorem mtJ3_checkIndex_8e157 : Cond.static yJ3_checkIndex_8e157 ∈ qT := qT_in 543 (by decide +kernel) rfl
theorem maJ3_checkIndex_8e157 : qAr MJ3_checkIndex_8e157 3 := by unfold qAr; decide +kernel
abbrev MJ3_checkFromToIndex_8c36e : qM := (yJ3_checkFromToIndex_8c36e, cJ3_checkFromToIndex_8c36e, 4, (some .int), { frames := 0, cells := 0, slots := 0, locals := 0 })
theorem miJ3_checkFromToIndex_8c36e : qIn MJ3_checkFromToIndex_8c36e := ⟨qT_in 660 (by decide +kernel) rfl, qT_in 66 (by decide +kernel) rfl, ⟨by decide +kernel, by decide +kernel⟩, rfl, rfl⟩
theorem mtJ3_checkFromToIndex_8c36e : Cond.static yJ3_checkFromToIndex_8c36e ∈ qT := qT_in 659 (by decide +kernel) rfl
theorem maJ3_checkFromToIndex_8c36e : qAr MJ3_checkFromToIndex_8c36e 4 := by unfold qAr; decide +kernel
theorem lkX5_67 : Cond.methodLink RX5 67 yX3_copyFrom ∈ qT := qT_in 242 (by decide +kernel) rfl
theorem lkX5_71 : Cond.methodLink RX5 71 yX5_putNow ∈ qT := qT_in 246 (by decide +kernel) rfl
theorem lkX5_75 : Cond.methodLink RX5 75 yX5_keep ∈ qT := qT_in 281 (by decide +kernel) rfl
theorem lkX5_79 : Cond.methodLink RX5 79 yX5_liftNow ∈ qT := qT_in 298 (by decide +kernel) rfl
theorem lkX5_82 : Cond.methodLink RX5 82 yX5_playNow ∈ qT := qT_in 306 (by decide +kernel) rfl
theorem lkX5_85 : Cond.methodLink RX5 85 yX5_turnNow ∈ qT := qT_in 337 (by decide +kernel) rfl
theorem lkX5_89 : Cond.methodLink RX5 89 yX5_mirrorNow ∈ qT := qT_in 345 (by decide +kernel) rfl
theorem lkX5_92 : Cond.methodLink RX5 92 yX5_thriftNow ∈ qT := qT_in 353 (by decide +kernel) rfl
theorem lkX5_95 : Cond.methodLink RX5 95 yX5_isSquare ∈ qT := qT_in 250 (by decide +kernel) rfl
theorem lkX5_99 : Cond.methodLink RX5 99 yX3_manOn ∈ qT := qT_in 253 (by decide +kernel) rfl
theorem lkX5_102 : Cond.methodLink RX5 102 yX3_countManByMan ∈ qT := qT_in 372 (by decide +kernel) rfl
theorem lkX5_105 : Cond.methodLink RX5 105 yX3_countLineByLine ∈ qT := qT_in 417 (by decide +kernel) rfl
theorem lkX5_108 : Cond.methodLink RX5 108 yX3_reach ∈ qT := qT_in 422 (by decide +kernel) rfl
theorem lkX5_111 : Cond.methodLink RX5 111 yX5_bitsOf ∈ qT := qT_in 423 (by decide +kernel) rfl
theorem lkX5_114 : Cond.methodLink RX5 114 yX3_movesFrom ∈ qT := qT_in 424 (by decide +kernel) rfl
theorem lkX5_117 : Cond.methodLink RX5 117 yX3_fits ∈ qT := qT_in 357 (by decide +kernel) rfl
theorem lkX5_121 : Cond.methodLink RX5 121 yX3_keysFrom ∈ qT := qT_in 404 (by decide +kernel) rfl
theorem lkX5_124 : Cond.methodLink RX5 124 yX2_fillWithKeys ∈ qT := qT_in 376 (by decide +kernel) rfl
theorem lkX5_127 : Cond.methodLink RX5 127 yX5_canSpare ∈ qT := qT_in 393 (by decide +kernel) rfl
theorem lkX5_130 : Cond.methodLink RX5 130 yX2_fillWithMoves ∈ qT := qT_in 429 (by decide +kernel) rfl
theorem lkX5_133 : Cond.methodLink RX5 133 yX2_pick ∈ qT := qT_in 434 (by decide +kernel) rfl
theorem lkX5_136 : Cond.methodLink RX5 136 yX3_squareOf ∈ qT := qT_in 265 (by decide +kernel) rfl
theorem lkX5_139 : Cond.methodLink RX5 139 yX3_outlook ∈ qT := qT_in 443 (by decide +kernel) rfl
theorem lkX5_142 : Cond.methodLink RX5 142 yX5_squaresIn ∈ qT := qT_in 444 (by decide +kernel) rfl
theorem lkX5_145 : Cond.methodLink RX5 145 yX3_hasMove ∈ qT := qT_in 310 (by decide +kernel) rfl
theorem lkX5_149 : Cond.methodLink RX5 149 yX3_kindOfMove ∈ qT := qT_in 460 (by decide +kernel) rfl
theorem lkX5_152 : Cond.methodLink RX5 152 yX3_outlookBehind ∈ qT := qT_in 469 (by decide +kernel) rfl
theorem lkX5_155 : Cond.methodLink RX5 155 yX5_lowestIn ∈ qT := qT_in 470 (by decide +kernel) rfl
theorem lkX5_158 : Cond.methodLink RX5 158 yX5_fillTally ∈ qT := qT_in 477 (by decide +kernel) rfl
theorem lkX5_161 : Cond.methodLink RX5 161 yX2_count ∈ qT := qT_in 397 (by decide +kernel) rfl
theorem lkX5_164 : Cond.methodLink RX5 164 yX5_isKing ∈ qT := qT_in 262 (by decide +kernel) rfl
theorem lkX5_167 : Cond.methodLink RX5 167 yX3_setMan ∈ qT := qT_in 277 (by decide +kernel) rfl
theorem lkX5_171 : Cond.methodLink RX5 171 yX5_isWhite ∈ qT := qT_in 498 (by decide +kernel) rfl
theorem lkX5_174 : Cond.methodLink RX5 174 yX5_placeInOrder ∈ qT := qT_in 499 (by decide +kernel) rfl
theorem lkX5_177 : Cond.methodLink RX5 177 yX1_clear ∈ qT := qT_in 507 (by decide +kernel) rfl
theorem lkX5_180 : Cond.methodLink RX5 180 yX1_writeMan ∈ qT := qT_in 511 (by decide +kernel) rfl
theorem lkX5_184 : Cond.methodLink RX5 184 yX1_write ∈ qT := qT_in 568 (by decide +kernel) rfl
theorem lkX5_190 : Cond.methodLink RX5 190 yX1_writeSquare ∈ qT := qT_in 574 (by decide +kernel) rfl
theorem lkX5_193 : Cond.methodLink RX5 193 yX1_writeMoveSign ∈ qT := qT_in 578 (by decide +kernel) rfl
theorem lkX5_196 : Cond.methodLink RX5 196 yX1_codeAt ∈ qT := qT_in 587 (by decide +kernel) rfl
theorem lkX5_199 : Cond.methodLink RX5 199 yX4_add ∈ qT := qT_in 595 (by decide +kernel) rfl
theorem lkX5_202 : Cond.methodLink RX5 202 yX4_findFault ∈ qT := qT_in 603 (by decide +kernel) rfl
theorem lkX5_205 : Cond.methodLink RX5 205 yX4_clear ∈ qT := qT_in 686 (by decide +kernel) rfl
theorem lkX5_209 : Cond.methodLink RX5 209 yX4_whatOf ∈ qT := qT_in 690 (by decide +kernel) rfl
theorem lkX5_212 : Cond.methodLink RX5 212 yX4_squareOf ∈ qT := qT_in 694 (by decide +kernel) rfl
theorem lkX5_213 : Cond.methodLink RX5 213 yX4_originOf ∈ qT := qT_in 698 (by decide +kernel) rfl
theorem lkX5_216 : Cond.methodLink RX5 216 yX0_push ∈ qT := qT_in 285 (by decide +kernel) rfl
theorem lkX5_228 : Cond.methodLink RX5 228 yX3_countAll ∈ qT := qT_in 269 (by decide +kernel) rfl
theorem lkX5_231 : Cond.methodLink RX5 231 yX3_countKinds ∈ qT := qT_in 710 (by decide +kernel) rfl
theorem lkX5_234 : Cond.methodLink RX5 234 yX3_covered ∈ qT := qT_in 711 (by decide +kernel) rfl
theorem lkX5_253 : Cond.methodLink RX5 253 yX5_kindsAreAllMoves ∈ qT := qT_in 719 (by decide +kernel) rfl
theorem lkX5_256 : Cond.methodLink RX5 256 yX5_keysLeaveNoFlight ∈ qT := qT_in 723 (by decide +kernel) rfl
theorem lkX5_260 : Cond.methodLink RX5 260 yX5_bitsOfShare ∈ qT := qT_in 732 (by decide +kernel) rfl
theorem lkX5_264 : Cond.methodLink RX5 264 yX0_pop ∈ qT := qT_in 740 (by decide +kernel) rfl
theorem lkX5_271 : Cond.methodLink RX5 271 yX0_clear ∈ qT := qT_in 752 (by decide +kernel) rfl
theorem lkX5_272 : Cond.methodLink RX5 272 yX5_refuse ∈ qT := qT_in 258 (by decide +kernel) rfl
theorem lkX5_278 : Cond.methodLink RX5 278 yX5_hasSquare ∈ qT := qT_in 481 (by decide +kernel) rfl
theorem lkX5_281 : Cond.methodLink RX5 281 yX5_countKind ∈ qT := qT_in 482 (by decide +kernel) rfl
theorem lkX0_22 : Cond.methodLink RX0 22 yX0_rowAt ∈ qT := qT_in 289 (by decide +kernel) rfl
theorem lkX0_26 : Cond.methodLink RX0 26 yX3_copyFrom ∈ qT := qT_in 293 (by decide +kernel) rfl
theorem lkX1_21 : Cond.methodLink RX1 21 yJ0_length_8abf5 ∈ qT := qT_in 516 (by decide +kernel) rfl
theorem lkX1_26 : Cond.methodLink RX1 26 yJ0_charAt_5068e ∈ qT := qT_in 526 (by decide +kernel) rfl
theorem lkX1_30 : Cond.methodLink RX1 30 yX1_write ∈ qT := qT_in 564 (by decide +kernel) rfl
theorem lkX2_15 : Cond.methodLink RX2 15 yX3_movesFrom ∈ qT := qT_in 433 (by decide +kernel) rfl
theorem lkX2_21 : Cond.methodLink RX2 21 yX3_keysFrom ∈ qT := qT_in 380 (by decide +kernel) rfl
theorem lkX3_32 : Cond.methodLink RX3 32 yX3_countKinds ∈ qT := qT_in 273 (by decide +kernel) rfl
theorem lkX3_36 : Cond.methodLink RX3 36 yX3_squareOf ∈ qT := qT_in 321 (by decide +kernel) rfl
theorem lkX3_40 : Cond.methodLink RX3 40 yX3_countLineByLine ∈ qT := qT_in 361 (by decide +kernel) rfl
theorem lkX3_52 : Cond.methodLink RX3 52 yX3_reach ∈ qT := qT_in 322 (by decide +kernel) rfl
theorem lkX3_59 : Cond.methodLink RX3 59 yX3_isMetIn ∈ qT := qT_in 365 (by decide +kernel) rfl
theorem lkX3_62 : Cond.methodLink RX3 62 yX3_attacksAlong ∈ qT := qT_in 369 (by decide +kernel) rfl
theorem lkX3_66 : Cond.methodLink RX3 66 yX3_movesFrom ∈ qT := qT_in 314 (by decide +kernel) rfl
theorem lkX3_70 : Cond.methodLink RX3 70 yX3_outlook ∈ qT := qT_in 388 (by decide +kernel) rfl
theorem lkX3_74 : Cond.methodLink RX3 74 yX3_outlookBehind ∈ qT := qT_in 384 (by decide +kernel) rfl
theorem lkX4_31 : Cond.methodLink RX4 31 yX4_dueBehind ∈ qT := qT_in 607 (by decide +kernel) rfl
theorem lkX4_35 : Cond.methodLink RX4 35 yX4_keepCommand ∈ qT := qT_in 682 (by decide +kernel) rfl
theorem lkX4_47 : Cond.methodLink RX4 47 yX4_dueBehindFirst ∈ qT := qT_in 611 (by decide +kernel) rfl
theorem lkX4_51 : Cond.methodLink RX4 51 yX4_squareIn ∈ qT := qT_in 678 (by decide +kernel) rfl
theorem lkX4_57 : Cond.methodLink RX4 57 yX4_isLine ∈ qT := qT_in 615 (by decide +kernel) rfl
theorem lkX4_63 : Cond.methodLink RX4 63 yJ0_indexOf_0f7a4 ∈ qT := qT_in 619 (by decide +kernel) rfl
theorem lkL_13 : Cond.methodLink RL 13 yX5_put ∈ qT := qT_in 238 (by decide +kernel) rfl
theorem lkL_17 : Cond.methodLink RL 17 yX6_put ∈ qT := qT_in 837 (by decide +kernel) rfl
theorem lkL_18 : Cond.methodLink RL 18 yX5_lift ∈ qT := qT_in 294 (by decide +kernel) rfl
theorem lkL_22 : Cond.methodLink RL 22 yX6_lift ∈ qT := qT_in 871 (by decide +kernel) rfl
theorem lkL_23 : Cond.methodLink RL 23 yX5_play ∈ qT := qT_in 302 (by decide +kernel) rfl
theorem lkL_26 : Cond.methodLink RL 26 yX6_play ∈ qT := qT_in 1010 (by decide +kernel) rfl
theorem lkL_27 : Cond.methodLink RL 27 yX5_turn ∈ qT := qT_in 333 (by decide +kernel) rfl
theorem lkL_31 : Cond.methodLink RL 31 yX6_turn ∈ qT := qT_in 1018 (by decide +kernel) rfl
theorem lkL_32 : Cond.methodLink RL 32 yX5_mirror ∈ qT := qT_in 341 (by decide +kernel) rfl
theorem lkL_35 : Cond.methodLink RL 35 yX6_mirror ∈ qT := qT_in 1026 (by decide +kernel) rfl
theorem lkL_36 : Cond.methodLink RL 36 yX5_thrift ∈ qT := qT_in 349 (by decide +kernel) rfl
theorem lkL_39 : Cond.methodLink RL 39 yX6_thrift ∈ qT := qT_in 986 (by decide +kernel) rfl
theorem lkL_40 : Cond.methodLink RL 40 yX5_at ∈ qT := qT_in 405 (by decide +kernel) rfl
theorem lkL_43 : Cond.methodLink RL 43 yX6_at ∈ qT := qT_in 879 (by decide +kernel) rfl
theorem lkL_44 : Cond.methodLink RL 44 yX5_attackers ∈ qT := qT_in 409 (by decide +kernel) rfl
theorem lkL_47 : Cond.methodLink RL 47 yX6_attackers ∈ qT := qT_in 883 (by decide +kernel) rfl
theorem lkL_48 : Cond.methodLink RL 48 yX5_attackersAgain ∈ qT := qT_in 413 (by decide +kernel) rfl
theorem lkL_51 : Cond.methodLink RL 51 yX6_attackersAgain ∈ qT := qT_in 899 (by decide +kernel) rfl
theorem lkL_52 : Cond.methodLink RL 52 yX5_manOf ∈ qT := qT_in 418 (by decide +kernel) rfl
theorem lkL_55 : Cond.methodLink RL 55 yX6_manOf ∈ qT := qT_in 998 (by decide +kernel) rfl
theorem lkL_56 : Cond.methodLink RL 56 yX5_move ∈ qT := qT_in 425 (by decide +kernel) rfl
theorem lkL_59 : Cond.methodLink RL 59 yX6_move ∈ qT := qT_in 931 (by decide +kernel) rfl
theorem lkL_60 : Cond.methodLink RL 60 yX5_escapes ∈ qT := qT_in 439 (by decide +kernel) rfl
theorem lkL_63 : Cond.methodLink RL 63 yX6_escapes ∈ qT := qT_in 904 (by decide +kernel) rfl
theorem lkL_64 : Cond.methodLink RL 64 yX5_isFit ∈ qT := qT_in 448 (by decide +kernel) rfl
theorem lkL_67 : Cond.methodLink RL 67 yX6_isFit ∈ qT := qT_in 923 (by decide +kernel) rfl
theorem lkL_68 : Cond.methodLink RL 68 yX5_key ∈ qT := qT_in 452 (by decide +kernel) rfl
theorem lkL_71 : Cond.methodLink RL 71 yX6_key ∈ qT := qT_in 954 (by decide +kernel) rfl
theorem lkL_72 : Cond.methodLink RL 72 yX5_kind ∈ qT := qT_in 456 (by decide +kernel) rfl
theorem lkL_75 : Cond.methodLink RL 75 yX6_kind ∈ qT := qT_in 958 (by decide +kernel) rfl
theorem lkL_76 : Cond.methodLink RL 76 yX5_refutation ∈ qT := qT_in 465 (by decide +kernel) rfl
theorem lkL_79 : Cond.methodLink RL 79 yX6_refutation ∈ qT := qT_in 966 (by decide +kernel) rfl
theorem lkL_80 : Cond.methodLink RL 80 yX5_many ∈ qT := qT_in 473 (by decide +kernel) rfl
theorem lkL_83 : Cond.methodLink RL 83 yX6_many ∈ qT := qT_in 970 (by decide +kernel) rfl
theorem lkL_84 : Cond.methodLink RL 84 yX5_duals ∈ qT := qT_in 486 (by decide +kernel) rfl
theorem lkL_87 : Cond.methodLink RL 87 yX6_duals ∈ qT := qT_in 978 (by decide +kernel) rfl
theorem lkL_88 : Cond.methodLink RL 88 yX5_would ∈ qT := qT_in 490 (by decide +kernel) rfl
theorem lkL_91 : Cond.methodLink RL 91 yX6_would ∈ qT := qT_in 982 (by decide +kernel) rfl
theorem lkL_92 : Cond.methodLink RL 92 yX5_ranked ∈ qT := qT_in 494 (by decide +kernel) rfl
theorem lkL_95 : Cond.methodLink RL 95 yX6_ranked ∈ qT := qT_in 1006 (by decide +kernel) rfl
theorem lkL_96 : Cond.methodLink RL 96 yX5_show ∈ qT := qT_in 503 (by decide +kernel) rfl
theorem lkL_99 : Cond.methodLink RL 99 yX6_show ∈ qT := qT_in 1030 (by decide +kernel) rfl
theorem lkL_100 : Cond.methodLink RL 100 yX5_tell ∈ qT := qT_in 570 (by decide +kernel) rfl
theorem lkL_103 : Cond.methodLink RL 103 yX6_tell ∈ qT := qT_in 1040 (by decide +kernel) rfl
theorem lkL_104 : Cond.methodLink RL 104 yX5_sign ∈ qT := qT_in 583 (by decide +kernel) rfl
theorem lkL_107 : Cond.methodLink RL 107 yX6_sign ∈ qT := qT_in 1049 (by decide +kernel) rfl
theorem lkL_108 : Cond.methodLink RL 108 yX5_append ∈ qT := qT_in 591 (by decide +kernel) rfl
theorem lkL_111 : Cond.methodLink RL 111 yX6_append ∈ qT := qT_in 1053 (by decide +kernel) rfl
theorem lkL_112 : Cond.methodLink RL 112 yX5_read ∈ qT := qT_in 599 (by decide +kernel) rfl
theorem lkL_115 : Cond.methodLink RL 115 yX6_read ∈ qT := qT_in 1057 (by decide +kernel) rfl
theorem lkL_116 : Cond.methodLink RL 116 yX5_refusal ∈ qT := qT_in 702 (by decide +kernel) rfl
theorem lkL_119 : Cond.methodLink RL 119 yX6_refusal ∈ qT := qT_in 830 (by decide +kernel) rfl
theorem lkL_120 : Cond.methodLink RL 120 yX5_account ∈ qT := qT_in 706 (by decide +kernel) rfl
theorem lkL_123 : Cond.methodLink RL 123 yX6_account ∈ qT := qT_in 1086 (by decide +kernel) rfl
theorem lkL_124 : Cond.methodLink RL 124 yX5_isWell ∈ qT := qT_in 715 (by decide +kernel) rfl
theorem lkL_127 : Cond.methodLink RL 127 yX6_isWell ∈ qT := qT_in 1098 (by decide +kernel) rfl
theorem lkL_128 : Cond.methodLink RL 128 yX5_share ∈ qT := qT_in 727 (by decide +kernel) rfl
theorem lkL_131 : Cond.methodLink RL 131 yX6_share ∈ qT := qT_in 1102 (by decide +kernel) rfl
theorem lkL_132 : Cond.methodLink RL 132 yX5_undo ∈ qT := qT_in 736 (by decide +kernel) rfl
theorem lkL_135 : Cond.methodLink RL 135 yX6_undo ∈ qT := qT_in 1117 (by decide +kernel) rfl
theorem lkL_136 : Cond.methodLink RL 136 yX5_save ∈ qT := qT_in 744 (by decide +kernel) rfl
theorem lkL_139 : Cond.methodLink RL 139 yX6_save ∈ qT := qT_in 1121 (by decide +kernel) rfl
theorem lkL_140 : Cond.methodLink RL 140 yX5_restore ∈ qT := qT_in 748 (by decide +kernel) rfl
theorem lkL_143 : Cond.methodLink RL 143 yX6_restore ∈ qT := qT_in 1125 (by decide +kernel) rfl
theorem lkX6_60 : Cond.methodLink RX6 60 yX6_in ∈ qT := qT_in 834 (by decide +kernel) rfl
theorem lkX6_64 : Cond.methodLink RX6 64 yX6_isSquare ∈ qT := qT_in 852 (by decide +kernel) rfl
theorem lkX6_68 : Cond.methodLink RX6 68 yX6_refuse ∈ qT := qT_in 855 (by decide +kernel) rfl
theorem lkX6_72 : Cond.methodLink RX6 72 yX6_where ∈ qT := qT_in 859 (by decide +kernel) rfl
theorem lkX6_76 : Cond.methodLink RX6 76 yX6_men ∈ qT := qT_in 863 (by decide +kernel) rfl
theorem lkX6_80 : Cond.methodLink RX6 80 yX6_keep ∈ qT := qT_in 841 (by decide +kernel) rfl
theorem lkX6_83 : Cond.methodLink RX6 83 yX6_doPut ∈ qT := qT_in 848 (by decide +kernel) rfl
theorem lkX6_86 : Cond.methodLink RX6 86 yX6_ends ∈ qT := qT_in 867 (by decide +kernel) rfl
theorem lkX6_89 : Cond.methodLink RX6 89 yX6_doLift ∈ qT := qT_in 875 (by decide +kernel) rfl
theorem lkX6_92 : Cond.methodLink RX6 92 yX6_away ∈ qT := qT_in 891 (by decide +kernel) rfl
theorem lkX6_96 : Cond.methodLink RX6 96 yX6_firstAt ∈ qT := qT_in 895 (by decide +kernel) rfl
theorem lkX6_99 : Cond.methodLink RX6 99 yJ9_abs_0f7a4 ∈ qT := qT_in 919 (by decide +kernel) rfl
theorem lkX6_104 : Cond.methodLink RX6 104 yJ9_max_7cf53 ∈ qT := qT_in 922 (by decide +kernel) rfl
theorem lkX6_107 : Cond.methodLink RX6 107 yX6_isWhite ∈ qT := qT_in 943 (by decide +kernel) rfl
theorem lkX6_110 : Cond.methodLink RX6 110 yX6_attacks ∈ qT := qT_in 946 (by decide +kernel) rfl
theorem lkX6_114 : Cond.methodLink RX6 114 yX6_areBeside ∈ qT := qT_in 916 (by decide +kernel) rfl
theorem lkX6_117 : Cond.methodLink RX6 117 yX6_isMove ∈ qT := qT_in 939 (by decide +kernel) rfl
theorem lkX6_120 : Cond.methodLink RX6 120 yX6_attackersOf ∈ qT := qT_in 887 (by decide +kernel) rfl
theorem lkX6_123 : Cond.methodLink RX6 123 yX6_attackers ∈ qT := qT_in 903 (by decide +kernel) rfl
theorem lkX6_126 : Cond.methodLink RX6 126 yX6_canEscape ∈ qT := qT_in 912 (by decide +kernel) rfl
theorem lkX6_129 : Cond.methodLink RX6 129 yX6_escapeSet ∈ qT := qT_in 908 (by decide +kernel) rfl
theorem lkX6_132 : Cond.methodLink RX6 132 yX6_fits ∈ qT := qT_in 927 (by decide +kernel) rfl
theorem lkX6_142 : Cond.methodLink RX6 142 yX6_kindOf ∈ qT := qT_in 950 (by decide +kernel) rfl
theorem lkX6_145 : Cond.methodLink RX6 145 yX6_tells ∈ qT := qT_in 935 (by decide +kernel) rfl
theorem lkX6_149 : Cond.methodLink RX6 149 yX6_areSquares ∈ qT := qT_in 962 (by decide +kernel) rfl
theorem lkX6_152 : Cond.methodLink RX6 152 yX6_manyOf ∈ qT := qT_in 974 (by decide +kernel) rfl
theorem lkX6_155 : Cond.methodLink RX6 155 yX6_canSpare ∈ qT := qT_in 994 (by decide +kernel) rfl
theorem lkX6_158 : Cond.methodLink RX6 158 yX6_doThrift ∈ qT := qT_in 990 (by decide +kernel) rfl
theorem lkX6_161 : Cond.methodLink RX6 161 yX6_countOf ∈ qT := qT_in 1002 (by decide +kernel) rfl
theorem lkX6_165 : Cond.methodLink RX6 165 yX6_doPlay ∈ qT := qT_in 1014 (by decide +kernel) rfl
theorem lkX6_168 : Cond.methodLink RX6 168 yX6_doTurn ∈ qT := qT_in 1022 (by decide +kernel) rfl
theorem lkX6_177 : Cond.methodLink RX6 177 yJ0_charAt_5068e ∈ qT := qT_in 1035 (by decide +kernel) rfl
theorem lkX6_183 : Cond.methodLink RX6 183 yX6_says ∈ qT := qT_in 1036 (by decide +kernel) rfl
theorem lkX6_187 : Cond.methodLink RX6 187 yX6_kind ∈ qT := qT_in 1044 (by decide +kernel) rfl
theorem lkX6_190 : Cond.methodLink RX6 190 yX6_saysSquare ∈ qT := qT_in 1045 (by decide +kernel) rfl
theorem lkX6_204 : Cond.methodLink RX6 204 yX6_isHere ∈ qT := qT_in 1074 (by decide +kernel) rfl
theorem lkX6_208 : Cond.methodLink RX6 208 yX6_signAt ∈ qT := qT_in 1070 (by decide +kernel) rfl
theorem lkX6_215 : Cond.methodLink RX6 215 yJ0_indexOf_0f7a4 ∈ qT := qT_in 1065 (by decide +kernel) rfl
theorem lkX6_218 : Cond.methodLink RX6 218 yX6_square ∈ qT := qT_in 1066 (by decide +kernel) rfl
theorem lkX6_221 : Cond.methodLink RX6 221 yX6_order ∈ qT := qT_in 1078 (by decide +kernel) rfl
theorem lkX6_225 : Cond.methodLink RX6 225 yX6_readOrder ∈ qT := qT_in 1061 (by decide +kernel) rfl
theorem lkX6_228 : Cond.methodLink RX6 228 yX6_does ∈ qT := qT_in 1082 (by decide +kernel) rfl
theorem lkX6_231 : Cond.methodLink RX6 231 yX6_count ∈ qT := qT_in 1090 (by decide +kernel) rfl
theorem lkX6_234 : Cond.methodLink RX6 234 yX6_attacked ∈ qT := qT_in 1094 (by decide +kernel) rfl
theorem lkJ0_335 : Cond.methodLink RJ0 335 yJ0_coder_7d493 ∈ qT := qT_in 520 (by decide +kernel) rfl
theorem lkJ0_492 : Cond.methodLink RJ0 492 yJ0_isLatin1_aae02 ∈ qT := qT_in 530 (by decide +kernel) rfl
theorem lkJ0_495 : Cond.methodLink RJ0 495 yJ1_charAt_3b067 ∈ qT := qT_in 534 (by decide +kernel) rfl
theorem lkJ0_498 : Cond.methodLink RJ0 498 yJ2_charAt_3b067 ∈ qT := qT_in 545 (by decide +kernel) rfl
theorem lkJ0_505 : Cond.methodLink RJ0 505 yJ0_length_8abf5 ∈ qT := qT_in 627 (by decide +kernel) rfl
theorem lkJ0_633 : Cond.methodLink RJ0 633 yJ0_indexOf_7cf53 ∈ qT := qT_in 623 (by decide +kernel) rfl
theorem lkJ0_637 : Cond.methodLink RJ0 637 yJ1_indexOf_4cfef ∈ qT := qT_in 628 (by decide +kernel) rfl
theorem lkJ0_640 : Cond.methodLink RJ0 640 yJ2_indexOf_4cfef ∈ qT := qT_in 643 (by decide +kernel) rfl
theorem lkJ0_1059 : Cond.methodLink RJ0 1059 yJ3_checkIndex_8e157 ∈ qT := qT_in 542 (by decide +kernel) rfl
theorem lkJ0_1062 : Cond.methodLink RJ0 1062 yJ3_checkFromToIndex_8c36e ∈ qT := qT_in 658 (by decide +kernel) rfl
theorem lkJ1_9 : Cond.methodLink RJ1 9 yJ0_checkIndex_df160 ∈ qT := qT_in 537 (by decide +kernel) rfl
theorem lkJ1_38 : Cond.methodLink RJ1 38 yJ9_min_7cf53 ∈ qT := qT_in 637 (by decide +kernel) rfl
theorem lkJ1_88 : Cond.methodLink RJ1 88 yJ1_canEncode_9a6ad ∈ qT := qT_in 631 (by decide +kernel) rfl
theorem lkJ1_92 : Cond.methodLink RJ1 92 yJ9_max_7cf53 ∈ qT := qT_in 634 (by decide +kernel) rfl
theorem lkJ1_95 : Cond.methodLink RJ1 95 yJ1_indexOfChar_4cfef ∈ qT := qT_in 640 (by decide +kernel) rfl
theorem lkJ2_48 : Cond.methodLink RJ2 48 yJ2_length_9d52b ∈ qT := qT_in 551 (by decide +kernel) rfl
theorem lkJ2_67 : Cond.methodLink RJ2 67 yJ2_checkIndex_2214a ∈ qT := qT_in 548 (by decide +kernel) rfl
theorem lkJ2_71 : Cond.methodLink RJ2 71 yJ2_getChar_3b067 ∈ qT := qT_in 555 (by decide +kernel) rfl
theorem lkJ2_96 : Cond.methodLink RJ2 96 yJ2_checkBoundsBeginEnd_d044e ∈ qT := qT_in 652 (by decide +kernel) rfl
theorem lkJ2_157 : Cond.methodLink RJ2 157 yJ11_highSurrogate_5068e ∈ qT := qT_in 670 (by decide +kernel) rfl
theorem lkJ2_161 : Cond.methodLink RJ2 161 yJ11_lowSurrogate_5068e ∈ qT := qT_in 674 (by decide +kernel) rfl
theorem lkJ2_164 : Cond.methodLink RJ2 164 yJ11_isValidCodePoint_9a6ad ∈ qT := qT_in 667 (by decide +kernel) rfl
theorem lkJ2_183 : Cond.methodLink RJ2 183 yJ9_min_7cf53 ∈ qT := qT_in 647 (by decide +kernel) rfl
theorem lkJ2_224 : Cond.methodLink RJ2 224 yJ9_max_7cf53 ∈ qT := qT_in 646 (by decide +kernel) rfl
theorem lkJ2_228 : Cond.methodLink RJ2 228 yJ2_indexOfChar_4cfef ∈ qT := qT_in 649 (by decide +kernel) rfl
theorem lkJ2_232 : Cond.methodLink RJ2 232 yJ2_indexOfSupplementary_4cfef ∈ qT := qT_in 664 (by decide +kernel) rfl
theorem lkJ2_241 : Cond.methodLink RJ2 241 yJ0_checkBoundsBeginEnd_23922 ∈ qT := qT_in 655 (by decide +kernel) rfl
theorem lkJ2_244 : Cond.methodLink RJ2 244 yJ2_indexOfCharUnsafe_4cfef ∈ qT := qT_in 661 (by decide +kernel) rfl
theorem lkJ2_414 : Cond.methodLink RJ2 414 yJ0_checkIndex_df160 ∈ qT := qT_in 554 (by decide +kernel) rfl
theorem lkX2_24 : Cond.methodLinkNest RX2 24 yX5_bitsOf "MateKeys" ∈ qN := qN_in 401 (by decide +kernel) rfl
theorem lkX2_27 : Cond.methodLinkNest RX2 27 yX5_hasSquare "MateKeys" ∈ qN := qN_in 438 (by decide +kernel) rfl
theorem lkX3_28 : Cond.methodLinkNest RX3 28 yX5_isSquare "MateKeys" ∈ qN := qN_in 257 (by decide +kernel) rfl
theorem lkX3_49 : Cond.methodLinkNest RX3 49 yX5_isWhite "MateKeys" ∈ qN := qN_in 318 (by decide +kernel) rfl
theorem lkX3_55 : Cond.methodLinkNest RX3 55 yX5_hasSquare "MateKeys" ∈ qN := qN_in 330 (by decide +kernel) rfl
theorem lkX3_77 : Cond.methodLinkNest RX3 77 yX5_squaresIn "MateKeys" ∈ qN := qN_in 464 (by decide +kernel) rfl
theorem lfX5_12 : Cond.fieldLink RX5 12 "MateKeys" "now" "LMateKeys$Position;" ∈ qT := qT_in 189 (by decide +kernel) rfl
theorem lfX5_16 : Cond.fieldLink RX5 16 "MateKeys" "before" "LMateKeys$Position;" ∈ qT := qT_in 190 (by decide +kernel) rfl
theorem lfX5_19 : Cond.fieldLink RX5 19 "MateKeys" "trial" "LMateKeys$Position;" ∈ qT := qT_in 191 (by decide +kernel) rfl
theorem lfX5_22 : Cond.fieldLink RX5 22 "MateKeys" "saved" "LMateKeys$Position;" ∈ qT := qT_in 192 (by decide +kernel) rfl
theorem lfX5_28 : Cond.fieldLink RX5 28 "MateKeys" "history" "LMateKeys$History;" ∈ qT := qT_in 194 (by decide +kernel) rfl
theorem lfX5_35 : Cond.fieldLink RX5 35 "MateKeys" "moves" "LMateKeys$MoveTable;" ∈ qT := qT_in 195 (by decide +kernel) rfl
theorem lfX5_39 : Cond.fieldLink RX5 39 "MateKeys" "keys" "LMateKeys$MoveTable;" ∈ qT := qT_in 196 (by decide +kernel) rfl
theorem lfX5_42 : Cond.fieldLink RX5 42 "MateKeys" "tally" "[I" ∈ qT := qT_in 197 (by decide +kernel) rfl
theorem lfX5_46 : Cond.fieldLink RX5 46 "MateKeys" "moveCounts" "[I" ∈ qT := qT_in 198 (by decide +kernel) rfl
theorem lfX5_52 : Cond.fieldLink RX5 52 "MateKeys" "line" "LMateKeys$Line;" ∈ qT := qT_in 199 (by decide +kernel) rfl
theorem lfX5_59 : Cond.fieldLink RX5 59 "MateKeys" "script" "LMateKeys$Script;" ∈ qT := qT_in 200 (by decide +kernel) rfl
theorem lfX5_63 : Cond.fieldLink RX5 63 "MateKeys" "command" "I" ∈ qT := qT_in 201 (by decide +kernel) rfl
theorem lfX5_187 : Cond.fieldLink RX5 187 "MateKeys$Line" "length" "I" ∈ qT := qT_in 144 (by decide +kernel) rfl
theorem lfX5_206 : Cond.fieldLink RX5 206 "MateKeys$Script" "commands" "I" ∈ qT := qT_in 163 (by decide +kernel) rfl
theorem lfX5_219 : Cond.fieldLink RX5 219 "MateKeys" "reason" "I" ∈ qT := qT_in 202 (by decide +kernel) rfl
theorem lfX5_222 : Cond.fieldLink RX5 222 "MateKeys" "detail" "I" ∈ qT := qT_in 203 (by decide +kernel) rfl
theorem lfX5_225 : Cond.fieldLink RX5 225 "MateKeys" "refusedCommand" "I" ∈ qT := qT_in 204 (by decide +kernel) rfl
theorem lfX5_237 : Cond.fieldLink RX5 237 "MateKeys$Position" "played" "I" ∈ qT := qT_in 86 (by decide +kernel) rfl
theorem lfX5_240 : Cond.fieldLink RX5 240 "MateKeys$Position" "taken" "I" ∈ qT := qT_in 88 (by decide +kernel) rfl
theorem lfX5_243 : Cond.fieldLink RX5 243 "MateKeys$Position" "spared" "I" ∈ qT := qT_in 90 (by decide +kernel) rfl
theorem lfX5_246 : Cond.fieldLink RX5 246 "MateKeys$Position" "turned" "I" ∈ qT := qT_in 92 (by decide +kernel) rfl
theorem lfX5_249 : Cond.fieldLink RX5 249 "MateKeys$Script" "length" "I" ∈ qT := qT_in 158 (by decide +kernel) rfl
theorem lfX5_250 : Cond.fieldLink RX5 250 "MateKeys$History" "size" "I" ∈ qT := qT_in 117 (by decide +kernel) rfl
theorem lfX5_267 : Cond.fieldLink RX5 267 "MateKeys" "hasSaved" "Z" ∈ qT := qT_in 193 (by decide +kernel) rfl
theorem lfX5_275 : Cond.fieldLink RX5 275 "MateKeys$MoveTable" "targets" "[I" ∈ qT := qT_in 132 (by decide +kernel) rfl
theorem lfX0_11 : Cond.fieldLink RX0 11 "MateKeys$History" "rows" "[LMateKeys$Position;" ∈ qT := qT_in 114 (by decide +kernel) rfl
theorem lfX0_18 : Cond.fieldLink RX0 18 "MateKeys$History" "next" "I" ∈ qT := qT_in 115 (by decide +kernel) rfl
theorem lfX0_30 : Cond.fieldLink RX0 30 "MateKeys$History" "size" "I" ∈ qT := qT_in 116 (by decide +kernel) rfl
theorem lfX1_9 : Cond.fieldLink RX1 9 "MateKeys$Line" "codes" "[I" ∈ qT := qT_in 142 (by decide +kernel) rfl
theorem lfX1_15 : Cond.fieldLink RX1 15 "MateKeys$Line" "length" "I" ∈ qT := qT_in 143 (by decide +kernel) rfl
theorem lfX2_9 : Cond.fieldLink RX2 9 "MateKeys$MoveTable" "targets" "[I" ∈ qT := qT_in 131 (by decide +kernel) rfl
theorem lfX3_9 : Cond.fieldLink RX3 9 "MateKeys$Position" "men" "[I" ∈ qT := qT_in 84 (by decide +kernel) rfl
theorem lfX3_15 : Cond.fieldLink RX3 15 "MateKeys$Position" "played" "I" ∈ qT := qT_in 85 (by decide +kernel) rfl
theorem lfX3_19 : Cond.fieldLink RX3 19 "MateKeys$Position" "taken" "I" ∈ qT := qT_in 87 (by decide +kernel) rfl
theorem lfX3_22 : Cond.fieldLink RX3 22 "MateKeys$Position" "spared" "I" ∈ qT := qT_in 89 (by decide +kernel) rfl
theorem lfX3_25 : Cond.fieldLink RX3 25 "MateKeys$Position" "turned" "I" ∈ qT := qT_in 91 (by decide +kernel) rfl
theorem lfX4_9 : Cond.fieldLink RX4 9 "MateKeys$Script" "codes" "[I" ∈ qT := qT_in 156 (by decide +kernel) rfl
theorem lfX4_15 : Cond.fieldLink RX4 15 "MateKeys$Script" "whats" "[I" ∈ qT := qT_in 159 (by decide +kernel) rfl
theorem lfX4_18 : Cond.fieldLink RX4 18 "MateKeys$Script" "origins" "[I" ∈ qT := qT_in 160 (by decide +kernel) rfl
theorem lfX4_21 : Cond.fieldLink RX4 21 "MateKeys$Script" "squares" "[I" ∈ qT := qT_in 161 (by decide +kernel) rfl
theorem lfX4_24 : Cond.fieldLink RX4 24 "MateKeys$Script" "length" "I" ∈ qT := qT_in 157 (by decide +kernel) rfl
theorem lfX4_28 : Cond.fieldLink RX4 28 "MateKeys$Script" "commands" "I" ∈ qT := qT_in 162 (by decide +kernel) rfl
theorem lfX4_38 : Cond.fieldLink RX4 38 "MateKeys$Script" "what" "I" ∈ qT := qT_in 164 (by decide +kernel) rfl
theorem lfX4_41 : Cond.fieldLink RX4 41 "MateKeys$Script" "origin" "I" ∈ qT := qT_in 166 (by decide +kernel) rfl
theorem lfX4_44 : Cond.fieldLink RX4 44 "MateKeys$Script" "square" "I" ∈ qT := qT_in 167 (by decide +kernel) rfl
theorem lfX4_54 : Cond.fieldLink RX4 54 "MateKeys$Script" "column" "I" ∈ qT := qT_in 165 (by decide +kernel) rfl
theorem lfX6_9 : Cond.fieldLink RX6 9 "MateKeysModel" "s" "[I" ∈ qT := qT_in 762 (by decide +kernel) rfl
theorem lfX6_13 : Cond.fieldLink RX6 13 "MateKeysModel" "before" "[I" ∈ qT := qT_in 763 (by decide +kernel) rfl
theorem lfX6_16 : Cond.fieldLink RX6 16 "MateKeysModel" "saved" "[I" ∈ qT := qT_in 764 (by decide +kernel) rfl
theorem lfX6_19 : Cond.fieldLink RX6 19 "MateKeysModel" "past" "[I" ∈ qT := qT_in 766 (by decide +kernel) rfl
theorem lfX6_22 : Cond.fieldLink RX6 22 "MateKeysModel" "item" "I" ∈ qT := qT_in 770 (by decide +kernel) rfl
theorem lfX6_26 : Cond.fieldLink RX6 26 "MateKeysModel" "moves" "[I" ∈ qT := qT_in 772 (by decide +kernel) rfl
theorem lfX6_29 : Cond.fieldLink RX6 29 "MateKeysModel" "keys" "[I" ∈ qT := qT_in 774 (by decide +kernel) rfl
theorem lfX6_32 : Cond.fieldLink RX6 32 "MateKeysModel" "turned" "[I" ∈ qT := qT_in 775 (by decide +kernel) rfl
theorem lfX6_35 : Cond.fieldLink RX6 35 "MateKeysModel" "line" "[C" ∈ qT := qT_in 776 (by decide +kernel) rfl
theorem lfX6_39 : Cond.fieldLink RX6 39 "MateKeysModel" "text" "[C" ∈ qT := qT_in 778 (by decide +kernel) rfl
theorem lfX6_42 : Cond.fieldLink RX6 42 "MateKeysModel" "orders" "[I" ∈ qT := qT_in 782 (by decide +kernel) rfl
theorem lfX6_51 : Cond.fieldLink RX6 51 "MateKeysModel" "pastMany" "I" ∈ qT := qT_in 767 (by decide +kernel) rfl
theorem lfX6_54 : Cond.fieldLink RX6 54 "MateKeysModel" "reason" "I" ∈ qT := qT_in 768 (by decide +kernel) rfl
theorem lfX6_57 : Cond.fieldLink RX6 57 "MateKeysModel" "detail" "I" ∈ qT := qT_in 769 (by decide +kernel) rfl
theorem lfX6_136 : Cond.fieldLink RX6 136 "MateKeysModel" "lowest" "I" ∈ qT := qT_in 771 (by decide +kernel) rfl
theorem lfX6_139 : Cond.fieldLink RX6 139 "MateKeysModel" "moveMany" "I" ∈ qT := qT_in 773 (by decide +kernel) rfl
theorem lfX6_172 : Cond.fieldLink RX6 172 "MateKeysModel" "lineMany" "I" ∈ qT := qT_in 777 (by decide +kernel) rfl
theorem lfX6_194 : Cond.fieldLink RX6 194 "MateKeysModel" "length" "I" ∈ qT := qT_in 779 (by decide +kernel) rfl
theorem lfX6_197 : Cond.fieldLink RX6 197 "MateKeysModel" "isWrong" "Z" ∈ qT := qT_in 781 (by decide +kernel) rfl
theorem lfX6_201 : Cond.fieldLink RX6 201 "MateKeysModel" "at" "I" ∈ qT := qT_in 780 (by decide +kernel) rfl
theorem lfX6_212 : Cond.fieldLink RX6 212 "MateKeysModel" "orderMany" "I" ∈ qT := qT_in 783 (by decide +kernel) rfl
theorem lfX6_244 : Cond.fieldLink RX6 244 "MateKeysModel" "isSaved" "Z" ∈ qT := qT_in 765 (by decide +kernel) rfl
theorem lfJ0_9 : Cond.fieldLink RJ0 9 "java/lang/String" "value" "[B" ∈ qT := qT_in 1129 (by decide +kernel) rfl
theorem lfJ0_15 : Cond.fieldLink RJ0 15 "java/lang/String" "coder" "B" ∈ qT := qT_in 1130 (by decide +kernel) rfl
theorem lfJ0_38 : Cond.fieldLink RJ0 38 "java/lang/String" "COMPACT_STRINGS" "Z" ∈ qT := qT_in 524 (by decide +kernel) rfl
theorem lfJ0_1053 : Cond.fieldLink RJ0 1053 "jdk/internal/util/Preconditions" "SIOOBE_FORMATTER" "Ljava/util/function/BiFunction;" ∈ qT := qT_in 540 (by decide +kernel) rfl
theorem lfJ2_44 : Cond.fieldLink RJ2 44 "java/lang/StringUTF16" "$assertionsDisabled" "Z" ∈ qT := qT_in 558 (by decide +kernel) rfl
theorem lfJ2_59 : Cond.fieldLink RJ2 59 "java/lang/StringUTF16" "HI_BYTE_SHIFT" "I" ∈ qT := qT_in 560 (by decide +kernel) rfl
theorem lfJ2_63 : Cond.fieldLink RJ2 63 "java/lang/StringUTF16" "LO_BYTE_SHIFT" "I" ∈ qT := qT_in 562 (by decide +kernel) rfl
theorem lfX3_43 : Cond.fieldLinkNest RX3 43 "MateKeys" "STEP_COLUMNS" "[I" "MateKeys" ∈ qN := qN_in 326 (by decide +kernel) rfl
theorem lfX3_46 : Cond.fieldLinkNest RX3 46 "MateKeys" "STEP_ROWS" "[I" "MateKeys" ∈ qN := qN_in 328 (by decide +kernel) rfl
theorem lcX5_259 : Cond.constantFloat RX5 259 1103626240 ∈ qT := qT_in 731 (by decide +kernel) rfl
theorem lcX5_284 : Cond.constant RX5 284 33554431 ∈ qT := qT_in 447 (by decide +kernel) rfl
theorem lcX5_285 : Cond.constantFloat RX5 285 1258291200 ∈ qT := qT_in 735 (by decide +kernel) rfl
theorem lcX3_69 : Cond.constant RX3 69 33554432 ∈ qT := qT_in 392 (by decide +kernel) rfl
theorem lcX6_237 : Cond.constantFloat RX6 237 1103626240 ∈ qT := qT_in 1106 (by decide +kernel) rfl
theorem lcJ11_76 : Cond.constant RJ11 76 56320 ∈ qT := qT_in 677 (by decide +kernel) rfl
theorem lcJ11_110 : Cond.constant RJ11 110 55232 ∈ qT := qT_in 673 (by decide +kernel) rfl
theorem lcJxf58ca_77 : Cond.constant RJxf58ca 77 2143289344 ∈ qT := qT_in 1116 (by decide +kernel) rfl
theorem lcJ2_227 : Cond.constant RJ2 227 65536 ∈ qT := qT_in 648 (by decide +kernel) rfl

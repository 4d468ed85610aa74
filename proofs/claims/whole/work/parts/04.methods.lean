/-! methods, their words, links -/
abbrev mX7_init : MI := (yX7_init, cX7_init, 2, none)
abbrev mX6_init : MI := (yX6_init, cX6_init, 3, none)
abbrev mX2_init : MI := (yX2_init, cX2_init, 1, none)
abbrev mX5_init : MI := (yX5_init, cX5_init, 1, none)
abbrev mX3_init : MI := (yX3_init, cX3_init, 1, none)
abbrev mX1_init : MI := (yX1_init, cX1_init, 1, none)
abbrev mX0_init : MI := (yX0_init, cX0_init, 1, none)
abbrev mX4_init : MI := (yX4_init, cX4_init, 1, none)
abbrev mX7_card : MI := (yX7_card, cX7_card, 2, some .int)
theorem kX7_card : CalV mX7_card 1 := ⟨⟨TT_at 280 (by decide +kernel) rfl, TT_at 1 (by decide +kernel) rfl, by decide, by decide +kernel, by decide +kernel, by decide⟩, TT_at 278 (by decide +kernel) rfl, TT_at 279 (by decide +kernel) rfl⟩
abbrev mX6_mayBeCard : MI := (yX6_mayBeCard, cX6_mayBeCard, 3, some .boolean)
theorem kX6_mayBeCard : CalS mX6_mayBeCard 3 := ⟨TT_at 283 (by decide +kernel) rfl, TT_at 2 (by decide +kernel) rfl, by decide, by decide +kernel, by decide +kernel, by decide⟩
theorem zX6_mayBeCard : Cond.static yX6_mayBeCard ∈ TT := TT_at 282 (by decide +kernel) rfl
abbrev mX7_within : MI := (yX7_within, cX7_within, 2, some .boolean)
theorem kX7_within : CalS mX7_within 2 := ⟨TT_at 286 (by decide +kernel) rfl, TT_at 1 (by decide +kernel) rfl, by decide, by decide +kernel, by decide +kernel, by decide⟩
theorem zX7_within : Cond.static yX7_within ∈ TT := TT_at 285 (by decide +kernel) rfl
abbrev mX6_addCard : MI := (yX6_addCard, cX6_addCard, 4, some .int)
theorem kX6_addCard : CalV mX6_addCard 3 := ⟨⟨TT_at 292 (by decide +kernel) rfl, TT_at 2 (by decide +kernel) rfl, by decide, by decide +kernel, by decide +kernel, by decide⟩, TT_at 290 (by decide +kernel) rfl, TT_at 291 (by decide +kernel) rfl⟩
abbrev mX7_cards : MI := (yX7_cards, cX7_cards, 5, some .int)
theorem kX7_cards : CalV mX7_cards 3 := ⟨⟨TT_at 296 (by decide +kernel) rfl, TT_at 1 (by decide +kernel) rfl, by decide, by decide +kernel, by decide +kernel, by decide⟩, TT_at 294 (by decide +kernel) rfl, TT_at 295 (by decide +kernel) rfl⟩
abbrev mX4_isRowOf : MI := (yX4_isRowOf, cX4_isRowOf, 2, some .boolean)
theorem kX4_isRowOf : CalV mX4_isRowOf 1 := ⟨⟨TT_at 301 (by decide +kernel) rfl, TT_at 8 (by decide +kernel) rfl, by decide, by decide +kernel, by decide +kernel, by decide⟩, TT_at 299 (by decide +kernel) rfl, TT_at 300 (by decide +kernel) rfl⟩
abbrev mX7_cardsFrom : MI := (yX7_cardsFrom, cX7_cardsFrom, 9, some .int)
theorem kX7_cardsFrom : CalV mX7_cardsFrom 3 := ⟨⟨TT_at 305 (by decide +kernel) rfl, TT_at 1 (by decide +kernel) rfl, by decide, by decide +kernel, by decide +kernel, by decide⟩, TT_at 304 (by decide +kernel) rfl, TT_of (List.mem_append_left _ (List.mem_of_getElem? (i := 0) (by decide +kernel))) rfl⟩
abbrev mX7_mend : MI := (yX7_mend, cX7_mend, 4, some .int)
theorem kX7_mend : CalV mX7_mend 3 := ⟨⟨TT_at 309 (by decide +kernel) rfl, TT_at 1 (by decide +kernel) rfl, by decide, by decide +kernel, by decide +kernel, by decide⟩, TT_at 307 (by decide +kernel) rfl, TT_at 308 (by decide +kernel) rfl⟩
abbrev mX6_known : MI := (yX6_known, cX6_known, 3, some .boolean)
theorem kX6_known : CalV mX6_known 2 := ⟨⟨TT_at 313 (by decide +kernel) rfl, TT_at 2 (by decide +kernel) rfl, by decide, by decide +kernel, by decide +kernel, by decide⟩, TT_at 311 (by decide +kernel) rfl, TT_at 312 (by decide +kernel) rfl⟩
abbrev mX6_change : MI := (yX6_change, cX6_change, 5, some .int)
theorem kX6_change : CalV mX6_change 3 := ⟨⟨TT_at 318 (by decide +kernel) rfl, TT_at 2 (by decide +kernel) rfl, by decide, by decide +kernel, by decide +kernel, by decide⟩, TT_at 316 (by decide +kernel) rfl, TT_at 317 (by decide +kernel) rfl⟩
abbrev mX6_keepChange : MI := (yX6_keepChange, cX6_keepChange, 6, none)
theorem kX6_keepChange : CalV mX6_keepChange 4 := ⟨⟨TT_at 322 (by decide +kernel) rfl, TT_at 2 (by decide +kernel) rfl, by decide, by decide +kernel, by decide +kernel, by decide⟩, TT_at 321 (by decide +kernel) rfl, TT_of (List.mem_append_left _ (List.mem_of_getElem? (i := 1) (by decide +kernel))) rfl⟩
abbrev mX7_of : MI := (yX7_of, cX7_of, 3, some .int)
theorem kX7_of : CalV mX7_of 2 := ⟨⟨TT_at 326 (by decide +kernel) rfl, TT_at 1 (by decide +kernel) rfl, by decide, by decide +kernel, by decide +kernel, by decide⟩, TT_at 324 (by decide +kernel) rfl, TT_at 325 (by decide +kernel) rfl⟩
abbrev mX6_inHat : MI := (yX6_inHat, cX6_inHat, 3, some .int)
theorem kX6_inHat : CalV mX6_inHat 0 := ⟨⟨TT_at 330 (by decide +kernel) rfl, TT_at 2 (by decide +kernel) rfl, by decide, by decide +kernel, by decide +kernel, by decide⟩, TT_at 328 (by decide +kernel) rfl, TT_at 329 (by decide +kernel) rfl⟩
abbrev mX7_feed : MI := (yX7_feed, cX7_feed, 2, some .int)
theorem kX7_feed : CalV mX7_feed 1 := ⟨⟨TT_at 334 (by decide +kernel) rfl, TT_at 1 (by decide +kernel) rfl, by decide, by decide +kernel, by decide +kernel, by decide⟩, TT_at 332 (by decide +kernel) rfl, TT_at 333 (by decide +kernel) rfl⟩
abbrev mX7_law : MI := (yX7_law, cX7_law, 2, some .int)
theorem kX7_law : CalV mX7_law 0 := ⟨⟨TT_at 338 (by decide +kernel) rfl, TT_at 1 (by decide +kernel) rfl, by decide, by decide +kernel, by decide +kernel, by decide⟩, TT_at 336 (by decide +kernel) rfl, TT_at 337 (by decide +kernel) rfl⟩
abbrev mX2_read : MI := (yX2_read, cX2_read, 4, some .int)
theorem kX2_read : CalV mX2_read 2 := ⟨⟨TT_at 342 (by decide +kernel) rfl, TT_at 3 (by decide +kernel) rfl, by decide, by decide +kernel, by decide +kernel, by decide⟩, TT_at 340 (by decide +kernel) rfl, TT_at 341 (by decide +kernel) rfl⟩
abbrev mX2_readLine : MI := (yX2_readLine, cX2_readLine, 1, none)
theorem kX2_readLine : CalV mX2_readLine 0 := ⟨⟨TT_at 352 (by decide +kernel) rfl, TT_at 3 (by decide +kernel) rfl, by decide, by decide +kernel, by decide +kernel, by decide⟩, TT_at 351 (by decide +kernel) rfl, TT_of (List.mem_append_left _ (List.mem_of_getElem? (i := 2) (by decide +kernel))) rfl⟩
abbrev mX2_readJoined : MI := (yX2_readJoined, cX2_readJoined, 5, none)
theorem kX2_readJoined : CalV mX2_readJoined 2 := ⟨⟨TT_at 356 (by decide +kernel) rfl, TT_at 3 (by decide +kernel) rfl, by decide, by decide +kernel, by decide +kernel, by decide⟩, TT_at 355 (by decide +kernel) rfl, TT_of (List.mem_append_left _ (List.mem_of_getElem? (i := 3) (by decide +kernel))) rfl⟩
abbrev mX2_readTighter : MI := (yX2_readTighter, cX2_readTighter, 3, none)
theorem kX2_readTighter : CalV mX2_readTighter 2 := ⟨⟨TT_at 360 (by decide +kernel) rfl, TT_at 3 (by decide +kernel) rfl, by decide, by decide +kernel, by decide +kernel, by decide⟩, TT_at 359 (by decide +kernel) rfl, TT_of (List.mem_append_left _ (List.mem_of_getElem? (i := 4) (by decide +kernel))) rfl⟩
abbrev mX2_readOperand : MI := (yX2_readOperand, cX2_readOperand, 3, none)
theorem kX2_readOperand : CalV mX2_readOperand 1 := ⟨⟨TT_at 364 (by decide +kernel) rfl, TT_at 3 (by decide +kernel) rfl, by decide, by decide +kernel, by decide +kernel, by decide⟩, TT_at 363 (by decide +kernel) rfl, TT_of (List.mem_append_left _ (List.mem_of_getElem? (i := 5) (by decide +kernel))) rfl⟩
abbrev mX2_sign : MI := (yX2_sign, cX2_sign, 1, some .int)
theorem kX2_sign : CalV mX2_sign 0 := ⟨⟨TT_at 368 (by decide +kernel) rfl, TT_at 3 (by decide +kernel) rfl, by decide, by decide +kernel, by decide +kernel, by decide⟩, TT_at 367 (by decide +kernel) rfl, TT_of (List.mem_append_left _ (List.mem_of_getElem? (i := 6) (by decide +kernel))) rfl⟩
abbrev mX2_isDigit : MI := (yX2_isDigit, cX2_isDigit, 1, some .boolean)
theorem kX2_isDigit : CalS mX2_isDigit 1 := ⟨TT_at 371 (by decide +kernel) rfl, TT_at 3 (by decide +kernel) rfl, by decide, by decide +kernel, by decide +kernel, by decide⟩
theorem zX2_isDigit : Cond.static yX2_isDigit ∈ TT := TT_at 370 (by decide +kernel) rfl
abbrev mX2_readNumber : MI := (yX2_readNumber, cX2_readNumber, 3, none)
theorem kX2_readNumber : CalV mX2_readNumber 0 := ⟨⟨TT_at 375 (by decide +kernel) rfl, TT_at 3 (by decide +kernel) rfl, by decide, by decide +kernel, by decide +kernel, by decide⟩, TT_at 374 (by decide +kernel) rfl, TT_of (List.mem_append_left _ (List.mem_of_getElem? (i := 7) (by decide +kernel))) rfl⟩
abbrev mX2_emit : MI := (yX2_emit, cX2_emit, 2, none)
theorem kX2_emit : CalV mX2_emit 1 := ⟨⟨TT_at 379 (by decide +kernel) rfl, TT_at 3 (by decide +kernel) rfl, by decide, by decide +kernel, by decide +kernel, by decide⟩, TT_at 378 (by decide +kernel) rfl, TT_of (List.mem_append_left _ (List.mem_of_getElem? (i := 8) (by decide +kernel))) rfl⟩
abbrev mX2_fail : MI := (yX2_fail, cX2_fail, 1, none)
theorem kX2_fail : CalV mX2_fail 0 := ⟨⟨TT_at 383 (by decide +kernel) rfl, TT_at 3 (by decide +kernel) rfl, by decide, by decide +kernel, by decide +kernel, by decide⟩, TT_at 382 (by decide +kernel) rfl, TT_of (List.mem_append_left _ (List.mem_of_getElem? (i := 9) (by decide +kernel))) rfl⟩
abbrev mX2_takes : MI := (yX2_takes, cX2_takes, 2, some .boolean)
theorem kX2_takes : CalV mX2_takes 1 := ⟨⟨TT_at 387 (by decide +kernel) rfl, TT_at 3 (by decide +kernel) rfl, by decide, by decide +kernel, by decide +kernel, by decide⟩, TT_at 386 (by decide +kernel) rfl, TT_of (List.mem_append_left _ (List.mem_of_getElem? (i := 10) (by decide +kernel))) rfl⟩
abbrev mX2_readBehind : MI := (yX2_readBehind, cX2_readBehind, 3, none)
theorem kX2_readBehind : CalV mX2_readBehind 2 := ⟨⟨TT_at 391 (by decide +kernel) rfl, TT_at 3 (by decide +kernel) rfl, by decide, by decide +kernel, by decide +kernel, by decide⟩, TT_at 390 (by decide +kernel) rfl, TT_of (List.mem_append_left _ (List.mem_of_getElem? (i := 11) (by decide +kernel))) rfl⟩
abbrev mX2_joins : MI := (yX2_joins, cX2_joins, 2, some .boolean)
theorem kX2_joins : CalS mX2_joins 2 := ⟨TT_at 394 (by decide +kernel) rfl, TT_at 3 (by decide +kernel) rfl, by decide, by decide +kernel, by decide +kernel, by decide⟩
theorem zX2_joins : Cond.static yX2_joins ∈ TT := TT_at 393 (by decide +kernel) rfl
abbrev mX7_weight : MI := (yX7_weight, cX7_weight, 3, some .int)
theorem kX7_weight : CalV mX7_weight 2 := ⟨⟨TT_at 398 (by decide +kernel) rfl, TT_at 1 (by decide +kernel) rfl, by decide, by decide +kernel, by decide +kernel, by decide⟩, TT_at 396 (by decide +kernel) rfl, TT_at 397 (by decide +kernel) rfl⟩
abbrev mX5_weigh : MI := (yX5_weigh, cX5_weigh, 4, none)
theorem kX5_weigh : CalV mX5_weigh 3 := ⟨⟨TT_at 402 (by decide +kernel) rfl, TT_at 4 (by decide +kernel) rfl, by decide, by decide +kernel, by decide +kernel, by decide⟩, TT_at 400 (by decide +kernel) rfl, TT_at 401 (by decide +kernel) rfl⟩
abbrev mX5_weighAmong : MI := (yX5_weighAmong, cX5_weighAmong, 8, none)
theorem kX5_weighAmong : CalV mX5_weighAmong 4 := ⟨⟨TT_at 406 (by decide +kernel) rfl, TT_at 4 (by decide +kernel) rfl, by decide, by decide +kernel, by decide +kernel, by decide⟩, TT_at 405 (by decide +kernel) rfl, TT_of (List.mem_append_left _ (List.mem_of_getElem? (i := 12) (by decide +kernel))) rfl⟩
abbrev mX2_stands : MI := (yX2_stands, cX2_stands, 1, some .boolean)
theorem kX2_stands : CalV mX2_stands 0 := ⟨⟨TT_at 410 (by decide +kernel) rfl, TT_at 3 (by decide +kernel) rfl, by decide, by decide +kernel, by decide +kernel, by decide⟩, TT_at 408 (by decide +kernel) rfl, TT_at 409 (by decide +kernel) rfl⟩
abbrev mX2_valueFor : MI := (yX2_valueFor, cX2_valueFor, 8, some .int)
theorem kX2_valueFor : CalV mX2_valueFor 4 := ⟨⟨TT_at 414 (by decide +kernel) rfl, TT_at 3 (by decide +kernel) rfl, by decide, by decide +kernel, by decide +kernel, by decide⟩, TT_at 412 (by decide +kernel) rfl, TT_at 413 (by decide +kernel) rfl⟩
abbrev mX6_colour : MI := (yX6_colour, cX6_colour, 3, some .int)
theorem kX6_colour : CalV mX6_colour 2 := ⟨⟨TT_at 418 (by decide +kernel) rfl, TT_at 2 (by decide +kernel) rfl, by decide, by decide +kernel, by decide +kernel, by decide⟩, TT_at 416 (by decide +kernel) rfl, TT_at 417 (by decide +kernel) rfl⟩
abbrev mX2_push : MI := (yX2_push, cX2_push, 2, none)
theorem kX2_push : CalV mX2_push 1 := ⟨⟨TT_at 422 (by decide +kernel) rfl, TT_at 3 (by decide +kernel) rfl, by decide, by decide +kernel, by decide +kernel, by decide⟩, TT_at 421 (by decide +kernel) rfl, TT_of (List.mem_append_left _ (List.mem_of_getElem? (i := 13) (by decide +kernel))) rfl⟩
abbrev mX2_pop : MI := (yX2_pop, cX2_pop, 1, some .int)
theorem kX2_pop : CalV mX2_pop 0 := ⟨⟨TT_at 426 (by decide +kernel) rfl, TT_at 3 (by decide +kernel) rfl, by decide, by decide +kernel, by decide +kernel, by decide⟩, TT_at 425 (by decide +kernel) rfl, TT_of (List.mem_append_left _ (List.mem_of_getElem? (i := 14) (by decide +kernel))) rfl⟩
abbrev mX2_workOut : MI := (yX2_workOut, cX2_workOut, 4, none)
theorem kX2_workOut : CalV mX2_workOut 1 := ⟨⟨TT_at 430 (by decide +kernel) rfl, TT_at 3 (by decide +kernel) rfl, by decide, by decide +kernel, by decide +kernel, by decide⟩, TT_at 429 (by decide +kernel) rfl, TT_of (List.mem_append_left _ (List.mem_of_getElem? (i := 15) (by decide +kernel))) rfl⟩
abbrev mX2_joined : MI := (yX2_joined, cX2_joined, 3, some .int)
theorem kX2_joined : CalS mX2_joined 3 := ⟨TT_at 433 (by decide +kernel) rfl, TT_at 3 (by decide +kernel) rfl, by decide, by decide +kernel, by decide +kernel, by decide⟩
theorem zX2_joined : Cond.static yX2_joined ∈ TT := TT_at 432 (by decide +kernel) rfl
abbrev mX5_held : MI := (yX5_held, cX5_held, 1, some .int)
theorem kX5_held : CalS mX5_held 1 := ⟨TT_at 436 (by decide +kernel) rfl, TT_at 4 (by decide +kernel) rfl, by decide, by decide +kernel, by decide +kernel, by decide⟩
theorem zX5_held : Cond.static yX5_held ∈ TT := TT_at 435 (by decide +kernel) rfl
abbrev mX7_shown : MI := (yX7_shown, cX7_shown, 3, some .long)
theorem kX7_shown : CalV mX7_shown 2 := ⟨⟨TT_at 444 (by decide +kernel) rfl, TT_at 1 (by decide +kernel) rfl, by decide, by decide +kernel, by decide +kernel, by decide⟩, TT_at 442 (by decide +kernel) rfl, TT_at 443 (by decide +kernel) rfl⟩
abbrev mX5_weighAll : MI := (yX5_weighAll, cX5_weighAll, 4, none)
theorem kX5_weighAll : CalV mX5_weighAll 2 := ⟨⟨TT_at 449 (by decide +kernel) rfl, TT_at 4 (by decide +kernel) rfl, by decide, by decide +kernel, by decide +kernel, by decide⟩, TT_at 447 (by decide +kernel) rfl, TT_at 448 (by decide +kernel) rfl⟩
abbrev mX5_likely : MI := (yX5_likely, cX5_likely, 7, some .long)
theorem kX5_likely : CalV mX5_likely 3 := ⟨⟨TT_at 454 (by decide +kernel) rfl, TT_at 4 (by decide +kernel) rfl, by decide, by decide +kernel, by decide +kernel, by decide⟩, TT_at 452 (by decide +kernel) rfl, TT_at 453 (by decide +kernel) rfl⟩
abbrev mX5_likelyOf : MI := (yX5_likelyOf, cX5_likelyOf, 10, some .long)
theorem kX5_likelyOf : CalV mX5_likelyOf 4 := ⟨⟨TT_at 458 (by decide +kernel) rfl, TT_at 4 (by decide +kernel) rfl, by decide, by decide +kernel, by decide +kernel, by decide⟩, TT_at 456 (by decide +kernel) rfl, TT_at 457 (by decide +kernel) rfl⟩
abbrev mX5_ofColour : MI := (yX5_ofColour, cX5_ofColour, 6, some .int)
theorem kX5_ofColour : CalV mX5_ofColour 3 := ⟨⟨TT_at 462 (by decide +kernel) rfl, TT_at 4 (by decide +kernel) rfl, by decide, by decide +kernel, by decide +kernel, by decide⟩, TT_at 461 (by decide +kernel) rfl, TT_of (List.mem_append_left _ (List.mem_of_getElem? (i := 16) (by decide +kernel))) rfl⟩
abbrev mX5_ofSide : MI := (yX5_ofSide, cX5_ofSide, 4, some .int)
theorem kX5_ofSide : CalV mX5_ofSide 2 := ⟨⟨TT_at 467 (by decide +kernel) rfl, TT_at 4 (by decide +kernel) rfl, by decide, by decide +kernel, by decide +kernel, by decide⟩, TT_at 466 (by decide +kernel) rfl, TT_of (List.mem_append_left _ (List.mem_of_getElem? (i := 17) (by decide +kernel))) rfl⟩
abbrev mX7_lowest : MI := (yX7_lowest, cX7_lowest, 7, some .long)
theorem kX7_lowest : CalS mX7_lowest 3 := ⟨TT_at 471 (by decide +kernel) rfl, TT_at 1 (by decide +kernel) rfl, by decide, by decide +kernel, by decide +kernel, by decide⟩
theorem zX7_lowest : Cond.static yX7_lowest ∈ TT := TT_at 470 (by decide +kernel) rfl
abbrev mX7_commonDivisor : MI := (yX7_commonDivisor, cX7_commonDivisor, 11, some .long)
theorem kX7_commonDivisor : CalS mX7_commonDivisor 2 := ⟨TT_at 474 (by decide +kernel) rfl, TT_at 1 (by decide +kernel) rfl, by decide, by decide +kernel, by decide +kernel, by decide⟩
theorem zX7_commonDivisor : Cond.static yX7_commonDivisor ∈ TT := TT_at 473 (by decide +kernel) rfl
abbrev mX7_other : MI := (yX7_other, cX7_other, 5, some .long)
theorem kX7_other : CalV mX7_other 2 := ⟨⟨TT_at 478 (by decide +kernel) rfl, TT_at 1 (by decide +kernel) rfl, by decide, by decide +kernel, by decide +kernel, by decide⟩, TT_at 476 (by decide +kernel) rfl, TT_at 477 (by decide +kernel) rfl⟩
abbrev mX5_likelyBoth : MI := (yX5_likelyBoth, cX5_likelyBoth, 8, some .long)
theorem kX5_likelyBoth : CalV mX5_likelyBoth 3 := ⟨⟨TT_at 482 (by decide +kernel) rfl, TT_at 4 (by decide +kernel) rfl, by decide, by decide +kernel, by decide +kernel, by decide⟩, TT_at 480 (by decide +kernel) rfl, TT_at 481 (by decide +kernel) rfl⟩
abbrev mX7_which : MI := (yX7_which, cX7_which, 6, some .long)
theorem kX7_which : CalV mX7_which 3 := ⟨⟨TT_at 486 (by decide +kernel) rfl, TT_at 1 (by decide +kernel) rfl, by decide, by decide +kernel, by decide +kernel, by decide⟩, TT_at 484 (by decide +kernel) rfl, TT_at 485 (by decide +kernel) rfl⟩
abbrev mX7_mayBeTimes : MI := (yX7_mayBeTimes, cX7_mayBeTimes, 1, some .boolean)
theorem kX7_mayBeTimes : CalS mX7_mayBeTimes 1 := ⟨TT_at 489 (by decide +kernel) rfl, TT_at 1 (by decide +kernel) rfl, by decide, by decide +kernel, by decide +kernel, by decide⟩
theorem zX7_mayBeTimes : Cond.static yX7_mayBeTimes ∈ TT := TT_at 488 (by decide +kernel) rfl
abbrev mX7_again : MI := (yX7_again, cX7_again, 5, some .long)
theorem kX7_again : CalV mX7_again 2 := ⟨⟨TT_at 494 (by decide +kernel) rfl, TT_at 1 (by decide +kernel) rfl, by decide, by decide +kernel, by decide +kernel, by decide⟩, TT_at 492 (by decide +kernel) rfl, TT_at 493 (by decide +kernel) rfl⟩
abbrev mX7_cheated : MI := (yX7_cheated, cX7_cheated, 5, some .int)
theorem kX7_cheated : CalV mX7_cheated 1 := ⟨⟨TT_at 498 (by decide +kernel) rfl, TT_at 1 (by decide +kernel) rfl, by decide, by decide +kernel, by decide +kernel, by decide⟩, TT_at 496 (by decide +kernel) rfl, TT_at 497 (by decide +kernel) rfl⟩
abbrev mX7_refusedBytes : MI := (yX7_refusedBytes, cX7_refusedBytes, 2, some .int)
theorem kX7_refusedBytes : CalV mX7_refusedBytes 1 := ⟨⟨TT_at 502 (by decide +kernel) rfl, TT_at 1 (by decide +kernel) rfl, by decide, by decide +kernel, by decide +kernel, by decide⟩, TT_at 501 (by decide +kernel) rfl, TT_of (List.mem_append_left _ (List.mem_of_getElem? (i := 18) (by decide +kernel))) rfl⟩
abbrev mX5_mostLikelyMore : MI := (yX5_mostLikelyMore, cX5_mostLikelyMore, 14, some .int)
theorem kX5_mostLikelyMore : CalV mX5_mostLikelyMore 3 := ⟨⟨TT_at 507 (by decide +kernel) rfl, TT_at 4 (by decide +kernel) rfl, by decide, by decide +kernel, by decide +kernel, by decide⟩, TT_at 505 (by decide +kernel) rfl, TT_at 506 (by decide +kernel) rfl⟩
abbrev mX5_waysWith : MI := (yX5_waysWith, cX5_waysWith, 10, some .long)
theorem kX5_waysWith : CalV mX5_waysWith 3 := ⟨⟨TT_at 511 (by decide +kernel) rfl, TT_at 4 (by decide +kernel) rfl, by decide, by decide +kernel, by decide +kernel, by decide⟩, TT_at 510 (by decide +kernel) rfl, TT_of (List.mem_append_left _ (List.mem_of_getElem? (i := 19) (by decide +kernel))) rfl⟩
abbrev mX5_allWaysOf : MI := (yX5_allWaysOf, cX5_allWaysOf, 5, some .long)
theorem kX5_allWaysOf : CalS mX5_allWaysOf 2 := ⟨TT_at 516 (by decide +kernel) rfl, TT_at 4 (by decide +kernel) rfl, by decide, by decide +kernel, by decide +kernel, by decide⟩
theorem zX5_allWaysOf : Cond.static yX5_allWaysOf ∈ TT := TT_at 515 (by decide +kernel) rfl
abbrev mX5_isMore : MI := (yX5_isMore, cX5_isMore, 22, some .boolean)
theorem kX5_isMore : CalS mX5_isMore 4 := ⟨TT_at 520 (by decide +kernel) rfl, TT_at 4 (by decide +kernel) rfl, by decide, by decide +kernel, by decide +kernel, by decide⟩
theorem zX5_isMore : Cond.static yX5_isMore ∈ TT := TT_at 519 (by decide +kernel) rfl
abbrev mX7_judge : MI := (yX7_judge, cX7_judge, 7, some .int)
theorem kX7_judge : CalV mX7_judge 1 := ⟨⟨TT_at 524 (by decide +kernel) rfl, TT_at 1 (by decide +kernel) rfl, by decide, by decide +kernel, by decide +kernel, by decide⟩, TT_at 522 (by decide +kernel) rfl, TT_at 523 (by decide +kernel) rfl⟩
abbrev mX7_handed : MI := (yX7_handed, cX7_handed, 8, some .long)
theorem kX7_handed : CalV mX7_handed 3 := ⟨⟨TT_at 528 (by decide +kernel) rfl, TT_at 1 (by decide +kernel) rfl, by decide, by decide +kernel, by decide +kernel, by decide⟩, TT_at 526 (by decide +kernel) rfl, TT_at 527 (by decide +kernel) rfl⟩
abbrev mX3_redLast : MI := (yX3_redLast, cX3_redLast, 16, some .long)
theorem kX3_redLast : CalV mX3_redLast 4 := ⟨⟨TT_at 532 (by decide +kernel) rfl, TT_at 5 (by decide +kernel) rfl, by decide, by decide +kernel, by decide +kernel, by decide⟩, TT_at 530 (by decide +kernel) rfl, TT_at 531 (by decide +kernel) rfl⟩
abbrev mX3_waysToLast : MI := (yX3_waysToLast, cX3_waysToLast, 6, some .long)
theorem kX3_waysToLast : CalV mX3_waysToLast 2 := ⟨⟨TT_at 536 (by decide +kernel) rfl, TT_at 5 (by decide +kernel) rfl, by decide, by decide +kernel, by decide +kernel, by decide⟩, TT_at 534 (by decide +kernel) rfl, TT_at 535 (by decide +kernel) rfl⟩
abbrev mX7_ill : MI := (yX7_ill, cX7_ill, 7, some .long)
theorem kX7_ill : CalV mX7_ill 2 := ⟨⟨TT_at 540 (by decide +kernel) rfl, TT_at 1 (by decide +kernel) rfl, by decide, by decide +kernel, by decide +kernel, by decide⟩, TT_at 538 (by decide +kernel) rfl, TT_at 539 (by decide +kernel) rfl⟩
abbrev mX7_mayBeTold : MI := (yX7_mayBeTold, cX7_mayBeTold, 2, some .boolean)
theorem kX7_mayBeTold : CalS mX7_mayBeTold 2 := ⟨TT_at 543 (by decide +kernel) rfl, TT_at 1 (by decide +kernel) rfl, by decide, by decide +kernel, by decide +kernel, by decide⟩
theorem zX7_mayBeTold : Cond.static yX7_mayBeTold ∈ TT := TT_at 542 (by decide +kernel) rfl
abbrev mX3_waysIll : MI := (yX3_waysIll, cX3_waysIll, 4, some .long)
theorem kX3_waysIll : CalV mX3_waysIll 3 := ⟨⟨TT_at 547 (by decide +kernel) rfl, TT_at 5 (by decide +kernel) rfl, by decide, by decide +kernel, by decide +kernel, by decide⟩, TT_at 545 (by decide +kernel) rfl, TT_at 546 (by decide +kernel) rfl⟩
abbrev mX3_waysRight : MI := (yX3_waysRight, cX3_waysRight, 6, some .long)
theorem kX3_waysRight : CalS mX3_waysRight 3 := ⟨TT_at 550 (by decide +kernel) rfl, TT_at 5 (by decide +kernel) rfl, by decide, by decide +kernel, by decide +kernel, by decide⟩
theorem zX3_waysRight : Cond.static yX3_waysRight ∈ TT := TT_at 549 (by decide +kernel) rfl
abbrev mX3_waysWell : MI := (yX3_waysWell, cX3_waysWell, 4, some .long)
theorem kX3_waysWell : CalV mX3_waysWell 3 := ⟨⟨TT_at 554 (by decide +kernel) rfl, TT_at 5 (by decide +kernel) rfl, by decide, by decide +kernel, by decide +kernel, by decide⟩, TT_at 552 (by decide +kernel) rfl, TT_at 553 (by decide +kernel) rfl⟩
abbrev mX7_order : MI := (yX7_order, cX7_order, 3, some .long)
theorem kX7_order : CalV mX7_order 2 := ⟨⟨TT_at 558 (by decide +kernel) rfl, TT_at 1 (by decide +kernel) rfl, by decide, by decide +kernel, by decide +kernel, by decide⟩, TT_at 556 (by decide +kernel) rfl, TT_at 557 (by decide +kernel) rfl⟩
abbrev mX3_findOrder : MI := (yX3_findOrder, cX3_findOrder, 7, none)
theorem kX3_findOrder : CalV mX3_findOrder 1 := ⟨⟨TT_at 562 (by decide +kernel) rfl, TT_at 5 (by decide +kernel) rfl, by decide, by decide +kernel, by decide +kernel, by decide⟩, TT_at 560 (by decide +kernel) rfl, TT_at 561 (by decide +kernel) rfl⟩
abbrev mX3_isOrder : MI := (yX3_isOrder, cX3_isOrder, 4, some .boolean)
theorem kX3_isOrder : CalV mX3_isOrder 1 := ⟨⟨TT_at 567 (by decide +kernel) rfl, TT_at 5 (by decide +kernel) rfl, by decide, by decide +kernel, by decide +kernel, by decide⟩, TT_at 566 (by decide +kernel) rfl, TT_of (List.mem_append_left _ (List.mem_of_getElem? (i := 20) (by decide +kernel))) rfl⟩
abbrev mX3_meanPrice : MI := (yX3_meanPrice, cX3_meanPrice, 11, some .long)
theorem kX3_meanPrice : CalV mX3_meanPrice 2 := ⟨⟨TT_at 571 (by decide +kernel) rfl, TT_at 5 (by decide +kernel) rfl, by decide, by decide +kernel, by decide +kernel, by decide⟩, TT_at 569 (by decide +kernel) rfl, TT_at 570 (by decide +kernel) rfl⟩
abbrev mX7_isSo : MI := (yX7_isSo, cX7_isSo, 9, some .long)
theorem kX7_isSo : CalV mX7_isSo 2 := ⟨⟨TT_at 581 (by decide +kernel) rfl, TT_at 1 (by decide +kernel) rfl, by decide, by decide +kernel, by decide +kernel, by decide⟩, TT_at 579 (by decide +kernel) rfl, TT_at 580 (by decide +kernel) rfl⟩
abbrev mX3_waysTheySay : MI := (yX3_waysTheySay, cX3_waysTheySay, 8, some .long)
theorem kX3_waysTheySay : CalV mX3_waysTheySay 3 := ⟨⟨TT_at 585 (by decide +kernel) rfl, TT_at 5 (by decide +kernel) rfl, by decide, by decide +kernel, by decide +kernel, by decide⟩, TT_at 583 (by decide +kernel) rfl, TT_at 584 (by decide +kernel) rfl⟩
abbrev mX7_tooMany : MI := (yX7_tooMany, cX7_tooMany, 5, some .long)
theorem kX7_tooMany : CalV mX7_tooMany 2 := ⟨⟨TT_at 589 (by decide +kernel) rfl, TT_at 1 (by decide +kernel) rfl, by decide, by decide +kernel, by decide +kernel, by decide⟩, TT_at 587 (by decide +kernel) rfl, TT_at 588 (by decide +kernel) rfl⟩
abbrev mX3_allWays : MI := (yX3_allWays, cX3_allWays, 5, some .long)
theorem kX3_allWays : CalV mX3_allWays 1 := ⟨⟨TT_at 593 (by decide +kernel) rfl, TT_at 5 (by decide +kernel) rfl, by decide, by decide +kernel, by decide +kernel, by decide⟩, TT_at 591 (by decide +kernel) rfl, TT_at 592 (by decide +kernel) rfl⟩
abbrev mX7_next : MI := (yX7_next, cX7_next, 3, some .long)
theorem kX7_next : CalV mX7_next 2 := ⟨⟨TT_at 597 (by decide +kernel) rfl, TT_at 1 (by decide +kernel) rfl, by decide, by decide +kernel, by decide +kernel, by decide⟩, TT_at 595 (by decide +kernel) rfl, TT_at 596 (by decide +kernel) rfl⟩
abbrev mX7_sure : MI := (yX7_sure, cX7_sure, 3, some .int)
theorem kX7_sure : CalV mX7_sure 1 := ⟨⟨TT_at 601 (by decide +kernel) rfl, TT_at 1 (by decide +kernel) rfl, by decide, by decide +kernel, by decide +kernel, by decide⟩, TT_at 599 (by decide +kernel) rfl, TT_at 600 (by decide +kernel) rfl⟩
abbrev mX3_findStakes : MI := (yX3_findStakes, cX3_findStakes, 7, some .int)
theorem kX3_findStakes : CalV mX3_findStakes 1 := ⟨⟨TT_at 606 (by decide +kernel) rfl, TT_at 5 (by decide +kernel) rfl, by decide, by decide +kernel, by decide +kernel, by decide⟩, TT_at 604 (by decide +kernel) rfl, TT_at 605 (by decide +kernel) rfl⟩
abbrev mX3_leastLoss : MI := (yX3_leastLoss, cX3_leastLoss, 5, some .int)
theorem kX3_leastLoss : CalS mX3_leastLoss 4 := ⟨TT_at 609 (by decide +kernel) rfl, TT_at 5 (by decide +kernel) rfl, by decide, by decide +kernel, by decide +kernel, by decide⟩
theorem zX3_leastLoss : Cond.static yX3_leastLoss ∈ TT := TT_at 608 (by decide +kernel) rfl
abbrev mX7_drawn : MI := (yX7_drawn, cX7_drawn, 9, some .int)
theorem kX7_drawn : CalV mX7_drawn 3 := ⟨⟨TT_at 614 (by decide +kernel) rfl, TT_at 1 (by decide +kernel) rfl, by decide, by decide +kernel, by decide +kernel, by decide⟩, TT_at 612 (by decide +kernel) rfl, TT_at 613 (by decide +kernel) rfl⟩
abbrev mX1_pickCard : MI := (yX1_pickCard, cX1_pickCard, 4, some .int)
theorem kX1_pickCard : CalV mX1_pickCard 1 := ⟨⟨TT_at 618 (by decide +kernel) rfl, TT_at 6 (by decide +kernel) rfl, by decide, by decide +kernel, by decide +kernel, by decide⟩, TT_at 616 (by decide +kernel) rfl, TT_at 617 (by decide +kernel) rfl⟩
abbrev mX1_lot : MI := (yX1_lot, cX1_lot, 2, some .int)
theorem kX1_lot : CalV mX1_lot 1 := ⟨⟨TT_at 623 (by decide +kernel) rfl, TT_at 6 (by decide +kernel) rfl, by decide, by decide +kernel, by decide +kernel, by decide⟩, TT_at 622 (by decide +kernel) rfl, TT_of (List.mem_append_left _ (List.mem_of_getElem? (i := 21) (by decide +kernel))) rfl⟩
abbrev mX1_pickSide : MI := (yX1_pickSide, cX1_pickSide, 2, some .int)
theorem kX1_pickSide : CalV mX1_pickSide 1 := ⟨⟨TT_at 628 (by decide +kernel) rfl, TT_at 6 (by decide +kernel) rfl, by decide, by decide +kernel, by decide +kernel, by decide⟩, TT_at 626 (by decide +kernel) rfl, TT_at 627 (by decide +kernel) rfl⟩
abbrev mX7_draw : MI := (yX7_draw, cX7_draw, 5, some .int)
theorem kX7_draw : CalV mX7_draw 1 := ⟨⟨TT_at 633 (by decide +kernel) rfl, TT_at 1 (by decide +kernel) rfl, by decide, by decide +kernel, by decide +kernel, by decide⟩, TT_at 631 (by decide +kernel) rfl, TT_at 632 (by decide +kernel) rfl⟩
abbrev mX1_layAside : MI := (yX1_layAside, cX1_layAside, 4, none)
theorem kX1_layAside : CalV mX1_layAside 3 := ⟨⟨TT_at 637 (by decide +kernel) rfl, TT_at 6 (by decide +kernel) rfl, by decide, by decide +kernel, by decide +kernel, by decide⟩, TT_at 635 (by decide +kernel) rfl, TT_at 636 (by decide +kernel) rfl⟩
abbrev mX7_putBack : MI := (yX7_putBack, cX7_putBack, 1, some .int)
theorem kX7_putBack : CalV mX7_putBack 0 := ⟨⟨TT_at 641 (by decide +kernel) rfl, TT_at 1 (by decide +kernel) rfl, by decide, by decide +kernel, by decide +kernel, by decide⟩, TT_at 639 (by decide +kernel) rfl, TT_at 640 (by decide +kernel) rfl⟩
abbrev mX1_layAllBack : MI := (yX1_layAllBack, cX1_layAllBack, 4, some .int)
theorem kX1_layAllBack : CalV mX1_layAllBack 1 := ⟨⟨TT_at 645 (by decide +kernel) rfl, TT_at 6 (by decide +kernel) rfl, by decide, by decide +kernel, by decide +kernel, by decide⟩, TT_at 643 (by decide +kernel) rfl, TT_at 644 (by decide +kernel) rfl⟩
abbrev mX1_allAside : MI := (yX1_allAside, cX1_allAside, 3, some .int)
theorem kX1_allAside : CalV mX1_allAside 0 := ⟨⟨TT_at 649 (by decide +kernel) rfl, TT_at 6 (by decide +kernel) rfl, by decide, by decide +kernel, by decide +kernel, by decide⟩, TT_at 647 (by decide +kernel) rfl, TT_at 648 (by decide +kernel) rfl⟩
abbrev mX6_putInHat : MI := (yX6_putInHat, cX6_putInHat, 3, none)
theorem kX6_putInHat : CalV mX6_putInHat 2 := ⟨⟨TT_at 653 (by decide +kernel) rfl, TT_at 2 (by decide +kernel) rfl, by decide, by decide +kernel, by decide +kernel, by decide⟩, TT_at 651 (by decide +kernel) rfl, TT_at 652 (by decide +kernel) rfl⟩
abbrev mX7_image : MI := (yX7_image, cX7_image, 1, some .int)
theorem kX7_image : CalV mX7_image 0 := ⟨⟨TT_at 658 (by decide +kernel) rfl, TT_at 1 (by decide +kernel) rfl, by decide, by decide +kernel, by decide +kernel, by decide⟩, TT_at 656 (by decide +kernel) rfl, TT_at 657 (by decide +kernel) rfl⟩
abbrev mX1_keepImage : MI := (yX1_keepImage, cX1_keepImage, 2, none)
theorem kX1_keepImage : CalV mX1_keepImage 1 := ⟨⟨TT_at 662 (by decide +kernel) rfl, TT_at 6 (by decide +kernel) rfl, by decide, by decide +kernel, by decide +kernel, by decide⟩, TT_at 660 (by decide +kernel) rfl, TT_at 661 (by decide +kernel) rfl⟩
abbrev mX7_back : MI := (yX7_back, cX7_back, 1, some .int)
theorem kX7_back : CalV mX7_back 0 := ⟨⟨TT_at 667 (by decide +kernel) rfl, TT_at 1 (by decide +kernel) rfl, by decide, by decide +kernel, by decide +kernel, by decide⟩, TT_at 665 (by decide +kernel) rfl, TT_at 666 (by decide +kernel) rfl⟩
abbrev mX1_hasImage : MI := (yX1_hasImage, cX1_hasImage, 1, some .boolean)
theorem kX1_hasImage : CalV mX1_hasImage 0 := ⟨⟨TT_at 671 (by decide +kernel) rfl, TT_at 6 (by decide +kernel) rfl, by decide, by decide +kernel, by decide +kernel, by decide⟩, TT_at 669 (by decide +kernel) rfl, TT_at 670 (by decide +kernel) rfl⟩
abbrev mX1_takeImage : MI := (yX1_takeImage, cX1_takeImage, 3, none)
theorem kX1_takeImage : CalV mX1_takeImage 1 := ⟨⟨TT_at 675 (by decide +kernel) rfl, TT_at 6 (by decide +kernel) rfl, by decide, by decide +kernel, by decide +kernel, by decide⟩, TT_at 673 (by decide +kernel) rfl, TT_at 674 (by decide +kernel) rfl⟩
abbrev mX7_undo : MI := (yX7_undo, cX7_undo, 1, some .int)
theorem kX7_undo : CalV mX7_undo 0 := ⟨⟨TT_at 681 (by decide +kernel) rfl, TT_at 1 (by decide +kernel) rfl, by decide, by decide +kernel, by decide +kernel, by decide⟩, TT_at 679 (by decide +kernel) rfl, TT_at 680 (by decide +kernel) rfl⟩
abbrev mX6_takeChangeBack : MI := (yX6_takeChangeBack, cX6_takeChangeBack, 2, some .boolean)
theorem kX6_takeChangeBack : CalV mX6_takeChangeBack 0 := ⟨⟨TT_at 685 (by decide +kernel) rfl, TT_at 2 (by decide +kernel) rfl, by decide, by decide +kernel, by decide +kernel, by decide⟩, TT_at 683 (by decide +kernel) rfl, TT_at 684 (by decide +kernel) rfl⟩
abbrev mX7_redo : MI := (yX7_redo, cX7_redo, 1, some .int)
theorem kX7_redo : CalV mX7_redo 0 := ⟨⟨TT_at 689 (by decide +kernel) rfl, TT_at 1 (by decide +kernel) rfl, by decide, by decide +kernel, by decide +kernel, by decide⟩, TT_at 687 (by decide +kernel) rfl, TT_at 688 (by decide +kernel) rfl⟩
abbrev mX6_doChangeAgain : MI := (yX6_doChangeAgain, cX6_doChangeAgain, 2, some .boolean)
theorem kX6_doChangeAgain : CalV mX6_doChangeAgain 0 := ⟨⟨TT_at 693 (by decide +kernel) rfl, TT_at 2 (by decide +kernel) rfl, by decide, by decide +kernel, by decide +kernel, by decide⟩, TT_at 691 (by decide +kernel) rfl, TT_at 692 (by decide +kernel) rfl⟩
abbrev mX7_body : MI := (yX7_body, cX7_body, 2, some .int)
theorem kX7_body : CalV mX7_body 1 := ⟨⟨TT_at 697 (by decide +kernel) rfl, TT_at 1 (by decide +kernel) rfl, by decide, by decide +kernel, by decide +kernel, by decide⟩, TT_at 695 (by decide +kernel) rfl, TT_at 696 (by decide +kernel) rfl⟩
abbrev mX0_addBody : MI := (yX0_addBody, cX0_addBody, 2, some .int)
theorem kX0_addBody : CalV mX0_addBody 1 := ⟨⟨TT_at 701 (by decide +kernel) rfl, TT_at 7 (by decide +kernel) rfl, by decide, by decide +kernel, by decide +kernel, by decide⟩, TT_at 699 (by decide +kernel) rfl, TT_at 700 (by decide +kernel) rfl⟩
abbrev mX7_act : MI := (yX7_act, cX7_act, 4, some .int)
theorem kX7_act : CalV mX7_act 3 := ⟨⟨TT_at 705 (by decide +kernel) rfl, TT_at 1 (by decide +kernel) rfl, by decide, by decide +kernel, by decide +kernel, by decide⟩, TT_at 703 (by decide +kernel) rfl, TT_at 704 (by decide +kernel) rfl⟩
abbrev mX0_perform : MI := (yX0_perform, cX0_perform, 4, some .int)
theorem kX0_perform : CalV mX0_perform 3 := ⟨⟨TT_at 709 (by decide +kernel) rfl, TT_at 7 (by decide +kernel) rfl, by decide, by decide +kernel, by decide +kernel, by decide⟩, TT_at 707 (by decide +kernel) rfl, TT_at 708 (by decide +kernel) rfl⟩
abbrev mX0_run : MI := (yX0_run, cX0_run, 7, some .int)
theorem kX0_run : CalV mX0_run 4 := ⟨⟨TT_at 714 (by decide +kernel) rfl, TT_at 7 (by decide +kernel) rfl, by decide, by decide +kernel, by decide +kernel, by decide⟩, TT_at 713 (by decide +kernel) rfl, TT_of (List.mem_append_left _ (List.mem_of_getElem? (i := 22) (by decide +kernel))) rfl⟩
abbrev mX0_owner : MI := (yX0_owner, cX0_owner, 4, some .int)
theorem kX0_owner : CalS mX0_owner 2 := ⟨TT_at 717 (by decide +kernel) rfl, TT_at 7 (by decide +kernel) rfl, by decide, by decide +kernel, by decide +kernel, by decide⟩
theorem zX0_owner : Cond.static yX0_owner ∈ TT := TT_at 716 (by decide +kernel) rfl
abbrev mX0_note : MI := (yX0_note, cX0_note, 2, none)
theorem kX0_note : CalV mX0_note 1 := ⟨⟨TT_at 725 (by decide +kernel) rfl, TT_at 7 (by decide +kernel) rfl, by decide, by decide +kernel, by decide +kernel, by decide⟩, TT_at 724 (by decide +kernel) rfl, TT_of (List.mem_append_left _ (List.mem_of_getElem? (i := 23) (by decide +kernel))) rfl⟩
abbrev mX0_own : MI := (yX0_own, cX0_own, 4, some .int)
theorem kX0_own : CalV mX0_own 3 := ⟨⟨TT_at 729 (by decide +kernel) rfl, TT_at 7 (by decide +kernel) rfl, by decide, by decide +kernel, by decide +kernel, by decide⟩, TT_at 728 (by decide +kernel) rfl, TT_of (List.mem_append_left _ (List.mem_of_getElem? (i := 24) (by decide +kernel))) rfl⟩
abbrev mX0_above : MI := (yX0_above, cX0_above, 5, some .int)
theorem kX0_above : CalV mX0_above 4 := ⟨⟨TT_at 733 (by decide +kernel) rfl, TT_at 7 (by decide +kernel) rfl, by decide, by decide +kernel, by decide +kernel, by decide⟩, TT_at 732 (by decide +kernel) rfl, TT_of (List.mem_append_left _ (List.mem_of_getElem? (i := 25) (by decide +kernel))) rfl⟩
abbrev mX7_trace : MI := (yX7_trace, cX7_trace, 2, some .int)
theorem kX7_trace : CalV mX7_trace 1 := ⟨⟨TT_at 737 (by decide +kernel) rfl, TT_at 1 (by decide +kernel) rfl, by decide, by decide +kernel, by decide +kernel, by decide⟩, TT_at 735 (by decide +kernel) rfl, TT_at 736 (by decide +kernel) rfl⟩
abbrev mX7_keep : MI := (yX7_keep, cX7_keep, 3, some .int)
theorem kX7_keep : CalV mX7_keep 2 := ⟨⟨TT_at 742 (by decide +kernel) rfl, TT_at 1 (by decide +kernel) rfl, by decide, by decide +kernel, by decide +kernel, by decide⟩, TT_at 740 (by decide +kernel) rfl, TT_at 741 (by decide +kernel) rfl⟩
abbrev mX7_row : MI := (yX7_row, cX7_row, 4, some .int)
theorem kX7_row : CalV mX7_row 3 := ⟨⟨TT_at 746 (by decide +kernel) rfl, TT_at 1 (by decide +kernel) rfl, by decide, by decide +kernel, by decide +kernel, by decide⟩, TT_at 744 (by decide +kernel) rfl, TT_at 745 (by decide +kernel) rfl⟩
abbrev mX4_becomeRow : MI := (yX4_becomeRow, cX4_becomeRow, 4, none)
theorem kX4_becomeRow : CalV mX4_becomeRow 2 := ⟨⟨TT_at 750 (by decide +kernel) rfl, TT_at 8 (by decide +kernel) rfl, by decide, by decide +kernel, by decide +kernel, by decide⟩, TT_at 748 (by decide +kernel) rfl, TT_at 749 (by decide +kernel) rfl⟩
abbrev mX7_put : MI := (yX7_put, cX7_put, 7, some .int)
theorem kX7_put : CalV mX7_put 3 := ⟨⟨TT_at 754 (by decide +kernel) rfl, TT_at 1 (by decide +kernel) rfl, by decide, by decide +kernel, by decide +kernel, by decide⟩, TT_at 752 (by decide +kernel) rfl, TT_at 753 (by decide +kernel) rfl⟩
abbrev mX7_refusedElement : MI := (yX7_refusedElement, cX7_refusedElement, 4, some .int)
theorem kX7_refusedElement : CalV mX7_refusedElement 2 := ⟨⟨TT_at 758 (by decide +kernel) rfl, TT_at 1 (by decide +kernel) rfl, by decide, by decide +kernel, by decide +kernel, by decide⟩, TT_at 757 (by decide +kernel) rfl, TT_of (List.mem_append_left _ (List.mem_of_getElem? (i := 26) (by decide +kernel))) rfl⟩
abbrev mX4_kept : MI := (yX4_kept, cX4_kept, 3, some .long)
theorem kX4_kept : CalS mX4_kept 2 := ⟨TT_at 761 (by decide +kernel) rfl, TT_at 8 (by decide +kernel) rfl, by decide, by decide +kernel, by decide +kernel, by decide⟩
theorem zX4_kept : Cond.static yX4_kept ∈ TT := TT_at 760 (by decide +kernel) rfl
abbrev mX7_element : MI := (yX7_element, cX7_element, 3, some .long)
theorem kX7_element : CalV mX7_element 2 := ⟨⟨TT_at 765 (by decide +kernel) rfl, TT_at 1 (by decide +kernel) rfl, by decide, by decide +kernel, by decide +kernel, by decide⟩, TT_at 763 (by decide +kernel) rfl, TT_at 764 (by decide +kernel) rfl⟩
abbrev mX7_shift : MI := (yX7_shift, cX7_shift, 8, some .int)
theorem kX7_shift : CalV mX7_shift 5 := ⟨⟨TT_at 769 (by decide +kernel) rfl, TT_at 1 (by decide +kernel) rfl, by decide, by decide +kernel, by decide +kernel, by decide⟩, TT_at 767 (by decide +kernel) rfl, TT_at 768 (by decide +kernel) rfl⟩
abbrev mX4_spans : MI := (yX4_spans, cX4_spans, 3, some .boolean)
theorem kX4_spans : CalV mX4_spans 2 := ⟨⟨TT_at 773 (by decide +kernel) rfl, TT_at 8 (by decide +kernel) rfl, by decide, by decide +kernel, by decide +kernel, by decide⟩, TT_at 771 (by decide +kernel) rfl, TT_at 772 (by decide +kernel) rfl⟩
abbrev mX7_taken : MI := (yX7_taken, cX7_taken, 5, some .int)
theorem kX7_taken : CalV mX7_taken 2 := ⟨⟨TT_at 778 (by decide +kernel) rfl, TT_at 1 (by decide +kernel) rfl, by decide, by decide +kernel, by decide +kernel, by decide⟩, TT_at 776 (by decide +kernel) rfl, TT_at 777 (by decide +kernel) rfl⟩
abbrev mX0_isUnder : MI := (yX0_isUnder, cX0_isUnder, 4, some .boolean)
theorem kX0_isUnder : CalS mX0_isUnder 2 := ⟨TT_at 781 (by decide +kernel) rfl, TT_at 7 (by decide +kernel) rfl, by decide, by decide +kernel, by decide +kernel, by decide⟩
theorem zX0_isUnder : Cond.static yX0_isUnder ∈ TT := TT_at 780 (by decide +kernel) rfl
abbrev mX7_count : MI := (yX7_count, cX7_count, 2, some .int)
theorem kX7_count : CalV mX7_count 1 := ⟨⟨TT_at 785 (by decide +kernel) rfl, TT_at 1 (by decide +kernel) rfl, by decide, by decide +kernel, by decide +kernel, by decide⟩, TT_at 783 (by decide +kernel) rfl, TT_at 784 (by decide +kernel) rfl⟩
abbrev mX8_init : MI := (yX8_init, cX8_init, 1, none)
abbrev mX8_card : MI := (yX8_card, cX8_card, 2, some .int)
theorem kX8_card : CalV mX8_card 1 := ⟨⟨TT_at 972 (by decide +kernel) rfl, TT_at 9 (by decide +kernel) rfl, by decide, by decide +kernel, by decide +kernel, by decide⟩, TT_at 970 (by decide +kernel) rfl, TT_at 971 (by decide +kernel) rfl⟩
abbrev mX8_isCardSo : MI := (yX8_isCardSo, cX8_isCardSo, 3, some .boolean)
theorem kX8_isCardSo : CalS mX8_isCardSo 3 := ⟨TT_at 975 (by decide +kernel) rfl, TT_at 9 (by decide +kernel) rfl, by decide, by decide +kernel, by decide +kernel, by decide⟩
theorem zX8_isCardSo : Cond.static yX8_isCardSo ∈ TT := TT_at 974 (by decide +kernel) rfl
abbrev mX8_isColour : MI := (yX8_isColour, cX8_isColour, 1, some .boolean)
theorem kX8_isColour : CalS mX8_isColour 1 := ⟨TT_at 978 (by decide +kernel) rfl, TT_at 9 (by decide +kernel) rfl, by decide, by decide +kernel, by decide +kernel, by decide⟩
theorem zX8_isColour : Cond.static yX8_isColour ∈ TT := TT_at 977 (by decide +kernel) rfl
abbrev mX8_in : MI := (yX8_in, cX8_in, 3, some .boolean)
theorem kX8_in : CalS mX8_in 3 := ⟨TT_at 981 (by decide +kernel) rfl, TT_at 9 (by decide +kernel) rfl, by decide, by decide +kernel, by decide +kernel, by decide⟩
theorem zX8_in : Cond.static yX8_in ∈ TT := TT_at 980 (by decide +kernel) rfl
abbrev mX8_addCard : MI := (yX8_addCard, cX8_addCard, 4, some .int)
theorem kX8_addCard : CalV mX8_addCard 3 := ⟨⟨TT_at 985 (by decide +kernel) rfl, TT_at 9 (by decide +kernel) rfl, by decide, by decide +kernel, by decide +kernel, by decide⟩, TT_at 984 (by decide +kernel) rfl, TT_of (List.mem_append_left _ (List.mem_of_getElem? (i := 27) (by decide +kernel))) rfl⟩
abbrev mX8_cards : MI := (yX8_cards, cX8_cards, 8, some .int)
theorem kX8_cards : CalV mX8_cards 3 := ⟨⟨TT_at 989 (by decide +kernel) rfl, TT_at 9 (by decide +kernel) rfl, by decide, by decide +kernel, by decide +kernel, by decide⟩, TT_at 987 (by decide +kernel) rfl, TT_at 988 (by decide +kernel) rfl⟩
abbrev mX8_isShelf : MI := (yX8_isShelf, cX8_isShelf, 1, some .boolean)
theorem kX8_isShelf : CalS mX8_isShelf 1 := ⟨TT_at 992 (by decide +kernel) rfl, TT_at 9 (by decide +kernel) rfl, by decide, by decide +kernel, by decide +kernel, by decide⟩
theorem zX8_isShelf : Cond.static yX8_isShelf ∈ TT := TT_at 991 (by decide +kernel) rfl
abbrev mX8_undo : MI := (yX8_undo, cX8_undo, 1, some .int)
theorem kX8_undo : CalV mX8_undo 0 := ⟨⟨TT_at 997 (by decide +kernel) rfl, TT_at 9 (by decide +kernel) rfl, by decide, by decide +kernel, by decide +kernel, by decide⟩, TT_at 995 (by decide +kernel) rfl, TT_at 996 (by decide +kernel) rfl⟩
abbrev mX8_lays : MI := (yX8_lays, cX8_lays, 4, none)
theorem kX8_lays : CalV mX8_lays 3 := ⟨⟨TT_at 1001 (by decide +kernel) rfl, TT_at 9 (by decide +kernel) rfl, by decide, by decide +kernel, by decide +kernel, by decide⟩, TT_at 1000 (by decide +kernel) rfl, TT_of (List.mem_append_left _ (List.mem_of_getElem? (i := 28) (by decide +kernel))) rfl⟩
abbrev mX8_redo : MI := (yX8_redo, cX8_redo, 1, some .int)
theorem kX8_redo : CalV mX8_redo 0 := ⟨⟨TT_at 1005 (by decide +kernel) rfl, TT_at 9 (by decide +kernel) rfl, by decide, by decide +kernel, by decide +kernel, by decide⟩, TT_at 1003 (by decide +kernel) rfl, TT_at 1004 (by decide +kernel) rfl⟩
abbrev mX8_mend : MI := (yX8_mend, cX8_mend, 4, some .int)
theorem kX8_mend : CalV mX8_mend 3 := ⟨⟨TT_at 1009 (by decide +kernel) rfl, TT_at 9 (by decide +kernel) rfl, by decide, by decide +kernel, by decide +kernel, by decide⟩, TT_at 1007 (by decide +kernel) rfl, TT_at 1008 (by decide +kernel) rfl⟩
abbrev mX8_isThing : MI := (yX8_isThing, cX8_isThing, 3, some .boolean)
theorem kX8_isThing : CalV mX8_isThing 2 := ⟨⟨TT_at 1013 (by decide +kernel) rfl, TT_at 9 (by decide +kernel) rfl, by decide, by decide +kernel, by decide +kernel, by decide⟩, TT_at 1012 (by decide +kernel) rfl, TT_of (List.mem_append_left _ (List.mem_of_getElem? (i := 29) (by decide +kernel))) rfl⟩
abbrev mX8_isCard : MI := (yX8_isCard, cX8_isCard, 2, some .boolean)
theorem kX8_isCard : CalV mX8_isCard 1 := ⟨⟨TT_at 1017 (by decide +kernel) rfl, TT_at 9 (by decide +kernel) rfl, by decide, by decide +kernel, by decide +kernel, by decide⟩, TT_at 1016 (by decide +kernel) rfl, TT_of (List.mem_append_left _ (List.mem_of_getElem? (i := 30) (by decide +kernel))) rfl⟩
abbrev mX8_mostOf : MI := (yX8_mostOf, cX8_mostOf, 1, some .int)
theorem kX8_mostOf : CalS mX8_mostOf 1 := ⟨TT_at 1020 (by decide +kernel) rfl, TT_at 9 (by decide +kernel) rfl, by decide, by decide +kernel, by decide +kernel, by decide⟩
theorem zX8_mostOf : Cond.static yX8_mostOf ∈ TT := TT_at 1019 (by decide +kernel) rfl
abbrev mX8_changes : MI := (yX8_changes, cX8_changes, 6, some .int)
theorem kX8_changes : CalV mX8_changes 3 := ⟨⟨TT_at 1024 (by decide +kernel) rfl, TT_at 9 (by decide +kernel) rfl, by decide, by decide +kernel, by decide +kernel, by decide⟩, TT_at 1023 (by decide +kernel) rfl, TT_of (List.mem_append_left _ (List.mem_of_getElem? (i := 31) (by decide +kernel))) rfl⟩
abbrev mX8_valueAt : MI := (yX8_valueAt, cX8_valueAt, 3, some .int)
theorem kX8_valueAt : CalV mX8_valueAt 2 := ⟨⟨TT_at 1028 (by decide +kernel) rfl, TT_at 9 (by decide +kernel) rfl, by decide, by decide +kernel, by decide +kernel, by decide⟩, TT_at 1027 (by decide +kernel) rfl, TT_of (List.mem_append_left _ (List.mem_of_getElem? (i := 32) (by decide +kernel))) rfl⟩
abbrev mX8_of : MI := (yX8_of, cX8_of, 3, some .int)
theorem kX8_of : CalV mX8_of 2 := ⟨⟨TT_at 1032 (by decide +kernel) rfl, TT_at 9 (by decide +kernel) rfl, by decide, by decide +kernel, by decide +kernel, by decide⟩, TT_at 1030 (by decide +kernel) rfl, TT_at 1031 (by decide +kernel) rfl⟩
abbrev mX8_allCards : MI := (yX8_allCards, cX8_allCards, 3, some .int)
theorem kX8_allCards : CalV mX8_allCards 0 := ⟨⟨TT_at 1036 (by decide +kernel) rfl, TT_at 9 (by decide +kernel) rfl, by decide, by decide +kernel, by decide +kernel, by decide⟩, TT_at 1035 (by decide +kernel) rfl, TT_of (List.mem_append_left _ (List.mem_of_getElem? (i := 33) (by decide +kernel))) rfl⟩
abbrev mX8_feed : MI := (yX8_feed, cX8_feed, 2, some .int)
theorem kX8_feed : CalV mX8_feed 1 := ⟨⟨TT_at 1040 (by decide +kernel) rfl, TT_at 9 (by decide +kernel) rfl, by decide, by decide +kernel, by decide +kernel, by decide⟩, TT_at 1038 (by decide +kernel) rfl, TT_at 1039 (by decide +kernel) rfl⟩
abbrev mX8_law : MI := (yX8_law, cX8_law, 2, some .int)
theorem kX8_law : CalV mX8_law 0 := ⟨⟨TT_at 1044 (by decide +kernel) rfl, TT_at 9 (by decide +kernel) rfl, by decide, by decide +kernel, by decide +kernel, by decide⟩, TT_at 1042 (by decide +kernel) rfl, TT_at 1043 (by decide +kernel) rfl⟩
abbrev mX8_readText : MI := (yX8_readText, cX8_readText, 3, some .int)
theorem kX8_readText : CalV mX8_readText 1 := ⟨⟨TT_at 1048 (by decide +kernel) rfl, TT_at 9 (by decide +kernel) rfl, by decide, by decide +kernel, by decide +kernel, by decide⟩, TT_at 1047 (by decide +kernel) rfl, TT_of (List.mem_append_left _ (List.mem_of_getElem? (i := 34) (by decide +kernel))) rfl⟩
abbrev mX8_line : MI := (yX8_line, cX8_line, 2, none)
theorem kX8_line : CalV mX8_line 0 := ⟨⟨TT_at 1052 (by decide +kernel) rfl, TT_at 9 (by decide +kernel) rfl, by decide, by decide +kernel, by decide +kernel, by decide⟩, TT_at 1051 (by decide +kernel) rfl, TT_of (List.mem_append_left _ (List.mem_of_getElem? (i := 35) (by decide +kernel))) rfl⟩
abbrev mX8_either : MI := (yX8_either, cX8_either, 1, none)
theorem kX8_either : CalV mX8_either 0 := ⟨⟨TT_at 1056 (by decide +kernel) rfl, TT_at 9 (by decide +kernel) rfl, by decide, by decide +kernel, by decide +kernel, by decide⟩, TT_at 1055 (by decide +kernel) rfl, TT_of (List.mem_append_left _ (List.mem_of_getElem? (i := 36) (by decide +kernel))) rfl⟩
abbrev mX8_both : MI := (yX8_both, cX8_both, 1, none)
theorem kX8_both : CalV mX8_both 0 := ⟨⟨TT_at 1060 (by decide +kernel) rfl, TT_at 9 (by decide +kernel) rfl, by decide, by decide +kernel, by decide +kernel, by decide⟩, TT_at 1059 (by decide +kernel) rfl, TT_of (List.mem_append_left _ (List.mem_of_getElem? (i := 37) (by decide +kernel))) rfl⟩
abbrev mX8_compared : MI := (yX8_compared, cX8_compared, 2, none)
theorem kX8_compared : CalV mX8_compared 0 := ⟨⟨TT_at 1064 (by decide +kernel) rfl, TT_at 9 (by decide +kernel) rfl, by decide, by decide +kernel, by decide +kernel, by decide⟩, TT_at 1063 (by decide +kernel) rfl, TT_of (List.mem_append_left _ (List.mem_of_getElem? (i := 38) (by decide +kernel))) rfl⟩
abbrev mX8_sum : MI := (yX8_sum, cX8_sum, 2, none)
theorem kX8_sum : CalV mX8_sum 0 := ⟨⟨TT_at 1068 (by decide +kernel) rfl, TT_at 9 (by decide +kernel) rfl, by decide, by decide +kernel, by decide +kernel, by decide⟩, TT_at 1067 (by decide +kernel) rfl, TT_of (List.mem_append_left _ (List.mem_of_getElem? (i := 39) (by decide +kernel))) rfl⟩
abbrev mX8_product : MI := (yX8_product, cX8_product, 2, none)
theorem kX8_product : CalV mX8_product 0 := ⟨⟨TT_at 1072 (by decide +kernel) rfl, TT_at 9 (by decide +kernel) rfl, by decide, by decide +kernel, by decide +kernel, by decide⟩, TT_at 1071 (by decide +kernel) rfl, TT_of (List.mem_append_left _ (List.mem_of_getElem? (i := 40) (by decide +kernel))) rfl⟩
abbrev mX8_operand : MI := (yX8_operand, cX8_operand, 2, none)
theorem kX8_operand : CalV mX8_operand 0 := ⟨⟨TT_at 1076 (by decide +kernel) rfl, TT_at 9 (by decide +kernel) rfl, by decide, by decide +kernel, by decide +kernel, by decide⟩, TT_at 1075 (by decide +kernel) rfl, TT_of (List.mem_append_left _ (List.mem_of_getElem? (i := 41) (by decide +kernel))) rfl⟩
abbrev mX8_look : MI := (yX8_look, cX8_look, 1, some .int)
theorem kX8_look : CalV mX8_look 0 := ⟨⟨TT_at 1080 (by decide +kernel) rfl, TT_at 9 (by decide +kernel) rfl, by decide, by decide +kernel, by decide +kernel, by decide⟩, TT_at 1079 (by decide +kernel) rfl, TT_of (List.mem_append_left _ (List.mem_of_getElem? (i := 42) (by decide +kernel))) rfl⟩
abbrev mX8_nameOf : MI := (yX8_nameOf, cX8_nameOf, 1, some .int)
theorem kX8_nameOf : CalS mX8_nameOf 1 := ⟨TT_at 1083 (by decide +kernel) rfl, TT_at 9 (by decide +kernel) rfl, by decide, by decide +kernel, by decide +kernel, by decide⟩
theorem zX8_nameOf : Cond.static yX8_nameOf ∈ TT := TT_at 1082 (by decide +kernel) rfl
abbrev mX8_addStep : MI := (yX8_addStep, cX8_addStep, 3, none)
theorem kX8_addStep : CalV mX8_addStep 2 := ⟨⟨TT_at 1087 (by decide +kernel) rfl, TT_at 9 (by decide +kernel) rfl, by decide, by decide +kernel, by decide +kernel, by decide⟩, TT_at 1086 (by decide +kernel) rfl, TT_of (List.mem_append_left _ (List.mem_of_getElem? (i := 43) (by decide +kernel))) rfl⟩
abbrev mX8_opens : MI := (yX8_opens, cX8_opens, 1, some .boolean)
theorem kX8_opens : CalV mX8_opens 0 := ⟨⟨TT_at 1091 (by decide +kernel) rfl, TT_at 9 (by decide +kernel) rfl, by decide, by decide +kernel, by decide +kernel, by decide⟩, TT_at 1090 (by decide +kernel) rfl, TT_of (List.mem_append_left _ (List.mem_of_getElem? (i := 44) (by decide +kernel))) rfl⟩
abbrev mX8_faulty : MI := (yX8_faulty, cX8_faulty, 1, none)
theorem kX8_faulty : CalV mX8_faulty 0 := ⟨⟨TT_at 1095 (by decide +kernel) rfl, TT_at 9 (by decide +kernel) rfl, by decide, by decide +kernel, by decide +kernel, by decide⟩, TT_at 1094 (by decide +kernel) rfl, TT_of (List.mem_append_left _ (List.mem_of_getElem? (i := 45) (by decide +kernel))) rfl⟩
abbrev mX8_figure : MI := (yX8_figure, cX8_figure, 3, none)
theorem kX8_figure : CalV mX8_figure 0 := ⟨⟨TT_at 1099 (by decide +kernel) rfl, TT_at 9 (by decide +kernel) rfl, by decide, by decide +kernel, by decide +kernel, by decide⟩, TT_at 1098 (by decide +kernel) rfl, TT_of (List.mem_append_left _ (List.mem_of_getElem? (i := 46) (by decide +kernel))) rfl⟩
abbrev mX8_weight : MI := (yX8_weight, cX8_weight, 3, some .int)
theorem kX8_weight : CalV mX8_weight 2 := ⟨⟨TT_at 1103 (by decide +kernel) rfl, TT_at 9 (by decide +kernel) rfl, by decide, by decide +kernel, by decide +kernel, by decide⟩, TT_at 1101 (by decide +kernel) rfl, TT_at 1102 (by decide +kernel) rfl⟩
abbrev mX8_findWeights : MI := (yX8_findWeights, cX8_findWeights, 2, none)
theorem kX8_findWeights : CalV mX8_findWeights 0 := ⟨⟨TT_at 1107 (by decide +kernel) rfl, TT_at 9 (by decide +kernel) rfl, by decide, by decide +kernel, by decide +kernel, by decide⟩, TT_at 1106 (by decide +kernel) rfl, TT_of (List.mem_append_left _ (List.mem_of_getElem? (i := 47) (by decide +kernel))) rfl⟩
abbrev mX8_ownWeight : MI := (yX8_ownWeight, cX8_ownWeight, 4, some .int)
theorem kX8_ownWeight : CalV mX8_ownWeight 2 := ⟨⟨TT_at 1111 (by decide +kernel) rfl, TT_at 9 (by decide +kernel) rfl, by decide, by decide +kernel, by decide +kernel, by decide⟩, TT_at 1110 (by decide +kernel) rfl, TT_of (List.mem_append_left _ (List.mem_of_getElem? (i := 48) (by decide +kernel))) rfl⟩
abbrev mX8_gives : MI := (yX8_gives, cX8_gives, 4, some .int)
theorem kX8_gives : CalV mX8_gives 1 := ⟨⟨TT_at 1115 (by decide +kernel) rfl, TT_at 9 (by decide +kernel) rfl, by decide, by decide +kernel, by decide +kernel, by decide⟩, TT_at 1114 (by decide +kernel) rfl, TT_of (List.mem_append_left _ (List.mem_of_getElem? (i := 49) (by decide +kernel))) rfl⟩
abbrev mX8_worked : MI := (yX8_worked, cX8_worked, 7, some .int)
theorem kX8_worked : CalV mX8_worked 3 := ⟨⟨TT_at 1119 (by decide +kernel) rfl, TT_at 9 (by decide +kernel) rfl, by decide, by decide +kernel, by decide +kernel, by decide⟩, TT_at 1118 (by decide +kernel) rfl, TT_of (List.mem_append_left _ (List.mem_of_getElem? (i := 50) (by decide +kernel))) rfl⟩
abbrev mX8_twoOf : MI := (yX8_twoOf, cX8_twoOf, 3, some .int)
theorem kX8_twoOf : CalS mX8_twoOf 3 := ⟨TT_at 1122 (by decide +kernel) rfl, TT_at 9 (by decide +kernel) rfl, by decide, by decide +kernel, by decide +kernel, by decide⟩
theorem zX8_twoOf : Cond.static yX8_twoOf ∈ TT := TT_at 1121 (by decide +kernel) rfl
abbrev mX8_shown : MI := (yX8_shown, cX8_shown, 3, some .long)
theorem kX8_shown : CalV mX8_shown 2 := ⟨⟨TT_at 1126 (by decide +kernel) rfl, TT_at 9 (by decide +kernel) rfl, by decide, by decide +kernel, by decide +kernel, by decide⟩, TT_at 1124 (by decide +kernel) rfl, TT_at 1125 (by decide +kernel) rfl⟩
abbrev mX8_isPart : MI := (yX8_isPart, cX8_isPart, 1, some .boolean)
theorem kX8_isPart : CalS mX8_isPart 1 := ⟨TT_at 1129 (by decide +kernel) rfl, TT_at 9 (by decide +kernel) rfl, by decide, by decide +kernel, by decide +kernel, by decide⟩
theorem zX8_isPart : Cond.static yX8_isPart ∈ TT := TT_at 1128 (by decide +kernel) rfl
abbrev mX8_allShow : MI := (yX8_allShow, cX8_allShow, 6, some .long)
theorem kX8_allShow : CalV mX8_allShow 2 := ⟨⟨TT_at 1134 (by decide +kernel) rfl, TT_at 9 (by decide +kernel) rfl, by decide, by decide +kernel, by decide +kernel, by decide⟩, TT_at 1133 (by decide +kernel) rfl, TT_of (List.mem_append_left _ (List.mem_of_getElem? (i := 51) (by decide +kernel))) rfl⟩
abbrev mX8_shows : MI := (yX8_shows, cX8_shows, 3, some .long)
theorem kX8_shows : CalV mX8_shows 2 := ⟨⟨TT_at 1138 (by decide +kernel) rfl, TT_at 9 (by decide +kernel) rfl, by decide, by decide +kernel, by decide +kernel, by decide⟩, TT_at 1137 (by decide +kernel) rfl, TT_of (List.mem_append_left _ (List.mem_of_getElem? (i := 52) (by decide +kernel))) rfl⟩
abbrev mX8_sumOf : MI := (yX8_sumOf, cX8_sumOf, 2, some .int)
theorem kX8_sumOf : CalV mX8_sumOf 1 := ⟨⟨TT_at 1143 (by decide +kernel) rfl, TT_at 9 (by decide +kernel) rfl, by decide, by decide +kernel, by decide +kernel, by decide⟩, TT_at 1142 (by decide +kernel) rfl, TT_of (List.mem_append_left _ (List.mem_of_getElem? (i := 53) (by decide +kernel))) rfl⟩
abbrev mX8_power : MI := (yX8_power, cX8_power, 6, some .long)
theorem kX8_power : CalS mX8_power 2 := ⟨TT_at 1146 (by decide +kernel) rfl, TT_at 9 (by decide +kernel) rfl, by decide, by decide +kernel, by decide +kernel, by decide⟩
theorem zX8_power : Cond.static yX8_power ∈ TT := TT_at 1145 (by decide +kernel) rfl
abbrev mX8_asPart : MI := (yX8_asPart, cX8_asPart, 11, some .long)
theorem kX8_asPart : CalS mX8_asPart 3 := ⟨TT_at 1149 (by decide +kernel) rfl, TT_at 9 (by decide +kernel) rfl, by decide, by decide +kernel, by decide +kernel, by decide⟩
theorem zX8_asPart : Cond.static yX8_asPart ∈ TT := TT_at 1148 (by decide +kernel) rfl
abbrev mX8_other : MI := (yX8_other, cX8_other, 8, some .long)
theorem kX8_other : CalV mX8_other 2 := ⟨⟨TT_at 1153 (by decide +kernel) rfl, TT_at 9 (by decide +kernel) rfl, by decide, by decide +kernel, by decide +kernel, by decide⟩, TT_at 1151 (by decide +kernel) rfl, TT_at 1152 (by decide +kernel) rfl⟩
abbrev mX8_which : MI := (yX8_which, cX8_which, 4, some .long)
theorem kX8_which : CalV mX8_which 3 := ⟨⟨TT_at 1157 (by decide +kernel) rfl, TT_at 9 (by decide +kernel) rfl, by decide, by decide +kernel, by decide +kernel, by decide⟩, TT_at 1155 (by decide +kernel) rfl, TT_at 1156 (by decide +kernel) rfl⟩
abbrev mX8_isShown : MI := (yX8_isShown, cX8_isShown, 1, some .boolean)
theorem kX8_isShown : CalS mX8_isShown 1 := ⟨TT_at 1160 (by decide +kernel) rfl, TT_at 9 (by decide +kernel) rfl, by decide, by decide +kernel, by decide +kernel, by decide⟩
theorem zX8_isShown : Cond.static yX8_isShown ∈ TT := TT_at 1159 (by decide +kernel) rfl
abbrev mX8_again : MI := (yX8_again, cX8_again, 3, some .long)
theorem kX8_again : CalV mX8_again 2 := ⟨⟨TT_at 1164 (by decide +kernel) rfl, TT_at 9 (by decide +kernel) rfl, by decide, by decide +kernel, by decide +kernel, by decide⟩, TT_at 1162 (by decide +kernel) rfl, TT_at 1163 (by decide +kernel) rfl⟩
abbrev mX8_cheated : MI := (yX8_cheated, cX8_cheated, 11, some .int)
theorem kX8_cheated : CalV mX8_cheated 1 := ⟨⟨TT_at 1168 (by decide +kernel) rfl, TT_at 9 (by decide +kernel) rfl, by decide, by decide +kernel, by decide +kernel, by decide⟩, TT_at 1166 (by decide +kernel) rfl, TT_at 1167 (by decide +kernel) rfl⟩
abbrev mX8_rowFault : MI := (yX8_rowFault, cX8_rowFault, 2, some .int)
theorem kX8_rowFault : CalV mX8_rowFault 1 := ⟨⟨TT_at 1172 (by decide +kernel) rfl, TT_at 9 (by decide +kernel) rfl, by decide, by decide +kernel, by decide +kernel, by decide⟩, TT_at 1171 (by decide +kernel) rfl, TT_of (List.mem_append_left _ (List.mem_of_getElem? (i := 54) (by decide +kernel))) rfl⟩
abbrev mX8_byteAt : MI := (yX8_byteAt, cX8_byteAt, 3, some .int)
theorem kX8_byteAt : CalV mX8_byteAt 2 := ⟨⟨TT_at 1176 (by decide +kernel) rfl, TT_at 9 (by decide +kernel) rfl, by decide, by decide +kernel, by decide +kernel, by decide⟩, TT_at 1175 (by decide +kernel) rfl, TT_of (List.mem_append_left _ (List.mem_of_getElem? (i := 55) (by decide +kernel))) rfl⟩
abbrev mX8_rowShows : MI := (yX8_rowShows, cX8_rowShows, 5, some .long)
theorem kX8_rowShows : CalV mX8_rowShows 1 := ⟨⟨TT_at 1180 (by decide +kernel) rfl, TT_at 9 (by decide +kernel) rfl, by decide, by decide +kernel, by decide +kernel, by decide⟩, TT_at 1179 (by decide +kernel) rfl, TT_of (List.mem_append_left _ (List.mem_of_getElem? (i := 56) (by decide +kernel))) rfl⟩
abbrev mX8_judge : MI := (yX8_judge, cX8_judge, 3, some .int)
theorem kX8_judge : CalV mX8_judge 1 := ⟨⟨TT_at 1184 (by decide +kernel) rfl, TT_at 9 (by decide +kernel) rfl, by decide, by decide +kernel, by decide +kernel, by decide⟩, TT_at 1182 (by decide +kernel) rfl, TT_at 1183 (by decide +kernel) rfl⟩
abbrev mX8_handed : MI := (yX8_handed, cX8_handed, 11, some .long)
theorem kX8_handed : CalV mX8_handed 3 := ⟨⟨TT_at 1188 (by decide +kernel) rfl, TT_at 9 (by decide +kernel) rfl, by decide, by decide +kernel, by decide +kernel, by decide⟩, TT_at 1186 (by decide +kernel) rfl, TT_at 1187 (by decide +kernel) rfl⟩
abbrev mX8_lastRed : MI := (yX8_lastRed, cX8_lastRed, 12, some .long)
theorem kX8_lastRed : CalV mX8_lastRed 2 := ⟨⟨TT_at 1192 (by decide +kernel) rfl, TT_at 9 (by decide +kernel) rfl, by decide, by decide +kernel, by decide +kernel, by decide⟩, TT_at 1191 (by decide +kernel) rfl, TT_of (List.mem_append_left _ (List.mem_of_getElem? (i := 57) (by decide +kernel))) rfl⟩
abbrev mX8_ill : MI := (yX8_ill, cX8_ill, 9, some .long)
theorem kX8_ill : CalV mX8_ill 2 := ⟨⟨TT_at 1196 (by decide +kernel) rfl, TT_at 9 (by decide +kernel) rfl, by decide, by decide +kernel, by decide +kernel, by decide⟩, TT_at 1194 (by decide +kernel) rfl, TT_at 1195 (by decide +kernel) rfl⟩
abbrev mX8_order : MI := (yX8_order, cX8_order, 3, some .long)
theorem kX8_order : CalV mX8_order 2 := ⟨⟨TT_at 1200 (by decide +kernel) rfl, TT_at 9 (by decide +kernel) rfl, by decide, by decide +kernel, by decide +kernel, by decide⟩, TT_at 1198 (by decide +kernel) rfl, TT_at 1199 (by decide +kernel) rfl⟩
abbrev mX8_goOrders : MI := (yX8_goOrders, cX8_goOrders, 6, none)
theorem kX8_goOrders : CalV mX8_goOrders 2 := ⟨⟨TT_at 1205 (by decide +kernel) rfl, TT_at 9 (by decide +kernel) rfl, by decide, by decide +kernel, by decide +kernel, by decide⟩, TT_at 1204 (by decide +kernel) rfl, TT_of (List.mem_append_left _ (List.mem_of_getElem? (i := 58) (by decide +kernel))) rfl⟩
abbrev mX8_meanPrice : MI := (yX8_meanPrice, cX8_meanPrice, 8, some .long)
theorem kX8_meanPrice : CalV mX8_meanPrice 0 := ⟨⟨TT_at 1209 (by decide +kernel) rfl, TT_at 9 (by decide +kernel) rfl, by decide, by decide +kernel, by decide +kernel, by decide⟩, TT_at 1208 (by decide +kernel) rfl, TT_of (List.mem_append_left _ (List.mem_of_getElem? (i := 59) (by decide +kernel))) rfl⟩
abbrev mX8_isSo : MI := (yX8_isSo, cX8_isSo, 9, some .long)
theorem kX8_isSo : CalV mX8_isSo 2 := ⟨⟨TT_at 1215 (by decide +kernel) rfl, TT_at 9 (by decide +kernel) rfl, by decide, by decide +kernel, by decide +kernel, by decide⟩, TT_at 1213 (by decide +kernel) rfl, TT_at 1214 (by decide +kernel) rfl⟩
abbrev mX8_tooMany : MI := (yX8_tooMany, cX8_tooMany, 10, some .long)
theorem kX8_tooMany : CalV mX8_tooMany 2 := ⟨⟨TT_at 1219 (by decide +kernel) rfl, TT_at 9 (by decide +kernel) rfl, by decide, by decide +kernel, by decide +kernel, by decide⟩, TT_at 1217 (by decide +kernel) rfl, TT_at 1218 (by decide +kernel) rfl⟩
abbrev mX8_next : MI := (yX8_next, cX8_next, 3, some .long)
theorem kX8_next : CalV mX8_next 2 := ⟨⟨TT_at 1223 (by decide +kernel) rfl, TT_at 9 (by decide +kernel) rfl, by decide, by decide +kernel, by decide +kernel, by decide⟩, TT_at 1221 (by decide +kernel) rfl, TT_at 1222 (by decide +kernel) rfl⟩
abbrev mX8_sure : MI := (yX8_sure, cX8_sure, 5, some .int)
theorem kX8_sure : CalV mX8_sure 1 := ⟨⟨TT_at 1227 (by decide +kernel) rfl, TT_at 9 (by decide +kernel) rfl, by decide, by decide +kernel, by decide +kernel, by decide⟩, TT_at 1225 (by decide +kernel) rfl, TT_at 1226 (by decide +kernel) rfl⟩
abbrev mX8_leastLoss : MI := (yX8_leastLoss, cX8_leastLoss, 4, some .int)
theorem kX8_leastLoss : CalV mX8_leastLoss 0 := ⟨⟨TT_at 1232 (by decide +kernel) rfl, TT_at 9 (by decide +kernel) rfl, by decide, by decide +kernel, by decide +kernel, by decide⟩, TT_at 1231 (by decide +kernel) rfl, TT_of (List.mem_append_left _ (List.mem_of_getElem? (i := 60) (by decide +kernel))) rfl⟩
abbrev mX8_drawn : MI := (yX8_drawn, cX8_drawn, 7, some .int)
theorem kX8_drawn : CalV mX8_drawn 3 := ⟨⟨TT_at 1236 (by decide +kernel) rfl, TT_at 9 (by decide +kernel) rfl, by decide, by decide +kernel, by decide +kernel, by decide⟩, TT_at 1234 (by decide +kernel) rfl, TT_at 1235 (by decide +kernel) rfl⟩
abbrev mX8_show : MI := (yX8_show, cX8_show, 3, some .int)
theorem kX8_show : CalV mX8_show 0 := ⟨⟨TT_at 1240 (by decide +kernel) rfl, TT_at 9 (by decide +kernel) rfl, by decide, by decide +kernel, by decide +kernel, by decide⟩, TT_at 1239 (by decide +kernel) rfl, TT_of (List.mem_append_left _ (List.mem_of_getElem? (i := 61) (by decide +kernel))) rfl⟩
abbrev mX8_drawOne : MI := (yX8_drawOne, cX8_drawOne, 2, some .int)
theorem kX8_drawOne : CalV mX8_drawOne 1 := ⟨⟨TT_at 1244 (by decide +kernel) rfl, TT_at 9 (by decide +kernel) rfl, by decide, by decide +kernel, by decide +kernel, by decide⟩, TT_at 1243 (by decide +kernel) rfl, TT_of (List.mem_append_left _ (List.mem_of_getElem? (i := 62) (by decide +kernel))) rfl⟩
abbrev mX8_draw : MI := (yX8_draw, cX8_draw, 3, some .int)
theorem kX8_draw : CalV mX8_draw 1 := ⟨⟨TT_at 1249 (by decide +kernel) rfl, TT_at 9 (by decide +kernel) rfl, by decide, by decide +kernel, by decide +kernel, by decide⟩, TT_at 1247 (by decide +kernel) rfl, TT_at 1248 (by decide +kernel) rfl⟩
abbrev mX8_putBack : MI := (yX8_putBack, cX8_putBack, 3, some .int)
theorem kX8_putBack : CalV mX8_putBack 0 := ⟨⟨TT_at 1253 (by decide +kernel) rfl, TT_at 9 (by decide +kernel) rfl, by decide, by decide +kernel, by decide +kernel, by decide⟩, TT_at 1251 (by decide +kernel) rfl, TT_at 1252 (by decide +kernel) rfl⟩
abbrev mX8_asideMany : MI := (yX8_asideMany, cX8_asideMany, 3, some .int)
theorem kX8_asideMany : CalV mX8_asideMany 0 := ⟨⟨TT_at 1257 (by decide +kernel) rfl, TT_at 9 (by decide +kernel) rfl, by decide, by decide +kernel, by decide +kernel, by decide⟩, TT_at 1256 (by decide +kernel) rfl, TT_of (List.mem_append_left _ (List.mem_of_getElem? (i := 63) (by decide +kernel))) rfl⟩
abbrev mX8_image : MI := (yX8_image, cX8_image, 2, some .int)
theorem kX8_image : CalV mX8_image 0 := ⟨⟨TT_at 1261 (by decide +kernel) rfl, TT_at 9 (by decide +kernel) rfl, by decide, by decide +kernel, by decide +kernel, by decide⟩, TT_at 1259 (by decide +kernel) rfl, TT_at 1260 (by decide +kernel) rfl⟩
abbrev mX8_back : MI := (yX8_back, cX8_back, 2, some .int)
theorem kX8_back : CalV mX8_back 0 := ⟨⟨TT_at 1265 (by decide +kernel) rfl, TT_at 9 (by decide +kernel) rfl, by decide, by decide +kernel, by decide +kernel, by decide⟩, TT_at 1263 (by decide +kernel) rfl, TT_at 1264 (by decide +kernel) rfl⟩
abbrev mX8_trace : MI := (yX8_trace, cX8_trace, 2, some .int)
theorem kX8_trace : CalV mX8_trace 1 := ⟨⟨TT_at 1269 (by decide +kernel) rfl, TT_at 9 (by decide +kernel) rfl, by decide, by decide +kernel, by decide +kernel, by decide⟩, TT_at 1267 (by decide +kernel) rfl, TT_at 1268 (by decide +kernel) rfl⟩
abbrev mX8_body : MI := (yX8_body, cX8_body, 2, some .int)
theorem kX8_body : CalV mX8_body 1 := ⟨⟨TT_at 1273 (by decide +kernel) rfl, TT_at 9 (by decide +kernel) rfl, by decide, by decide +kernel, by decide +kernel, by decide⟩, TT_at 1271 (by decide +kernel) rfl, TT_at 1272 (by decide +kernel) rfl⟩
abbrev mX8_act : MI := (yX8_act, cX8_act, 4, some .int)
theorem kX8_act : CalV mX8_act 3 := ⟨⟨TT_at 1277 (by decide +kernel) rfl, TT_at 9 (by decide +kernel) rfl, by decide, by decide +kernel, by decide +kernel, by decide⟩, TT_at 1275 (by decide +kernel) rfl, TT_at 1276 (by decide +kernel) rfl⟩
abbrev mX8_isBody : MI := (yX8_isBody, cX8_isBody, 2, some .boolean)
theorem kX8_isBody : CalV mX8_isBody 1 := ⟨⟨TT_at 1281 (by decide +kernel) rfl, TT_at 9 (by decide +kernel) rfl, by decide, by decide +kernel, by decide +kernel, by decide⟩, TT_at 1280 (by decide +kernel) rfl, TT_of (List.mem_append_left _ (List.mem_of_getElem? (i := 64) (by decide +kernel))) rfl⟩
abbrev mX8_showing : MI := (yX8_showing, cX8_showing, 3, some .int)
theorem kX8_showing : CalV mX8_showing 2 := ⟨⟨TT_at 1285 (by decide +kernel) rfl, TT_at 9 (by decide +kernel) rfl, by decide, by decide +kernel, by decide +kernel, by decide⟩, TT_at 1284 (by decide +kernel) rfl, TT_of (List.mem_append_left _ (List.mem_of_getElem? (i := 65) (by decide +kernel))) rfl⟩
abbrev mX8_isUnder : MI := (yX8_isUnder, cX8_isUnder, 2, some .boolean)
theorem kX8_isUnder : CalS mX8_isUnder 2 := ⟨TT_at 1288 (by decide +kernel) rfl, TT_at 9 (by decide +kernel) rfl, by decide, by decide +kernel, by decide +kernel, by decide⟩
theorem zX8_isUnder : Cond.static yX8_isUnder ∈ TT := TT_at 1287 (by decide +kernel) rfl
abbrev mX8_ran : MI := (yX8_ran, cX8_ran, 2, none)
theorem kX8_ran : CalV mX8_ran 1 := ⟨⟨TT_at 1292 (by decide +kernel) rfl, TT_at 9 (by decide +kernel) rfl, by decide, by decide +kernel, by decide +kernel, by decide⟩, TT_at 1291 (by decide +kernel) rfl, TT_of (List.mem_append_left _ (List.mem_of_getElem? (i := 66) (by decide +kernel))) rfl⟩
abbrev mX8_plainShows : MI := (yX8_plainShows, cX8_plainShows, 3, some .int)
theorem kX8_plainShows : CalV mX8_plainShows 2 := ⟨⟨TT_at 1296 (by decide +kernel) rfl, TT_at 9 (by decide +kernel) rfl, by decide, by decide +kernel, by decide +kernel, by decide⟩, TT_at 1295 (by decide +kernel) rfl, TT_of (List.mem_append_left _ (List.mem_of_getElem? (i := 67) (by decide +kernel))) rfl⟩
abbrev mX8_toldShows : MI := (yX8_toldShows, cX8_toldShows, 3, some .int)
theorem kX8_toldShows : CalV mX8_toldShows 2 := ⟨⟨TT_at 1300 (by decide +kernel) rfl, TT_at 9 (by decide +kernel) rfl, by decide, by decide +kernel, by decide +kernel, by decide⟩, TT_at 1299 (by decide +kernel) rfl, TT_of (List.mem_append_left _ (List.mem_of_getElem? (i := 68) (by decide +kernel))) rfl⟩
abbrev mX8_drawing : MI := (yX8_drawing, cX8_drawing, 4, some .int)
theorem kX8_drawing : CalV mX8_drawing 2 := ⟨⟨TT_at 1304 (by decide +kernel) rfl, TT_at 9 (by decide +kernel) rfl, by decide, by decide +kernel, by decide +kernel, by decide⟩, TT_at 1303 (by decide +kernel) rfl, TT_of (List.mem_append_left _ (List.mem_of_getElem? (i := 69) (by decide +kernel))) rfl⟩
abbrev mX8_urnDraws : MI := (yX8_urnDraws, cX8_urnDraws, 3, some .int)
theorem kX8_urnDraws : CalV mX8_urnDraws 2 := ⟨⟨TT_at 1308 (by decide +kernel) rfl, TT_at 9 (by decide +kernel) rfl, by decide, by decide +kernel, by decide +kernel, by decide⟩, TT_at 1307 (by decide +kernel) rfl, TT_of (List.mem_append_left _ (List.mem_of_getElem? (i := 70) (by decide +kernel))) rfl⟩
abbrev mX8_plainDraws : MI := (yX8_plainDraws, cX8_plainDraws, 3, some .int)
theorem kX8_plainDraws : CalV mX8_plainDraws 2 := ⟨⟨TT_at 1312 (by decide +kernel) rfl, TT_at 9 (by decide +kernel) rfl, by decide, by decide +kernel, by decide +kernel, by decide⟩, TT_at 1311 (by decide +kernel) rfl, TT_of (List.mem_append_left _ (List.mem_of_getElem? (i := 71) (by decide +kernel))) rfl⟩
abbrev mX8_leaving : MI := (yX8_leaving, cX8_leaving, 4, some .int)
theorem kX8_leaving : CalV mX8_leaving 2 := ⟨⟨TT_at 1316 (by decide +kernel) rfl, TT_at 9 (by decide +kernel) rfl, by decide, by decide +kernel, by decide +kernel, by decide⟩, TT_at 1315 (by decide +kernel) rfl, TT_of (List.mem_append_left _ (List.mem_of_getElem? (i := 72) (by decide +kernel))) rfl⟩
abbrev mX8_testLeaves : MI := (yX8_testLeaves, cX8_testLeaves, 3, some .int)
theorem kX8_testLeaves : CalV mX8_testLeaves 2 := ⟨⟨TT_at 1320 (by decide +kernel) rfl, TT_at 9 (by decide +kernel) rfl, by decide, by decide +kernel, by decide +kernel, by decide⟩, TT_at 1319 (by decide +kernel) rfl, TT_of (List.mem_append_left _ (List.mem_of_getElem? (i := 73) (by decide +kernel))) rfl⟩
abbrev mX8_plainLeaves : MI := (yX8_plainLeaves, cX8_plainLeaves, 3, some .int)
theorem kX8_plainLeaves : CalV mX8_plainLeaves 2 := ⟨⟨TT_at 1324 (by decide +kernel) rfl, TT_at 9 (by decide +kernel) rfl, by decide, by decide +kernel, by decide +kernel, by decide⟩, TT_at 1323 (by decide +kernel) rfl, TT_of (List.mem_append_left _ (List.mem_of_getElem? (i := 74) (by decide +kernel))) rfl⟩
abbrev mX8_telling : MI := (yX8_telling, cX8_telling, 3, some .int)
theorem kX8_telling : CalV mX8_telling 2 := ⟨⟨TT_at 1328 (by decide +kernel) rfl, TT_at 9 (by decide +kernel) rfl, by decide, by decide +kernel, by decide +kernel, by decide⟩, TT_at 1327 (by decide +kernel) rfl, TT_of (List.mem_append_left _ (List.mem_of_getElem? (i := 75) (by decide +kernel))) rfl⟩
abbrev mX8_plainTells : MI := (yX8_plainTells, cX8_plainTells, 4, some .int)
theorem kX8_plainTells : CalV mX8_plainTells 2 := ⟨⟨TT_at 1332 (by decide +kernel) rfl, TT_at 9 (by decide +kernel) rfl, by decide, by decide +kernel, by decide +kernel, by decide⟩, TT_at 1331 (by decide +kernel) rfl, TT_of (List.mem_append_left _ (List.mem_of_getElem? (i := 76) (by decide +kernel))) rfl⟩
abbrev mX8_count : MI := (yX8_count, cX8_count, 2, some .int)
theorem kX8_count : CalV mX8_count 1 := ⟨⟨TT_at 1336 (by decide +kernel) rfl, TT_at 9 (by decide +kernel) rfl, by decide, by decide +kernel, by decide +kernel, by decide⟩, TT_at 1334 (by decide +kernel) rfl, TT_at 1335 (by decide +kernel) rfl⟩
abbrev mX8_keep : MI := (yX8_keep, cX8_keep, 3, some .int)
theorem kX8_keep : CalV mX8_keep 2 := ⟨⟨TT_at 1340 (by decide +kernel) rfl, TT_at 9 (by decide +kernel) rfl, by decide, by decide +kernel, by decide +kernel, by decide⟩, TT_at 1338 (by decide +kernel) rfl, TT_at 1339 (by decide +kernel) rfl⟩
abbrev mX8_row : MI := (yX8_row, cX8_row, 5, some .int)
theorem kX8_row : CalV mX8_row 3 := ⟨⟨TT_at 1344 (by decide +kernel) rfl, TT_at 9 (by decide +kernel) rfl, by decide, by decide +kernel, by decide +kernel, by decide⟩, TT_at 1342 (by decide +kernel) rfl, TT_at 1343 (by decide +kernel) rfl⟩
abbrev mX8_put : MI := (yX8_put, cX8_put, 7, some .int)
theorem kX8_put : CalV mX8_put 3 := ⟨⟨TT_at 1348 (by decide +kernel) rfl, TT_at 9 (by decide +kernel) rfl, by decide, by decide +kernel, by decide +kernel, by decide⟩, TT_at 1346 (by decide +kernel) rfl, TT_at 1347 (by decide +kernel) rfl⟩
abbrev mX8_whyNoPlace : MI := (yX8_whyNoPlace, cX8_whyNoPlace, 3, some .int)
theorem kX8_whyNoPlace : CalV mX8_whyNoPlace 2 := ⟨⟨TT_at 1352 (by decide +kernel) rfl, TT_at 9 (by decide +kernel) rfl, by decide, by decide +kernel, by decide +kernel, by decide⟩, TT_at 1351 (by decide +kernel) rfl, TT_of (List.mem_append_left _ (List.mem_of_getElem? (i := 77) (by decide +kernel))) rfl⟩
abbrev mX8_element : MI := (yX8_element, cX8_element, 3, some .long)
theorem kX8_element : CalV mX8_element 2 := ⟨⟨TT_at 1356 (by decide +kernel) rfl, TT_at 9 (by decide +kernel) rfl, by decide, by decide +kernel, by decide +kernel, by decide⟩, TT_at 1354 (by decide +kernel) rfl, TT_at 1355 (by decide +kernel) rfl⟩
abbrev mX8_shift : MI := (yX8_shift, cX8_shift, 7, some .int)
theorem kX8_shift : CalV mX8_shift 5 := ⟨⟨TT_at 1360 (by decide +kernel) rfl, TT_at 9 (by decide +kernel) rfl, by decide, by decide +kernel, by decide +kernel, by decide⟩, TT_at 1358 (by decide +kernel) rfl, TT_at 1359 (by decide +kernel) rfl⟩
abbrev mX8_taken : MI := (yX8_taken, cX8_taken, 3, some .int)
theorem kX8_taken : CalV mX8_taken 2 := ⟨⟨TT_at 1364 (by decide +kernel) rfl, TT_at 9 (by decide +kernel) rfl, by decide, by decide +kernel, by decide +kernel, by decide⟩, TT_at 1362 (by decide +kernel) rfl, TT_at 1363 (by decide +kernel) rfl⟩

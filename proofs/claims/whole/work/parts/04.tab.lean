/-! the program as tables: classes, methods, the pools (by program out of claim/Statement.lean) -/
def ab_lk {α : Type} : List (Nat × α) → Nat → Option α
  | [], _ => none
  | (a, v) :: l, n => bif Nat.beq a n then some v else ab_lk l n
/-- class names: 0..13 the classes, 14 the law, 15 Math -/
def ab_cn : Nat → String := fun c => [RX0, RX1, RX2, RX3, RX4, RX5, RX6, RX7, RX8, RX9, RX10, RX11, RX12, RX13, RL, RJ9].getD c ""
abbrev ab_cl : List vw_C := [(RX0, TX0, 6), (RX1, TX1, 5), (RX2, TX2, 10), (RX3, TX3, 5), (RX4, TX4, 15), (RX5, TX5, 12), (RX6, TX6, 10), (RX7, TX7, 6), (RX8, TX8, 5), (RX9, TX9, 8), (RX10, TX10, 4), (RX11, TX11, 9), (RX12, TX12, 33), (RX13, TX13, 39)]
def ab_ty : Nat → Nat → FieldType := fun c => match c with
  | 0 => tyX0
  | 1 => tyX1
  | 2 => tyX2
  | 3 => tyX3
  | 4 => tyX4
  | 5 => tyX5
  | 6 => tyX6
  | 7 => tyX7
  | 8 => tyX8
  | 9 => tyX9
  | 10 => tyX10
  | 11 => tyX11
  | 12 => tyX12
  | _ => tyX13
def ab_T : Nat → u_T := fun c => match c with
  | 0 => TX0
  | 1 => TX1
  | 2 => TX2
  | 3 => TX3
  | 4 => TX4
  | 5 => TX5
  | 6 => TX6
  | 7 => TX7
  | 8 => TX8
  | 9 => TX9
  | 10 => TX10
  | 11 => TX11
  | 12 => TX12
  | _ => TX13
def ab_N : Nat → Nat := fun c => [6, 5, 10, 5, 15, 12, 10, 6, 5, 8, 4, 9, 33, 39].getD c 0
/-- methods: name, code, places for locals, answer, class, kind (0 of an object, 1 static, 2 constructor), parameters -/
abbrev ab_M : Type := MethodName × ByteArray × Nat × Option FieldType × Nat × Nat × Nat
def ab_tab0 : List ab_M := [(yX0_init, cX0_init, 1, none, 0, 2, 0),
  (yX0_setPlaces, cX0_setPlaces, 6, none, 0, 0, 4),
  (yX0_setStrain, cX0_setStrain, 5, none, 0, 0, 3),
  (yX0_findWorst, cX0_findWorst, 4, none, 0, 0, 1),
  (yX0_findAll, cX0_findAll, 2, none, 0, 0, 0),
  (yX1_init, cX1_init, 1, none, 1, 2, 0),
  (yX1_setThick, cX1_setThick, 4, none, 1, 0, 3),
  (yX1_thickAt, cX1_thickAt, 3, (some .int), 1, 0, 2),
  (yX1_allPlaces, cX1_allPlaces, 1, (some .int), 1, 0, 0),
  (yX1_thicknessOf, cX1_thicknessOf, 4, (some .int), 1, 0, 1),
  (yX1_reach, cX1_reach, 3, (some .int), 1, 0, 2),
  (yX2_init, cX2_init, 2, none, 2, 2, 0),
  (yX2_choose, cX2_choose, 9, (some .int), 2, 1, 6),
  (yX2_bestAgainst, cX2_bestAgainst, 7, (some .int), 2, 0, 3),
  (yX2_play, cX2_play, 7, none, 2, 0, 4),
  (yX2_isRest, cX2_isRest, 3, (some .boolean), 2, 0, 2),
  (yX2_countRests, cX2_countRests, 4, (some .int), 2, 0, 0),
  (yX2_firstRest, cX2_firstRest, 3, (some .int), 2, 0, 0),
  (yX2_surest, cX2_surest, 5, (some .int), 2, 0, 0),
  (yX3_init, cX3_init, 2, none, 3, 2, 0),
  (yX3_clear, cX3_clear, 1, none, 3, 0, 0),
  (yX3_keep, cX3_keep, 2, none, 3, 0, 1),
  (yX3_takeBack, cX3_takeBack, 2, none, 3, 0, 1),
  (yX3_hasRoomForMark, cX3_hasRoomForMark, 1, (some .boolean), 3, 0, 0),
  (yX3_setMark, cX3_setMark, 2, (some .int), 3, 0, 1),
  (yX3_goTo, cX3_goTo, 3, none, 3, 0, 2),
  (yX4_init, cX4_init, 2, none, 4, 2, 0),
  (yX4_clear, cX4_clear, 1, none, 4, 0, 0),
  (yX4_findBone, cX4_findBone, 4, (some .int), 4, 0, 1),
  (yX4_findPerson, cX4_findPerson, 4, (some .int), 4, 0, 1),
  (yX5_init, cX5_init, 1, none, 5, 2, 0),
  (yX5_begin, cX5_begin, 3, none, 5, 0, 1),
  (yX6_init, cX6_init, 1, none, 6, 2, 0),
  (yX6_take, cX6_take, 4, none, 6, 0, 3),
  (yX6_pair, cX6_pair, 3, none, 6, 0, 2),
  (yX6_grip, cX6_grip, 7, none, 6, 0, 6),
  (yX6_resolve, cX6_resolve, 4, (some .int), 6, 0, 1),
  (yX6_breakPlace, cX6_breakPlace, 2, (some .int), 6, 0, 0),
  (yX6_compare, cX6_compare, 9, (some .int), 6, 0, 4),
  (yX6_weighLaid, cX6_weighLaid, 1, none, 6, 0, 0),
  (yX6_weigh, cX6_weigh, 5, none, 6, 0, 2),
  (yX7_init, cX7_init, 1, none, 7, 2, 0),
  (yX7_read, cX7_read, 3, (some .boolean), 7, 0, 1),
  (yX7_stop, cX7_stop, 2, (some .boolean), 7, 0, 1),
  (yX7_readLine, cX7_readLine, 1, (some .boolean), 7, 0, 0),
  (yX7_enter, cX7_enter, 3, (some .boolean), 7, 0, 2),
  (yX7_readRules, cX7_readRules, 1, (some .boolean), 7, 0, 0),
  (yX7_readBone, cX7_readBone, 2, (some .boolean), 7, 0, 0),
  (yX7_readArm, cX7_readArm, 4, (some .boolean), 7, 0, 2),
  (yX7_readPerson, cX7_readPerson, 2, (some .boolean), 7, 0, 0),
  (yX7_readFor, cX7_readFor, 4, (some .boolean), 7, 0, 0),
  (yX7_readWon, cX7_readWon, 3, (some .boolean), 7, 0, 0),
  (yX7_readPiece, cX7_readPiece, 1, (some .boolean), 7, 0, 0),
  (yX7_readCheats, cX7_readCheats, 2, (some .boolean), 7, 0, 0),
  (yX7_readWord, cX7_readWord, 2, (some .boolean), 7, 0, 1),
  (yX7_readWhole, cX7_readWhole, 4, (some .boolean), 7, 0, 3),
  (yX7_readKind, cX7_readKind, 5, (some .boolean), 7, 0, 4),
  (yX7_isWhole, cX7_isWhole, 3, (some .boolean), 7, 0, 2),
  (yX7_isName, cX7_isName, 2, (some .boolean), 7, 0, 0),
  (yX7_isNewName, cX7_isNewName, 2, (some .boolean), 7, 0, 0),
  (yX7_isPersonTold, cX7_isPersonTold, 2, (some .boolean), 7, 0, 1),
  (yX8_init, cX8_init, 1, none, 8, 2, 0),
  (yX8_begin, cX8_begin, 3, none, 8, 0, 1),
  (yX8_become, cX8_become, 3, none, 8, 0, 1)]
def ab_tab1 : List ab_M := [(yX8_draw, cX8_draw, 2, (some .int), 8, 0, 1),
  (yX8_drawFlaw, cX8_drawFlaw, 3, (some .int), 8, 0, 2),
  (yX9_init, cX9_init, 1, none, 9, 2, 0),
  (yX9_hasRoom, cX9_hasRoom, 2, (some .boolean), 9, 0, 1),
  (yX9_add, cX9_add, 3, none, 9, 0, 1),
  (yX9_open, cX9_open, 2, none, 9, 0, 1),
  (yX9_next, cX9_next, 1, none, 9, 0, 0),
  (yX9_takeWord, cX9_takeWord, 2, none, 9, 0, 0),
  (yX9_takeWhole, cX9_takeWhole, 2, none, 9, 0, 0),
  (yX9_reads, cX9_reads, 3, (some .boolean), 9, 0, 1),
  (yX10_init, cX10_init, 1, none, 10, 2, 0),
  (yX10_find, cX10_find, 4, (some .boolean), 10, 0, 2),
  (yX10_findFrom, cX10_findFrom, 4, (some .boolean), 10, 0, 1),
  (yX10_mayPull, cX10_mayPull, 3, (some .boolean), 10, 0, 2),
  (yX10_isEven, cX10_isEven, 4, (some .boolean), 10, 0, 0),
  (yX11_init, cX11_init, 1, none, 11, 2, 0),
  (yX11_feed, cX11_feed, 7, (some .int), 11, 0, 5),
  (yX11_kitchen, cX11_kitchen, 4, (some .int), 11, 0, 1),
  (yX11_fault, cX11_fault, 1, (some .int), 11, 0, 0),
  (yX11_where, cX11_where, 1, (some .int), 11, 0, 0),
  (yX11_bone, cX11_bone, 3, (some .int), 11, 0, 2),
  (yX11_thick, cX11_thick, 4, (some .int), 11, 0, 3),
  (yX11_person, cX11_person, 4, (some .int), 11, 0, 2),
  (yX11_strength, cX11_strength, 6, (some .int), 11, 0, 4),
  (yX11_strain, cX11_strain, 9, (some .int), 11, 0, 8),
  (yX11_pulled, cX11_pulled, 7, (some .int), 11, 0, 6),
  (yX11_breaksAt, cX11_breaksAt, 7, (some .int), 11, 0, 6),
  (yX11_flawed, cX11_flawed, 9, (some .int), 11, 0, 8),
  (yX11_odds, cX11_odds, 9, (some .long), 11, 0, 8),
  (yX11_best, cX11_best, 6, (some .int), 11, 0, 4),
  (yX11_rests, cX11_rests, 4, (some .int), 11, 0, 3),
  (yX11_rest, cX11_rest, 4, (some .int), 11, 0, 3),
  (yX11_sure, cX11_sure, 5, (some .long), 11, 0, 4),
  (yX11_curve, cX11_curve, 7, (some .long), 11, 0, 5),
  (yX11_bestDay, cX11_bestDay, 8, (some .int), 11, 0, 3),
  (yX11_lawOdds, cX11_lawOdds, 7, (some .long), 11, 0, 5),
  (yX11_fairest, cX11_fairest, 8, (some .int), 11, 0, 3),
  (yX11_turnsOf, cX11_turnsOf, 2, (some .int), 11, 0, 1),
  (yX11_turnAt, cX11_turnAt, 3, (some .int), 11, 0, 2),
  (yX11_hand, cX11_hand, 5, (some .long), 11, 0, 2),
  (yX11_side, cX11_side, 2, (some .long), 11, 0, 1),
  (yX11_known, cX11_known, 5, (some .int), 11, 0, 0),
  (yX11_hens, cX11_hens, 3, (some .int), 11, 0, 1),
  (yX11_thumbs, cX11_thumbs, 8, (some .long), 11, 0, 2),
  (yX11_let, cX11_let, 5, (some .int), 11, 0, 2),
  (yX11_worth, cX11_worth, 2, (some .int), 11, 0, 1),
  (yX11_knob, cX11_knob, 2, (some .int), 11, 0, 1),
  (yX11_owners, cX11_owners, 2, (some .int), 11, 0, 1),
  (yX11_wins, cX11_wins, 4, (some .int), 11, 0, 3),
  (yX11_spoilt, cX11_spoilt, 4, (some .int), 11, 0, 3),
  (yX11_dry, cX11_dry, 3, (some .boolean), 11, 0, 1),
  (yX11_boil, cX11_boil, 2, (some .boolean), 11, 0, 1),
  (yX11_pull, cX11_pull, 8, (some .int), 11, 0, 6),
  (yX11_seed, cX11_seed, 2, (some .boolean), 11, 0, 1),
  (yX11_undo, cX11_undo, 1, (some .boolean), 11, 0, 0),
  (yX11_mark, cX11_mark, 1, (some .int), 11, 0, 0),
  (yX11_back, cX11_back, 2, (some .boolean), 11, 0, 1),
  (yX11_led, cX11_led, 4, (some .int), 11, 0, 1),
  (yX11_size, cX11_size, 2, (some .int), 11, 0, 1),
  (yX11_trouble, cX11_trouble, 1, (some .int), 11, 0, 0),
  (yX11_refuse, cX11_refuse, 2, (some .int), 11, 0, 1),
  (yX11_hasKitchen, cX11_hasKitchen, 1, (some .boolean), 11, 0, 0),
  (yX11_isBone, cX11_isBone, 2, (some .boolean), 11, 0, 1),
  (yX11_isPerson, cX11_isPerson, 2, (some .boolean), 11, 0, 1)]
def ab_tab2 : List ab_M := [(yX11_areUnlike, cX11_areUnlike, 3, (some .boolean), 11, 0, 2),
  (yX11_isPlace, cX11_isPlace, 4, (some .boolean), 11, 0, 3),
  (yX11_isHold, cX11_isHold, 4, (some .boolean), 11, 0, 3),
  (yX11_isPiece, cX11_isPiece, 2, (some .boolean), 11, 0, 1),
  (yX11_isSeed, cX11_isSeed, 1, (some .boolean), 11, 1, 1),
  (yX11_pairTrouble, cX11_pairTrouble, 4, (some .int), 11, 0, 3),
  (yX11_pullTrouble, cX11_pullTrouble, 8, (some .int), 11, 0, 6),
  (yX11_weeksTrouble, cX11_weeksTrouble, 2, (some .int), 11, 0, 1),
  (yX11_yearTrouble, cX11_yearTrouble, 2, (some .int), 11, 1, 2),
  (yX11_takeNow, cX11_takeNow, 2, none, 11, 0, 1),
  (yX11_lay, cX11_lay, 7, none, 11, 0, 6),
  (yX11_grips, cX11_grips, 10, none, 11, 0, 6),
  (yX11_gripsAsTold, cX11_gripsAsTold, 7, none, 11, 0, 3),
  (yX11_playNow, cX11_playNow, 4, none, 11, 0, 3),
  (yX11_leftOddsDried, cX11_leftOddsDried, 5, (some .int), 11, 0, 4),
  (yX11_twiceByLaw, cX11_twiceByLaw, 9, (some .int), 11, 0, 4),
  (yX11_takesLeft, cX11_takesLeft, 5, (some .boolean), 11, 0, 4),
  (yX11_searchKnob, cX11_searchKnob, 9, (some .int), 11, 0, 2),
  (yX11_breaksAsTold, cX11_breaksAsTold, 4, (some .int), 11, 0, 3),
  (yX11_part, cX11_part, 12, (some .long), 11, 1, 3),
  (yX11_waysToWin, cX11_waysToWin, 7, (some .long), 11, 1, 2),
  (yX11_likelihood, cX11_likelihood, 5, (some .long), 11, 1, 2),
  (yX11_runYear, cX11_runYear, 5, none, 11, 0, 2),
  (yX11_runSunday, cX11_runSunday, 5, none, 11, 0, 0),
  (yX12_init, cX12_init, 1, none, 12, 2, 0),
  (yX12_find, cX12_find, 4, (some .int), 12, 0, 1),
  (yX12_many, cX12_many, 3, (some .int), 12, 0, 2),
  (yX12_thickAt, cX12_thickAt, 4, (some .int), 12, 0, 3),
  (yX12_holds, cX12_holds, 4, (some .int), 12, 0, 3),
  (yX13_init, cX13_init, 1, none, 13, 2, 0),
  (yX13_thrown, cX13_thrown, 1, (some .int), 13, 0, 0),
  (yX13_refused, cX13_refused, 2, (some .int), 13, 0, 1),
  (yX13_denied, cX13_denied, 2, (some .boolean), 13, 0, 1),
  (yX13_good, cX13_good, 2, (some .int), 13, 0, 1),
  (yX13_granted, cX13_granted, 1, (some .boolean), 13, 0, 0),
  (yX13_in, cX13_in, 3, (some .boolean), 13, 1, 3),
  (yX13_bit, cX13_bit, 2, (some .boolean), 13, 1, 2),
  (yX13_common, cX13_common, 10, (some .long), 13, 1, 2),
  (yX13_fraction, cX13_fraction, 6, (some .long), 13, 0, 3),
  (yX13_byteAt, cX13_byteAt, 2, (some .int), 13, 0, 1),
  (yX13_isLetter, cX13_isLetter, 1, (some .boolean), 13, 1, 1),
  (yX13_isDigit, cX13_isDigit, 1, (some .boolean), 13, 1, 1),
  (yX13_wordOf, cX13_wordOf, 4, (some .long), 13, 1, 1),
  (yX13_goesOn, cX13_goesOn, 3, none, 13, 0, 0),
  (yX13_flaw, cX13_flaw, 2, none, 13, 0, 1),
  (yX13_isWord, cX13_isWord, 2, (some .boolean), 13, 0, 1),
  (yX13_isSign, cX13_isSign, 2, (some .boolean), 13, 0, 1),
  (yX13_eatsSign, cX13_eatsSign, 3, (some .boolean), 13, 0, 1),
  (yX13_needs, cX13_needs, 2, none, 13, 0, 1),
  (yX13_bounded, cX13_bounded, 3, (some .int), 13, 0, 2),
  (yX13_readWhole, cX13_readWhole, 4, (some .int), 13, 0, 2),
  (yX13_readPart, cX13_readPart, 4, (some .int), 13, 0, 3),
  (yX13_isName, cX13_isName, 1, (some .boolean), 13, 0, 0),
  (yX13_begins, cX13_begins, 3, none, 13, 0, 2),
  (yX13_readFresh, cX13_readFresh, 3, (some .long), 13, 0, 0),
  (yX13_names, cX13_names, 5, none, 13, 0, 3),
  (yX13_knownOne, cX13_knownOne, 2, (some .int), 13, 0, 0),
  (yX13_readPerson, cX13_readPerson, 2, (some .int), 13, 0, 0),
  (yX13_readSide, cX13_readSide, 2, (some .int), 13, 0, 0),
  (yX13_readAll, cX13_readAll, 2, none, 13, 0, 0),
  (yX13_readLine, cX13_readLine, 1, none, 13, 0, 0),
  (yX13_readKitchen, cX13_readKitchen, 6, none, 13, 0, 0),
  (yX13_readArm, cX13_readArm, 6, none, 13, 0, 1),
  (yX13_readBone, cX13_readBone, 5, none, 13, 0, 0)]
def ab_tab3 : List ab_M := [(yX13_readPersonLine, cX13_readPersonLine, 8, none, 13, 0, 0),
  (yX13_readFor, cX13_readFor, 4, none, 13, 0, 0),
  (yX13_readWon, cX13_readWon, 4, none, 13, 0, 0),
  (yX13_readPiece, cX13_readPiece, 3, none, 13, 0, 0),
  (yX13_readCheats, cX13_readCheats, 5, none, 13, 0, 0),
  (yX13_feed, cX13_feed, 8, (some .int), 13, 0, 5),
  (yX13_kitchen, cX13_kitchen, 3, (some .int), 13, 0, 1),
  (yX13_fault, cX13_fault, 1, (some .int), 13, 0, 0),
  (yX13_where, cX13_where, 1, (some .int), 13, 0, 0),
  (yX13_isChild, cX13_isChild, 2, (some .boolean), 13, 0, 1),
  (yX13_lays, cX13_lays, 7, none, 13, 0, 6),
  (yX13_laysTold, cX13_laysTold, 4, none, 13, 0, 3),
  (yX13_strengthAt, cX13_strengthAt, 4, (some .int), 13, 0, 2),
  (yX13_strainAt, cX13_strainAt, 3, (some .int), 13, 0, 2),
  (yX13_worst, cX13_worst, 4, (some .int), 13, 0, 1),
  (yX13_compares, cX13_compares, 9, (some .long), 13, 0, 4),
  (yX13_comes, cX13_comes, 5, (some .int), 13, 0, 0),
  (yX13_allPlaces, cX13_allPlaces, 1, (some .int), 13, 0, 0),
  (yX13_flaws, cX13_flaws, 2, none, 13, 0, 1),
  (yX13_oddsOf, cX13_oddsOf, 6, (some .long), 13, 0, 1),
  (yX13_isBone, cX13_isBone, 2, (some .boolean), 13, 0, 1),
  (yX13_isPerson, cX13_isPerson, 2, (some .boolean), 13, 0, 1),
  (yX13_isPair, cX13_isPair, 3, (some .boolean), 13, 0, 2),
  (yX13_isPlace, cX13_isPlace, 4, (some .boolean), 13, 0, 3),
  (yX13_refusesPull, cX13_refusesPull, 6, (some .int), 13, 0, 5),
  (yX13_bone, cX13_bone, 3, (some .int), 13, 0, 2),
  (yX13_thick, cX13_thick, 4, (some .int), 13, 0, 3),
  (yX13_wonBy, cX13_wonBy, 4, (some .int), 13, 0, 1),
  (yX13_pullsOf, cX13_pullsOf, 4, (some .int), 13, 0, 1),
  (yX13_person, cX13_person, 3, (some .int), 13, 0, 2),
  (yX13_strength, cX13_strength, 5, (some .int), 13, 0, 4),
  (yX13_strain, cX13_strain, 10, (some .int), 13, 0, 8),
  (yX13_pulled, cX13_pulled, 8, (some .int), 13, 0, 6),
  (yX13_breaksAt, cX13_breaksAt, 8, (some .int), 13, 0, 6),
  (yX13_flawed, cX13_flawed, 10, (some .int), 13, 0, 8),
  (yX13_odds, cX13_odds, 10, (some .long), 13, 0, 8),
  (yX13_isChoice, cX13_isChoice, 5, (some .boolean), 13, 0, 4),
  (yX13_laysGame, cX13_laysGame, 7, none, 13, 0, 3),
  (yX13_isRest, cX13_isRest, 7, (some .boolean), 13, 0, 5),
  (yX13_told, cX13_told, 1, (some .int), 13, 1, 1),
  (yX13_best, cX13_best, 11, (some .int), 13, 0, 4),
  (yX13_restAt, cX13_restAt, 8, (some .int), 13, 0, 4),
  (yX13_rests, cX13_rests, 4, (some .int), 13, 0, 3),
  (yX13_rest, cX13_rest, 4, (some .int), 13, 0, 3),
  (yX13_sure, cX13_sure, 11, (some .long), 13, 0, 4),
  (yX13_curveOf, cX13_curveOf, 5, (some .long), 13, 0, 4),
  (yX13_curve, cX13_curve, 8, (some .long), 13, 0, 5),
  (yX13_bestDay, cX13_bestDay, 6, (some .int), 13, 0, 3),
  (yX13_oddsWith, cX13_oddsWith, 5, (some .long), 13, 0, 4),
  (yX13_thickness, cX13_thickness, 5, (some .int), 13, 0, 2),
  (yX13_chosen, cX13_chosen, 4, (some .int), 13, 0, 3),
  (yX13_byLaw, cX13_byLaw, 6, (some .long), 13, 0, 4),
  (yX13_lawOdds, cX13_lawOdds, 8, (some .long), 13, 0, 5),
  (yX13_fromHalf, cX13_fromHalf, 7, (some .long), 13, 0, 4),
  (yX13_fairest, cX13_fairest, 6, (some .int), 13, 0, 3),
  (yX13_lesser, cX13_lesser, 4, (some .int), 13, 0, 1),
  (yX13_greater, cX13_greater, 4, (some .int), 13, 0, 1),
  (yX13_isIn, cX13_isIn, 3, (some .boolean), 13, 0, 2),
  (yX13_isFair, cX13_isFair, 4, (some .boolean), 13, 0, 0),
  (yX13_isLow, cX13_isLow, 4, (some .boolean), 13, 0, 1),
  (yX13_counts, cX13_counts, 3, none, 13, 0, 2),
  (yX13_laysTurns, cX13_laysTurns, 4, (some .boolean), 13, 0, 1),
  (yX13_refusesTurns, cX13_refusesTurns, 2, (some .int), 13, 0, 1),
  (yX13_turnsOf, cX13_turnsOf, 3, (some .int), 13, 0, 1)]
def ab_tab4 : List ab_M := [(yX13_turnAt, cX13_turnAt, 4, (some .int), 13, 0, 2),
  (yX13_rowsOf, cX13_rowsOf, 7, (some .long), 13, 1, 2),
  (yX13_hand, cX13_hand, 3, (some .long), 13, 0, 2),
  (yX13_side, cX13_side, 4, (some .long), 13, 0, 1),
  (yX13_known, cX13_known, 3, (some .int), 13, 0, 0),
  (yX13_hens, cX13_hens, 3, (some .int), 13, 0, 1),
  (yX13_byTenths, cX13_byTenths, 7, (some .long), 13, 0, 3),
  (yX13_thumbs, cX13_thumbs, 9, (some .long), 13, 0, 2),
  (yX13_worthOf, cX13_worthOf, 2, (some .int), 13, 0, 1),
  (yX13_let, cX13_let, 5, (some .int), 13, 0, 2),
  (yX13_worth, cX13_worth, 2, (some .int), 13, 0, 1),
  (yX13_knobs, cX13_knobs, 7, (some .int), 13, 0, 1),
  (yX13_isPiece, cX13_isPiece, 2, (some .boolean), 13, 0, 1),
  (yX13_knob, cX13_knob, 2, (some .int), 13, 0, 1),
  (yX13_owners, cX13_owners, 2, (some .int), 13, 0, 1),
  (yX13_drawn, cX13_drawn, 2, (some .int), 13, 0, 1),
  (yX13_flawsByDraws, cX13_flawsByDraws, 1, none, 13, 0, 0),
  (yX13_year, cX13_year, 8, none, 13, 0, 2),
  (yX13_refusesYear, cX13_refusesYear, 4, (some .int), 13, 0, 3),
  (yX13_wins, cX13_wins, 5, (some .int), 13, 0, 3),
  (yX13_spoilt, cX13_spoilt, 5, (some .int), 13, 0, 3),
  (yX13_keeps, cX13_keeps, 2, none, 13, 0, 0),
  (yX13_dry, cX13_dry, 3, (some .boolean), 13, 0, 1),
  (yX13_boil, cX13_boil, 2, (some .boolean), 13, 0, 1),
  (yX13_pull, cX13_pull, 9, (some .int), 13, 0, 6),
  (yX13_seed, cX13_seed, 2, (some .boolean), 13, 0, 1),
  (yX13_undo, cX13_undo, 2, (some .boolean), 13, 0, 0),
  (yX13_mark, cX13_mark, 2, (some .int), 13, 0, 0),
  (yX13_back, cX13_back, 3, (some .boolean), 13, 0, 1),
  (yX13_led, cX13_led, 4, (some .int), 13, 0, 1),
  (yX13_size, cX13_size, 2, (some .int), 13, 0, 1),
  (yX13_trouble, cX13_trouble, 1, (some .int), 13, 0, 0),
  (yL_law, cL_law, 7, (some .boolean), 14, 1, 1)]
def ab_m0 : ab_M := (yX0_init, cX0_init, 0, none, 0, 9, 0)
def ab_tab (k : Nat) : ab_M := if k < 64 then ab_tab0.getD (k - 0) ab_m0 else if k < 128 then ab_tab1.getD (k - 64) ab_m0 else if k < 192 then ab_tab2.getD (k - 128) ab_m0 else if k < 256 then ab_tab3.getD (k - 192) ab_m0 else if k < 320 then ab_tab4.getD (k - 256) ab_m0 else ab_m0
def ab_nm (k : Nat) : MethodName := (ab_tab k).1
def ab_code (k : Nat) : ByteArray := (ab_tab k).2.1
def ab_mx (k : Nat) : Nat := (ab_tab k).2.2.1
def ab_rt (k : Nat) : Option FieldType := (ab_tab k).2.2.2.1
def ab_ow (k : Nat) : Nat := (ab_tab k).2.2.2.2.1
def ab_kd (k : Nat) : Nat := (ab_tab k).2.2.2.2.2.1
def ab_np (k : Nat) : Nat := (ab_tab k).2.2.2.2.2.2
/-- fields by 1000 * class + entry: class, field, 1 for a nest mate's -/
def ab_pF : List (Nat × Nat × Nat × Nat) := [(9007, 9, 0, 0), (9013, 9, 1, 0), (11080, 9, 1, 0), (7047, 9, 2, 0), (9042, 9, 2, 0), (7063, 9, 3, 0), (9039, 9, 3, 0), (9057, 9, 4, 0), (7265, 9, 4, 0), (9051, 9, 5, 0), (7152, 9, 5, 0), (9033, 9, 6, 0), (9030, 9, 7, 0), (4051, 1, 0, 0), (7156, 1, 0, 0), (8031, 1, 1, 0), (7173, 1, 1, 0), (11340, 1, 1, 0), (8037, 1, 2, 0), (7176, 1, 2, 0), (1009, 1, 3, 0), (27, 1, 3, 0), (2042, 1, 3, 0), (11122, 1, 3, 0), (7188, 1, 3, 0), (1015, 1, 4, 0), (35, 1, 4, 0), (5015, 5, 0, 0), (4055, 5, 0, 0), (2047, 5, 1, 0), (6062, 5, 1, 0), (11146, 5, 1, 0), (7219, 5, 1, 0), (6056, 5, 2, 0), (11151, 5, 2, 0), (7222, 5, 2, 0), (1022, 5, 3, 0), (11154, 5, 3, 0), (7226, 5, 3, 0), (11157, 5, 4, 0), (7230, 5, 4, 0), (5019, 5, 5, 0), (7232, 5, 5, 0), (11319, 5, 5, 0), (5022, 5, 6, 0), (7238, 5, 6, 0), (5025, 5, 7, 0), (11160, 5, 7, 0), (7241, 5, 7, 0), (5028, 5, 8, 0), (11163, 5, 8, 0), (7243, 5, 8, 0), (5009, 5, 9, 0), (7255, 5, 9, 0), (11297, 5, 9, 0), (7258, 5, 10, 0), (11300, 5, 10, 0), (7263, 5, 11, 0), (11307, 5, 11, 0), (6029, 4, 0, 0), (7127, 4, 0, 0), (11383, 4, 0, 0), (6038, 4, 1, 0), (7131, 4, 1, 0), (11386, 4, 1, 0), (6044, 4, 2, 0), (7135, 4, 2, 0), (11389, 4, 2, 0), (6048, 4, 3, 0), (7139, 4, 3, 0), (11392, 4, 3, 0), (6052, 4, 4, 0), (7143, 4, 4, 0), (11341, 4, 4, 0), (4032, 4, 5, 0), (7050, 4, 5, 0), (11100, 4, 5, 0), (4011, 4, 6, 0), (8025, 4, 6, 0), (11118, 4, 6, 0), (7145, 4, 6, 0), (4036, 4, 7, 0), (7053, 4, 7, 0), (11270, 4, 7, 0), (4019, 4, 8, 0), (11142, 4, 8, 0), (7201, 4, 8, 0), (4039, 4, 9, 0), (7091, 4, 9, 0), (11395, 4, 9, 0), (4042, 4, 10, 0), (7099, 4, 10, 0), (11288, 4, 10, 0), (4045, 4, 11, 0), (7246, 4, 11, 0), (11291, 4, 11, 0), (4048, 4, 12, 0), (7107, 4, 12, 0), (11398, 4, 12, 0), (4023, 4, 13, 0), (7249, 4, 13, 0), (11427, 4, 13, 0), (4027, 4, 14, 0), (7252, 4, 14, 0), (11430, 4, 14, 0), (7012, 7, 0, 0), (11066, 7, 0, 0), (7021, 7, 1, 0), (11090, 7, 1, 0), (7028, 7, 2, 0), (11103, 7, 2, 0), (7032, 7, 3, 0), (11106, 7, 3, 0), (7035, 7, 4, 0), (7124, 7, 5, 0), (8009, 8, 0, 0), (11112, 8, 0, 0), (8015, 8, 1, 0), (11115, 8, 1, 0), (8018, 8, 2, 0), (11127, 8, 2, 0), (8022, 8, 3, 0), (11166, 8, 3, 0), (8039, 8, 4, 0), (11353, 8, 4, 0), (3011, 3, 0, 0), (3015, 3, 1, 0), (3026, 3, 2, 0), (3019, 3, 3, 0), (11356, 3, 3, 0), (3023, 3, 4, 0), (11369, 3, 4, 0), (32, 0, 0, 0), (6073, 0, 0, 0), (11205, 0, 0, 0), (9, 0, 1, 0), (11192, 0, 1, 0), (15, 0, 2, 0), (11179, 0, 2, 0), (18, 0, 3, 0), (6088, 0, 3, 0), (21, 0, 4, 0), (6091, 0, 4, 0), (24, 0, 5, 0), (6094, 0, 5, 0), (6012, 6, 0, 0), (11171, 6, 0, 0), (6018, 6, 1, 0), (2069, 6, 1, 0), (11195, 6, 1, 0), (6021, 6, 2, 0), (2077, 6, 2, 0), (11212, 6, 2, 0), (6025, 6, 3, 0), (11215, 6, 3, 0), (6034, 6, 4, 0), (6041, 6, 5, 0), (6047, 6, 6, 0), (6051, 6, 7, 0), (6055, 6, 8, 0), (6061, 6, 9, 0), (2013, 2, 0, 0), (2017, 2, 1, 0), (2020, 2, 2, 0), (2024, 2, 3, 0), (2029, 2, 4, 0), (2032, 2, 5, 0), (2035, 2, 6, 0), (2038, 2, 7, 0), (2066, 2, 8, 0), (2084, 2, 9, 0), (10009, 10, 0, 0), (11277, 10, 0, 0), (10015, 10, 1, 0), (10024, 10, 2, 0), (10028, 10, 3, 0), (11010, 11, 0, 0), (11019, 11, 1, 0), (11026, 11, 2, 0), (11033, 11, 3, 0), (11040, 11, 4, 0), (11047, 11, 5, 0), (11051, 11, 6, 0), (11058, 11, 7, 0), (11062, 11, 8, 0), (13053, 13, 0, 0), (13056, 13, 1, 0), (13009, 13, 2, 0), (13373, 13, 3, 0), (13171, 13, 4, 0), (13013, 13, 5, 0), (13366, 13, 6, 0), (13070, 13, 7, 0), (13088, 13, 8, 0), (13085, 13, 9, 0), (13094, 13, 10, 0), (13097, 13, 11, 0), (13111, 13, 12, 0), (13114, 13, 13, 0), (13117, 13, 14, 0), (13104, 13, 15, 0), (13017, 13, 16, 0), (13021, 13, 17, 0), (13024, 13, 18, 0), (13375, 13, 19, 0), (13378, 13, 20, 0), (13381, 13, 21, 0), (13383, 13, 22, 0), (13389, 13, 23, 0), (13403, 13, 24, 0), (13419, 13, 25, 0), (13427, 13, 26, 0), (13027, 13, 27, 0), (13030, 13, 28, 0), (13033, 13, 29, 0), (13037, 13, 30, 0), (13041, 13, 31, 0), (13044, 13, 32, 0), (13047, 13, 33, 0), (13552, 13, 34, 0), (13563, 13, 35, 0), (13050, 13, 36, 0), (13573, 13, 37, 0), (13576, 13, 38, 0), (12077, 12, 10, 0), (12009, 12, 12, 0), (12015, 12, 13, 0), (12018, 12, 14, 0), (12021, 12, 15, 0), (12024, 12, 16, 0), (12027, 12, 17, 0), (12030, 12, 18, 0), (12033, 12, 19, 0), (12036, 12, 20, 0), (12039, 12, 21, 0), (12042, 12, 22, 0), (12045, 12, 23, 0), (12048, 12, 24, 0), (12051, 12, 25, 0), (12054, 12, 26, 0), (12057, 12, 27, 0), (12060, 12, 28, 0), (12063, 12, 29, 0), (12066, 12, 30, 0), (12070, 12, 31, 0), (12074, 12, 32, 0), (13250, 12, 0, 1), (13252, 12, 1, 1), (13254, 12, 2, 1), (13256, 12, 3, 1), (13258, 12, 4, 1), (13210, 12, 5, 1), (13213, 12, 6, 1), (13318, 12, 7, 1), (13334, 12, 8, 1), (13349, 12, 9, 1), (13192, 12, 10, 1), (13175, 12, 11, 1), (13288, 12, 12, 1), (13291, 12, 13, 1), (13263, 12, 14, 1), (13260, 12, 15, 1), (13307, 12, 16, 1), (13310, 12, 17, 1), (13312, 12, 18, 1), (13314, 12, 19, 1), (13324, 12, 20, 1), (13331, 12, 21, 1), (13340, 12, 22, 1), (13343, 12, 23, 1), (13346, 12, 24, 1), (13352, 12, 25, 1), (13355, 12, 26, 1), (13316, 12, 27, 1), (13360, 12, 28, 1), (13363, 12, 29, 1), (13189, 12, 30, 1), (13195, 12, 31, 1), (13198, 12, 32, 1)]
/-- methods by 1000 * class + entry: method (1000 Object.<init>, 1001 String.length, 1002 String.charAt, 1003 the law's led), 1 for a nest mate's -/
def ab_pM : List (Nat × Nat × Nat) := [(14015, 79, 0), (11001, 1000, 0), (7003, 1000, 0), (9001, 1000, 0), (7020, 26, 0), (4003, 1000, 0), (1003, 1000, 0), (5003, 1000, 0), (8003, 1000, 0), (11025, 19, 0), (3001, 1000, 0), (6003, 1000, 0), (3, 1000, 0), (11039, 11, 0), (2003, 1000, 0), (10003, 1000, 0), (11057, 26, 0), (14019, 80, 0), (11070, 67, 0), (11076, 68, 0), (9017, 67, 0), (14024, 81, 0), (11083, 124, 0), (11087, 42, 0), (7025, 27, 0), (7039, 69, 0), (9021, 1005, 0), (9027, 1004, 0), (9036, 70, 0), (9045, 71, 0), (9048, 72, 0), (7043, 44, 0), (7068, 73, 0), (9060, 1001, 0), (9065, 1002, 0), (7056, 43, 0), (7072, 46, 0), (7060, 70, 0), (7120, 55, 0), (7181, 54, 0), (7194, 57, 0), (7077, 45, 0), (7081, 47, 0), (7149, 59, 0), (7268, 58, 0), (7271, 28, 0), (7275, 29, 0), (7169, 56, 0), (7184, 48, 0), (7197, 6, 0), (7086, 49, 0), (7205, 31, 0), (7094, 50, 0), (7235, 60, 0), (7102, 51, 0), (7110, 52, 0), (7115, 53, 0), (11093, 62, 0), (11097, 20, 0), (14028, 82, 0), (14033, 83, 0), (14037, 84, 0), (11109, 126, 0), (14042, 85, 0), (11131, 129, 0), (11135, 7, 0), (14047, 86, 0), (11139, 127, 0), (14051, 87, 0), (11168, 137, 0), (11402, 33, 0), (11175, 35, 0), (6065, 1, 0), (6069, 2, 0), (14056, 88, 0), (11184, 134, 0), (11222, 133, 0), (11310, 128, 0), (11226, 130, 0), (11188, 138, 0), (11406, 139, 0), (11229, 34, 0), (14061, 89, 0), (11198, 36, 0), (6076, 3, 0), (6080, 38, 0), (14066, 90, 0), (11201, 37, 0), (6084, 36, 0), (14070, 91, 0), (14074, 92, 0), (11209, 39, 0), (6097, 4, 0), (38, 3, 0), (6100, 40, 0), (11218, 147, 0), (14079, 93, 0), (11233, 13, 0), (2062, 12, 0), (2053, 35, 0), (2059, 4, 0), (2073, 40, 0), (14083, 94, 0), (11237, 141, 0), (11413, 14, 0), (2080, 34, 0), (2087, 1004, 0), (11241, 16, 0), (2093, 15, 0), (14087, 95, 0), (11244, 17, 0), (14091, 96, 0), (11247, 18, 0), (2100, 1005, 0), (14096, 97, 0), (11250, 142, 0), (11417, 140, 0), (11409, 10, 0), (1028, 1005, 0), (14101, 98, 0), (14105, 99, 0), (11254, 143, 0), (11420, 144, 0), (11424, 9, 0), (1018, 7, 0), (14109, 100, 0), (11262, 1006, 0), (14113, 101, 0), (11267, 135, 0), (11284, 125, 0), (11273, 75, 0), (10018, 1005, 0), (10031, 76, 0), (10035, 78, 0), (10046, 1004, 0), (10039, 77, 0), (14117, 102, 0), (14121, 103, 0), (11280, 148, 0), (14126, 104, 0), (14131, 105, 0), (14135, 106, 0), (14139, 107, 0), (11303, 149, 0), (14143, 108, 0), (11313, 1005, 0), (11316, 1004, 0), (14147, 109, 0), (14151, 110, 0), (11322, 131, 0), (11325, 145, 0), (11433, 146, 0), (14155, 111, 0), (14159, 112, 0), (11329, 136, 0), (11350, 132, 0), (11332, 150, 0), (11436, 151, 0), (11439, 64, 0), (11344, 8, 0), (11347, 65, 0), (8043, 64, 0), (14163, 113, 0), (14168, 114, 0), (11336, 21, 0), (3029, 63, 0), (3033, 1005, 0), (14173, 115, 0), (14177, 116, 0), (14181, 117, 0), (14185, 118, 0), (11359, 22, 0), (14190, 119, 0), (11362, 23, 0), (11365, 24, 0), (14194, 120, 0), (11372, 25, 0), (14207, 122, 0), (14211, 123, 0), (14198, 1003, 0), (14007, 121, 0), (14018, 157, 0), (13003, 1000, 0), (14204, 158, 0), (14023, 197, 0), (14027, 198, 0), (13059, 159, 0), (12003, 1000, 0), (13127, 171, 0), (13091, 167, 0), (13100, 168, 0), (13108, 169, 0), (13370, 187, 0), (13204, 188, 0), (13130, 173, 0), (13120, 170, 0), (13073, 1001, 0), (13081, 1002, 0), (13216, 189, 0), (13134, 172, 0), (13239, 179, 0), (13146, 176, 0), (13150, 178, 0), (13142, 177, 0), (13138, 163, 0), (13219, 191, 0), (13266, 181, 0), (13270, 182, 0), (13181, 180, 0), (13185, 153, 0), (13282, 190, 0), (13207, 175, 0), (13124, 174, 0), (13285, 183, 0), (13222, 192, 0), (13225, 193, 0), (13321, 185, 0), (13201, 184, 0), (13327, 164, 0), (13228, 194, 0), (13337, 186, 0), (13231, 195, 0), (13234, 196, 0), (13063, 161, 0), (14032, 199, 0), (14036, 200, 0), (14041, 217, 0), (13444, 212, 0), (13406, 154, 0), (14046, 218, 0), (13446, 215, 0), (13400, 155, 0), (14050, 221, 0), (13441, 213, 0), (13452, 220, 0), (13449, 219, 0), (14055, 222, 0), (13396, 202, 0), (13386, 201, 0), (13412, 204, 0), (14060, 223, 0), (13455, 214, 0), (13458, 216, 0), (13409, 205, 0), (14065, 224, 0), (13433, 208, 0), (13422, 206, 0), (13415, 207, 0), (14069, 225, 0), (14073, 226, 0), (14078, 227, 0), (13462, 211, 0), (13430, 209, 0), (13438, 210, 0), (13466, 166, 0), (13066, 165, 0), (14082, 232, 0), (13470, 228, 0), (13474, 231, 0), (14086, 234, 0), (13485, 233, 0), (13477, 229, 0), (13481, 230, 0), (14090, 235, 0), (14095, 236, 0), (14100, 238, 0), (13492, 237, 0), (13489, 203, 0), (13392, 156, 0), (12081, 154, 0), (14104, 239, 0), (14108, 244, 0), (13506, 243, 0), (13498, 240, 0), (13501, 242, 0), (13495, 241, 0), (14112, 246, 0), (13511, 245, 0), (14116, 255, 0), (13532, 254, 0), (13535, 253, 0), (13520, 250, 0), (13523, 252, 0), (13514, 247, 0), (13517, 248, 0), (13526, 249, 0), (13529, 251, 0), (14120, 256, 0), (14125, 258, 0), (13538, 257, 0), (14130, 259, 0), (14134, 260, 0), (14138, 261, 0), (14142, 263, 0), (13545, 262, 0), (14146, 265, 0), (13549, 264, 0), (14150, 266, 0), (14154, 269, 0), (13555, 268, 0), (13558, 267, 0), (14158, 270, 0), (14162, 275, 0), (13583, 274, 0), (13587, 273, 0), (13570, 271, 0), (13579, 272, 0), (14167, 276, 0), (14172, 278, 0), (13590, 160, 0), (13593, 277, 0), (13596, 162, 0), (14176, 279, 0), (14180, 280, 0), (14184, 281, 0), (14189, 282, 0), (14193, 283, 0), (14197, 284, 0), (14203, 285, 0), (14210, 286, 0), (14214, 287, 0), (11009, 41, 1), (7011, 66, 1), (4030, 5, 1), (4031, 30, 1), (11018, 61, 1), (3018, 61, 1), (11032, 32, 1), (6011, 0, 1), (2041, 0, 1), (11046, 74, 1), (13369, 152, 1)]
/-- classes -/
def ab_pC : List (Nat × Nat) := [(14008, 11), (11007, 7), (7009, 9), (7018, 4), (4009, 1), (4017, 5), (11016, 8), (11023, 3), (3009, 8), (11030, 6), (6009, 0), (11037, 2), (2011, 0), (11044, 10), (11055, 4), (14016, 13), (13176, 12)]
/-- ints -/
def ab_pI : List (Nat × Int) := [(2099, 2147483647), (11261, 2147483647), (10045, 2147483647), (11296, 1000000), (11401, 65536), (8042, 65537), (13544, 1000000), (13582, 65536)]
/-- longs -/
def ab_pJ : List (Nat × Int) := [(9055, 27), (11207, -1), (11257, 2), (11294, 20), (13079, 32), (13425, -1), (13436, 100), (13504, 2), (13509, 200), (13542, 20), (13561, 75), (13566, 74), (13568, 65537)]
/-- texts -/
def ab_pS : List (Nat × Nat) := [(7066, 0), (7118, 1), (7129, 2), (7133, 3), (7137, 4), (7141, 5), (7075, 6), (7084, 7), (7089, 8), (7097, 9), (7105, 10), (7113, 11), (7179, 12), (7192, 13), (7161, 14), (7163, 15), (7165, 16), (7167, 17), (7174, 18), (7211, 19), (7213, 20), (7215, 21), (7217, 22), (7220, 23), (7224, 24), (7228, 25), (7261, 26), (11378, 27), (13153, 0), (13237, 1), (13243, 2), (13245, 3), (13247, 4), (13249, 5), (13155, 6), (13157, 7), (13159, 8), (13161, 9), (13163, 10), (13165, 11), (13167, 12), (13169, 13), (13274, 14), (13276, 15), (13278, 16), (13280, 18), (13293, 19), (13295, 20), (13297, 21), (13299, 22), (13301, 23), (13303, 24), (13305, 25), (13358, 26)]
/-- frames, cells and slots of a call -/
def ab_bt0 : List (Nat × Nat × Nat) := [(1, 5, 33), (0, 0, 0), (0, 0, 0), (0, 0, 0), (1, 0, 0), (1, 2, 14), (0, 0, 0), (0, 0, 0), (0, 0, 0), (1, 0, 0), (1, 0, 0), (2, 176, 1320), (2, 0, 0), (3, 0, 0), (3, 0, 0), (0, 0, 0), (1, 0, 0), (1, 0, 0), (1, 0, 0), (2, 97, 513), (0, 0, 0), (1, 0, 0), (1, 0, 0), (0, 0, 0), (1, 0, 0), (1, 0, 0), (2, 25, 186), (0, 0, 0), (0, 0, 0), (0, 0, 0), (1, 0, 0), (0, 0, 0), (2, 13, 82), (0, 0, 0), (0, 0, 0), (1, 0, 0), (1, 0, 0), (2, 0, 0), (0, 0, 0), (2, 0, 0), (1, 0, 0), (3, 28, 1209), (15, 0, 0), (0, 0, 0), (14, 0, 0), (2, 0, 0), (13, 0, 0), (13, 0, 0), (2, 0, 0), (13, 0, 0), (13, 0, 0), (13, 0, 0), (12, 0, 0), (13, 0, 0), (11, 0, 0), (12, 0, 0), (11, 0, 0), (1, 0, 0), (11, 0, 0), (12, 0, 0), (12, 0, 0), (1, 4, 21), (0, 0, 0), (0, 0, 0)]
def ab_bt1 : List (Nat × Nat × Nat) := [(0, 0, 0), (1, 0, 0), (1, 1, 1000), (0, 0, 0), (1, 0, 0), (2, 0, 0), (1, 0, 0), (0, 0, 0), (0, 0, 0), (10, 0, 0), (1, 2, 15), (12, 0, 0), (11, 0, 0), (0, 0, 0), (1, 0, 0), (4, 353, 3409), (2, 0, 0), (16, 0, 0), (0, 0, 0), (0, 0, 0), (1, 0, 0), (2, 0, 0), (1, 0, 0), (2, 0, 0), (4, 0, 0), (4, 0, 0), (4, 0, 0), (4, 0, 0), (4, 0, 0), (4, 0, 0), (5, 0, 0), (5, 0, 0), (5, 0, 0), (5, 0, 0), (5, 0, 0), (5, 0, 0), (5, 0, 0), (13, 0, 0), (13, 0, 0), (1, 0, 0), (1, 0, 0), (1, 0, 0), (1, 0, 0), (1, 0, 0), (2, 0, 0), (1, 0, 0), (6, 0, 0), (6, 0, 0), (6, 0, 0), (6, 0, 0), (2, 0, 0), (2, 0, 0), (4, 0, 0), (1, 0, 0), (2, 0, 0), (2, 0, 0), (2, 0, 0), (0, 0, 0), (0, 0, 0), (0, 0, 0), (0, 0, 0), (0, 0, 0), (0, 0, 0), (0, 0, 0)]
def ab_bt2 : List (Nat × Nat × Nat) := [(1, 0, 0), (1, 0, 0), (0, 0, 0), (0, 0, 0), (0, 0, 0), (2, 0, 0), (3, 0, 0), (1, 0, 0), (1, 0, 0), (1, 0, 0), (3, 0, 0), (2, 0, 0), (3, 0, 0), (4, 0, 0), (4, 0, 0), (4, 0, 0), (2, 0, 0), (5, 0, 0), (4, 0, 0), (0, 0, 0), (0, 0, 0), (0, 0, 0), (5, 0, 0), (4, 0, 0), (1, 21, 211), (0, 0, 0), (0, 0, 0), (0, 0, 0), (1, 0, 0), (1, 12, 1675), (0, 0, 0), (0, 0, 0), (1, 0, 0), (0, 0, 0), (1, 0, 0), (0, 0, 0), (0, 0, 0), (0, 0, 0), (1, 0, 0), (0, 0, 0), (0, 0, 0), (0, 0, 0), (10, 0, 0), (1, 0, 0), (0, 0, 0), (11, 0, 0), (0, 0, 0), (2, 0, 0), (12, 0, 0), (1, 0, 0), (2, 0, 0), (13, 0, 0), (12, 0, 0), (2, 0, 0), (13, 0, 0), (0, 0, 0), (13, 0, 0), (14, 0, 0), (12, 0, 0), (17, 0, 0), (16, 0, 0), (14, 0, 0), (13, 0, 0), (14, 0, 0)]
def ab_bt3 : List (Nat × Nat × Nat) := [(14, 0, 0), (15, 0, 0), (15, 0, 0), (13, 0, 0), (14, 0, 0), (0, 0, 0), (18, 22, 244), (0, 0, 0), (0, 0, 0), (0, 0, 0), (1, 0, 0), (2, 0, 0), (1, 0, 0), (0, 0, 0), (3, 0, 0), (2, 0, 0), (4, 0, 0), (1, 0, 0), (1, 0, 0), (5, 0, 0), (0, 0, 0), (0, 0, 0), (1, 0, 0), (1, 0, 0), (1, 0, 0), (1, 0, 0), (2, 0, 0), (0, 0, 0), (1, 0, 0), (2, 0, 0), (2, 0, 0), (2, 0, 0), (5, 0, 0), (5, 0, 0), (5, 0, 0), (6, 0, 0), (1, 0, 0), (6, 0, 0), (2, 0, 0), (0, 0, 0), (6, 0, 0), (7, 0, 0), (8, 0, 0), (8, 0, 0), (7, 0, 0), (6, 0, 0), (7, 0, 0), (7, 0, 0), (6, 0, 0), (1, 0, 0), (7, 0, 0), (8, 0, 0), (9, 0, 0), (9, 0, 0), (10, 0, 0), (0, 0, 0), (0, 0, 0), (1, 0, 0), (0, 0, 0), (0, 0, 0), (1, 0, 0), (2, 0, 0), (1, 0, 0), (3, 0, 0)]
def ab_bt4 : List (Nat × Nat × Nat) := [(3, 0, 0), (0, 0, 0), (2, 0, 0), (2, 0, 0), (2, 0, 0), (1, 0, 0), (0, 0, 0), (2, 0, 0), (0, 0, 0), (2, 0, 0), (1, 0, 0), (5, 0, 0), (0, 0, 0), (6, 0, 0), (6, 0, 0), (0, 0, 0), (2, 0, 0), (5, 0, 0), (1, 0, 0), (6, 0, 0), (6, 0, 0), (0, 0, 0), (2, 0, 0), (2, 0, 0), (5, 0, 0), (2, 0, 0), (2, 0, 0), (1, 0, 0), (2, 0, 0), (1, 0, 0), (1, 0, 0), (0, 0, 0), (100, 600000, 7000000)]
def ab_bt (k : Nat) : Nat × Nat × Nat := if k < 64 then ab_bt0.getD (k - 0) (0, 0, 0) else if k < 128 then ab_bt1.getD (k - 64) (0, 0, 0) else if k < 192 then ab_bt2.getD (k - 128) (0, 0, 0) else if k < 256 then ab_bt3.getD (k - 192) (0, 0, 0) else if k < 320 then ab_bt4.getD (k - 256) (0, 0, 0) else (0, 0, 0)
def ab_kf : Nat := 76
def ab_kgi : Nat := 11
def ab_kled : Nat := 121
def ab_klaw : Nat := 288

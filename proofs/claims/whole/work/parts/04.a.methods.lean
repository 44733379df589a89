theorem kX0 : clsOK 0 RX0 TX0 7 tyX0 := ⟨rfl, by decide, fun w hw => in_tblN (inX0 w hw) (List.all_eq_true.mp (by decide +kernel : (u_ws RX0 TX0 7).all goodWord = true) w hw), finX0, tyX0_ok, nmX0⟩
theorem kX1 : clsOK 1 RX1 TX1 2 tyX1 := ⟨rfl, by decide, fun w hw => in_tblN (inX1 w hw) (List.all_eq_true.mp (by decide +kernel : (u_ws RX1 TX1 2).all goodWord = true) w hw), finX1, tyX1_ok, nmX1⟩
theorem kX2 : clsOK 2 RX2 TX2 2 tyX2 := ⟨rfl, by decide, fun w hw => in_tblN (inX2 w hw) (List.all_eq_true.mp (by decide +kernel : (u_ws RX2 TX2 2).all goodWord = true) w hw), finX2, tyX2_ok, nmX2⟩
theorem kX3 : clsOK 3 RX3 TX3 5 tyX3 := ⟨rfl, by decide, fun w hw => in_tblN (inX3 w hw) (List.all_eq_true.mp (by decide +kernel : (u_ws RX3 TX3 5).all goodWord = true) w hw), finX3, tyX3_ok, nmX3⟩
theorem kX4 : clsOK 4 RX4 TX4 3 tyX4 := ⟨rfl, by decide, fun w hw => in_tblN (inX4 w hw) (List.all_eq_true.mp (by decide +kernel : (u_ws RX4 TX4 3).all goodWord = true) w hw), finX4, tyX4_ok, nmX4⟩
theorem kX5 : clsOK 5 RX5 TX5 5 tyX5 := ⟨rfl, by decide, fun w hw => in_tblN (inX5 w hw) (List.all_eq_true.mp (by decide +kernel : (u_ws RX5 TX5 5).all goodWord = true) w hw), finX5, tyX5_ok, nmX5⟩
theorem kX6 : clsOK 6 RX6 TX6 3 tyX6 := ⟨rfl, by decide, fun w hw => in_tblN (inX6 w hw) (List.all_eq_true.mp (by decide +kernel : (u_ws RX6 TX6 3).all goodWord = true) w hw), finX6, tyX6_ok, nmX6⟩
theorem kX7 : clsOK 7 RX7 TX7 3 tyX7 := ⟨rfl, by decide, fun w hw => in_tblN (inX7 w hw) (List.all_eq_true.mp (by decide +kernel : (u_ws RX7 TX7 3).all goodWord = true) w hw), finX7, tyX7_ok, nmX7⟩
theorem kX8 : clsOK 8 RX8 TX8 11 tyX8 := ⟨rfl, by decide, fun w hw => in_tblN (inX8 w hw) (List.all_eq_true.mp (by decide +kernel : (u_ws RX8 TX8 11).all goodWord = true) w hw), finX8, tyX8_ok, nmX8⟩
theorem kX9 : clsOK 9 RX9 TX9 35 tyX9 := ⟨rfl, by decide, fun w hw => in_tblN (inX9 w hw) (List.all_eq_true.mp (by decide +kernel : (u_ws RX9 TX9 35).all goodWord = true) w hw), finX9, tyX9_ok, nmX9⟩
theorem oX0_init : mOK mX0_init 0 := ⟨wcX0_init, wzX0, by decide +kernel⟩
theorem pX0_init : plainFor mX0_init.1 = true := by decide +kernel
theorem oX0_forget : mOK mX0_forget 0 := ⟨wcX0_forget, wzX0, by decide +kernel⟩
theorem pX0_forget : plainFor mX0_forget.1 = true := by decide +kernel
theorem oX0_keep : mOK mX0_keep 1 := ⟨wcX0_keep, wzX0, by decide +kernel⟩
theorem pX0_keep : plainFor mX0_keep.1 = true := by decide +kernel
theorem oX0_keepCell : mOK mX0_keepCell 3 := ⟨wcX0_keepCell, wzX0, by decide +kernel⟩
theorem pX0_keepCell : plainFor mX0_keepCell.1 = true := by decide +kernel
theorem oX0_goBack : mOK mX0_goBack 1 := ⟨wcX0_goBack, wzX0, by decide +kernel⟩
theorem pX0_goBack : plainFor mX0_goBack.1 = true := by decide +kernel
theorem oX1_init : mOK mX1_init 0 := ⟨wcX1_init, wzX1, by decide +kernel⟩
theorem pX1_init : plainFor mX1_init.1 = true := by decide +kernel
theorem oX1_come : mOK mX1_come 1 := ⟨wcX1_come, wzX1, by decide +kernel⟩
theorem pX1_come : plainFor mX1_come.1 = true := by decide +kernel
theorem oX1_lengthOf : mOK mX1_lengthOf 1 := ⟨wcX1_lengthOf, wzX1, by decide +kernel⟩
theorem pX1_lengthOf : plainFor mX1_lengthOf.1 = true := by decide +kernel
theorem oX1_wrongPlace : mOK mX1_wrongPlace 0 := ⟨wcX1_wrongPlace, wzX1, by decide +kernel⟩
theorem pX1_wrongPlace : plainFor mX1_wrongPlace.1 = true := by decide +kernel
theorem oX1_layOn : mOK mX1_layOn 1 := ⟨wcX1_layOn, wzX1, by decide +kernel⟩
theorem pX1_layOn : plainFor mX1_layOn.1 = true := by decide +kernel
theorem oX1_comeOn : mOK mX1_comeOn 2 := ⟨wcX1_comeOn, wzX1, by decide +kernel⟩
theorem pX1_comeOn : plainFor mX1_comeOn.1 = true := by decide +kernel
theorem oX1_number : mOK mX1_number 2 := ⟨wcX1_number, wzX1, by decide +kernel⟩
theorem pX1_number : plainFor mX1_number.1 = true := by decide +kernel
theorem oX1_resize : mOK mX1_resize 2 := ⟨wcX1_resize, wzX1, by decide +kernel⟩
theorem pX1_resize : plainFor mX1_resize.1 = true := by decide +kernel
theorem oX1_addPair : mOK mX1_addPair 3 := ⟨wcX1_addPair, wzX1, by decide +kernel⟩
theorem pX1_addPair : plainFor mX1_addPair.1 = true := by decide +kernel
theorem oX1_setAdder : mOK mX1_setAdder 3 := ⟨wcX1_setAdder, wzX1, by decide +kernel⟩
theorem pX1_setAdder : plainFor mX1_setAdder.1 = true := by decide +kernel
theorem oX1_addTurn : mOK mX1_addTurn 3 := ⟨wcX1_addTurn, wzX1, by decide +kernel⟩
theorem pX1_addTurn : plainFor mX1_addTurn.1 = true := by decide +kernel
theorem oX2_init : mOK mX2_init 0 := ⟨wcX2_init, wzX2, by decide +kernel⟩
theorem pX2_init : plainFor mX2_init.1 = true := by decide +kernel
theorem oX2_has : mOK mX2_has 1 := ⟨wcX2_has, wzX2, by decide +kernel⟩
theorem pX2_has : plainFor mX2_has.1 = true := by decide +kernel
theorem oX2_make : mOK mX2_make 2 := ⟨wcX2_make, wzX2, by decide +kernel⟩
theorem pX2_make : plainFor mX2_make.1 = true := by decide +kernel
theorem oX2_firstOtherwise : mOK mX2_firstOtherwise 2 := ⟨wcX2_firstOtherwise, wzX2, by decide +kernel⟩
theorem pX2_firstOtherwise : plainFor mX2_firstOtherwise.1 = true := by decide +kernel
theorem oX2_sizesOfStarter : mOK mX2_sizesOfStarter 2 := ⟨wcX2_sizesOfStarter, wzX2, by decide +kernel⟩
theorem pX2_sizesOfStarter : plainFor mX2_sizesOfStarter.1 = true := by decide +kernel
theorem oX3_init : mOK mX3_init 0 := ⟨wcX3_init, wzX3, by decide +kernel⟩
theorem pX3_init : plainFor mX3_init.1 = true := by decide +kernel
theorem oX3_copyFrom : mOK mX3_copyFrom 1 := ⟨wcX3_copyFrom, wzX3, by decide +kernel⟩
theorem pX3_copyFrom : plainFor mX3_copyFrom.1 = true := by decide +kernel
theorem oX3_becomeEmpty : mOK mX3_becomeEmpty 1 := ⟨wcX3_becomeEmpty, wzX3, by decide +kernel⟩
theorem pX3_becomeEmpty : plainFor mX3_becomeEmpty.1 = true := by decide +kernel
theorem oX3_becomeBook : mOK mX3_becomeBook 1 := ⟨wcX3_becomeBook, wzX3, by decide +kernel⟩
theorem pX3_becomeBook : plainFor mX3_becomeBook.1 = true := by decide +kernel
theorem oX3_append : mOK mX3_append 2 := ⟨wcX3_append, wzX3, by decide +kernel⟩
theorem pX3_append : plainFor mX3_append.1 = true := by decide +kernel
theorem oX3_most : mOK mX3_most 0 := ⟨wcX3_most, wzX3, by decide +kernel⟩
theorem pX3_most : plainFor mX3_most.1 = true := by decide +kernel
theorem oX3_has : mOK mX3_has 1 := ⟨wcX3_has, wzX3, by decide +kernel⟩
theorem pX3_has : plainFor mX3_has.1 = true := by decide +kernel
theorem oX3_numberAt : mOK mX3_numberAt 1 := ⟨wcX3_numberAt, wzX3, by decide +kernel⟩
theorem pX3_numberAt : plainFor mX3_numberAt.1 = true := by decide +kernel
theorem oX3_told : mOK mX3_told 2 := ⟨wcX3_told, wzX3, by decide +kernel⟩
theorem pX3_told : plainFor mX3_told.1 = true := by decide +kernel
theorem oX3_lesserDifference : mOK mX3_lesserDifference 1 := ⟨wcX3_lesserDifference, wzX3, by decide +kernel⟩
theorem pX3_lesserDifference : plainFor mX3_lesserDifference.1 = true := by decide +kernel
theorem oX3_areSuch : mOK mX3_areSuch 1 := ⟨wcX3_areSuch, wzX3, by decide +kernel⟩
theorem pX3_areSuch : plainFor mX3_areSuch.1 = true := by decide +kernel
theorem oX3_areWhole : mOK mX3_areWhole 0 := ⟨wcX3_areWhole, wzX3, by decide +kernel⟩
theorem pX3_areWhole : plainFor mX3_areWhole.1 = true := by decide +kernel
theorem oX3_areStarter : mOK mX3_areStarter 0 := ⟨wcX3_areStarter, wzX3, by decide +kernel⟩
theorem pX3_areStarter : plainFor mX3_areStarter.1 = true := by decide +kernel
theorem oX3_haveStrongSums : mOK mX3_haveStrongSums 0 := ⟨wcX3_haveStrongSums, wzX3, by decide +kernel⟩
theorem pX3_haveStrongSums : plainFor mX3_haveStrongSums.1 = true := by decide +kernel
theorem oX3_haveSkewSums : mOK mX3_haveSkewSums 0 := ⟨wcX3_haveSkewSums, wzX3, by decide +kernel⟩
theorem pX3_haveSkewSums : plainFor mX3_haveSkewSums.1 = true := by decide +kernel
theorem oX3_areAdded : mOK mX3_areAdded 0 := ⟨wcX3_areAdded, wzX3, by decide +kernel⟩
theorem pX3_areAdded : plainFor mX3_areAdded.1 = true := by decide +kernel
theorem oX3_canBe : mOK mX3_canBe 0 := ⟨wcX3_canBe, wzX3, by decide +kernel⟩
theorem pX3_canBe : plainFor mX3_canBe.1 = true := by decide +kernel
theorem oX3_allButZero : mOK mX3_allButZero 0 := ⟨wcX3_allButZero, wzX3, by decide +kernel⟩
theorem pX3_allButZero : plainFor mX3_allButZero.1 = true := by decide +kernel
theorem oX3_numberBits : mOK mX3_numberBits 0 := ⟨wcX3_numberBits, wzX3, by decide +kernel⟩
theorem pX3_numberBits : plainFor mX3_numberBits.1 = true := by decide +kernel
theorem oX3_differenceBits : mOK mX3_differenceBits 0 := ⟨wcX3_differenceBits, wzX3, by decide +kernel⟩
theorem pX3_differenceBits : plainFor mX3_differenceBits.1 = true := by decide +kernel
theorem oX3_sumBits : mOK mX3_sumBits 0 := ⟨wcX3_sumBits, wzX3, by decide +kernel⟩
theorem pX3_sumBits : plainFor mX3_sumBits.1 = true := by decide +kernel
theorem oX3_areRightTo : mOK mX3_areRightTo 1 := ⟨wcX3_areRightTo, wzX3, by decide +kernel⟩
theorem pX3_areRightTo : plainFor mX3_areRightTo.1 = true := by decide +kernel
theorem oX3_shiftFrom : mOK mX3_shiftFrom 2 := ⟨wcX3_shiftFrom, wzX3, by decide +kernel⟩
theorem pX3_shiftFrom : plainFor mX3_shiftFrom.1 = true := by decide +kernel
theorem oX3_numberAhead : mOK mX3_numberAhead 1 := ⟨wcX3_numberAhead, wzX3, by decide +kernel⟩
theorem pX3_numberAhead : plainFor mX3_numberAhead.1 = true := by decide +kernel
theorem oX3_changeByLots : mOK mX3_changeByLots 2 := ⟨wcX3_changeByLots, wzX3, by decide +kernel⟩
theorem pX3_changeByLots : plainFor mX3_changeByLots.1 = true := by decide +kernel
theorem oX3_drawn : mOK mX3_drawn 1 := ⟨wcX3_drawn, wzX3, by decide +kernel⟩
theorem pX3_drawn : plainFor mX3_drawn.1 = true := by decide +kernel
theorem oX3_below : mOK mX3_below 2 := ⟨wcX3_below, wzX3, by decide +kernel⟩
theorem pX3_below : plainFor mX3_below.1 = true := by decide +kernel
theorem oX4_init : mOK mX4_init 0 := ⟨wcX4_init, wzX4, by decide +kernel⟩
theorem pX4_init : plainFor mX4_init.1 = true := by decide +kernel
theorem oX4_codeOf : mOK mX4_codeOf 2 := ⟨wcX4_codeOf, wzX4, by decide +kernel⟩
theorem pX4_codeOf : plainFor mX4_codeOf.1 = true := by decide +kernel
theorem oX4_lesserOf : mOK mX4_lesserOf 1 := ⟨wcX4_lesserOf, wzX4, by decide +kernel⟩
theorem pX4_lesserOf : plainFor mX4_lesserOf.1 = true := by decide +kernel
theorem oX4_greaterOf : mOK mX4_greaterOf 1 := ⟨wcX4_greaterOf, wzX4, by decide +kernel⟩
theorem pX4_greaterOf : plainFor mX4_greaterOf.1 = true := by decide +kernel
theorem oX4_copyFrom : mOK mX4_copyFrom 1 := ⟨wcX4_copyFrom, wzX4, by decide +kernel⟩
theorem pX4_copyFrom : plainFor mX4_copyFrom.1 = true := by decide +kernel
theorem oX4_becomeEmpty : mOK mX4_becomeEmpty 1 := ⟨wcX4_becomeEmpty, wzX4, by decide +kernel⟩
theorem pX4_becomeEmpty : plainFor mX4_becomeEmpty.1 = true := by decide +kernel
theorem oX4_has : mOK mX4_has 2 := ⟨wcX4_has, wzX4, by decide +kernel⟩
theorem pX4_has : plainFor mX4_has.1 = true := by decide +kernel
theorem oX4_placeOf : mOK mX4_placeOf 2 := ⟨wcX4_placeOf, wzX4, by decide +kernel⟩
theorem pX4_placeOf : plainFor mX4_placeOf.1 = true := by decide +kernel
theorem oX4_isFilled : mOK mX4_isFilled 2 := ⟨wcX4_isFilled, wzX4, by decide +kernel⟩
theorem pX4_isFilled : plainFor mX4_isFilled.1 = true := by decide +kernel
theorem oX4_becomeBuilt : mOK mX4_becomeBuilt 1 := ⟨wcX4_becomeBuilt, wzX4, by decide +kernel⟩
theorem pX4_becomeBuilt : plainFor mX4_becomeBuilt.1 = true := by decide +kernel
theorem oX4_lay : mOK mX4_lay 3 := ⟨wcX4_lay, wzX4, by decide +kernel⟩
theorem pX4_lay : plainFor mX4_lay.1 = true := by decide +kernel
theorem oX4_filled : mOK mX4_filled 0 := ⟨wcX4_filled, wzX4, by decide +kernel⟩
theorem pX4_filled : plainFor mX4_filled.1 = true := by decide +kernel
theorem oX4_faultsOfLine : mOK mX4_faultsOfLine 2 := ⟨wcX4_faultsOfLine, wzX4, by decide +kernel⟩
theorem pX4_faultsOfLine : plainFor mX4_faultsOfLine.1 = true := by decide +kernel
theorem oX4_faultsOfPairs : mOK mX4_faultsOfPairs 0 := ⟨wcX4_faultsOfPairs, wzX4, by decide +kernel⟩
theorem pX4_faultsOfPairs : plainFor mX4_faultsOfPairs.1 = true := by decide +kernel
theorem oX4_isIndeed : mOK mX4_isIndeed 0 := ⟨wcX4_isIndeed, wzX4, by decide +kernel⟩
theorem pX4_isIndeed : plainFor mX4_isIndeed.1 = true := by decide +kernel
theorem oX4_facing : mOK mX4_facing 0 := ⟨wcX4_facing, wzX4, by decide +kernel⟩
theorem pX4_facing : plainFor mX4_facing.1 = true := by decide +kernel
theorem oX4_firstOf : mOK mX4_firstOf 1 := ⟨wcX4_firstOf, wzX4, by decide +kernel⟩
theorem pX4_firstOf : plainFor mX4_firstOf.1 = true := by decide +kernel
theorem oX5_init : mOK mX5_init 0 := ⟨wcX5_init, wzX5, by decide +kernel⟩
theorem pX5_init : plainFor mX5_init.1 = true := by decide +kernel
theorem oX5_begin : mOK mX5_begin 1 := ⟨wcX5_begin, wzX5, by decide +kernel⟩
theorem pX5_begin : plainFor mX5_begin.1 = true := by decide +kernel
theorem oX5_hasWanted : mOK mX5_hasWanted 0 := ⟨wcX5_hasWanted, wzX5, by decide +kernel⟩
theorem pX5_hasWanted : plainFor mX5_hasWanted.1 = true := by decide +kernel
theorem oX5_goThroughStarters : mOK mX5_goThroughStarters 2 := ⟨wcX5_goThroughStarters, wzX5, by decide +kernel⟩
theorem pX5_goThroughStarters : plainFor mX5_goThroughStarters.1 = true := by decide +kernel
theorem oX5_goThroughAdders : mOK mX5_goThroughAdders 2 := ⟨wcX5_goThroughAdders, wzX5, by decide +kernel⟩
theorem pX5_goThroughAdders : plainFor mX5_goThroughAdders.1 = true := by decide +kernel
theorem oX5_noteStarter : mOK mX5_noteStarter 0 := ⟨wcX5_noteStarter, wzX5, by decide +kernel⟩
theorem pX5_noteStarter : plainFor mX5_noteStarter.1 = true := by decide +kernel
theorem oX5_seekStarters : mOK mX5_seekStarters 4 := ⟨wcX5_seekStarters, wzX5, by decide +kernel⟩
theorem pX5_seekStarters : plainFor mX5_seekStarters.1 = true := by decide +kernel
theorem oX5_leastFree : mOK mX5_leastFree 2 := ⟨wcX5_leastFree, wzX5, by decide +kernel⟩
theorem pX5_leastFree : plainFor mX5_leastFree.1 = true := by decide +kernel
theorem oX5_seekAdders : mOK mX5_seekAdders 4 := ⟨wcX5_seekAdders, wzX5, by decide +kernel⟩
theorem pX5_seekAdders : plainFor mX5_seekAdders.1 = true := by decide +kernel
theorem oX6_init : mOK mX6_init 0 := ⟨wcX6_init, wzX6, by decide +kernel⟩
theorem pX6_init : plainFor mX6_init.1 = true := by decide +kernel
theorem oX6_copyFrom : mOK mX6_copyFrom 1 := ⟨wcX6_copyFrom, wzX6, by decide +kernel⟩
theorem pX6_copyFrom : plainFor mX6_copyFrom.1 = true := by decide +kernel
theorem oX6_resize : mOK mX6_resize 1 := ⟨wcX6_resize, wzX6, by decide +kernel⟩
theorem pX6_resize : plainFor mX6_resize.1 = true := by decide +kernel
theorem oX6_refusalOfSize : mOK mX6_refusalOfSize 1 := ⟨wcX6_refusalOfSize, wzX6, by decide +kernel⟩
theorem pX6_refusalOfSize : plainFor mX6_refusalOfSize.1 = true := by decide +kernel
theorem oX6_refusalOfPair : mOK mX6_refusalOfPair 2 := ⟨wcX6_refusalOfPair, wzX6, by decide +kernel⟩
theorem pX6_refusalOfPair : plainFor mX6_refusalOfPair.1 = true := by decide +kernel
theorem oX6_refusalOfAdder : mOK mX6_refusalOfAdder 2 := ⟨wcX6_refusalOfAdder, wzX6, by decide +kernel⟩
theorem pX6_refusalOfAdder : plainFor mX6_refusalOfAdder.1 = true := by decide +kernel
theorem oX6_refusalOfTurn : mOK mX6_refusalOfTurn 2 := ⟨wcX6_refusalOfTurn, wzX6, by decide +kernel⟩
theorem pX6_refusalOfTurn : plainFor mX6_refusalOfTurn.1 = true := by decide +kernel
theorem oX7_init : mOK mX7_init 0 := ⟨wcX7_init, wzX7, by decide +kernel⟩
theorem pX7_init : plainFor mX7_init.1 = true := by decide +kernel
theorem oX7_copyFrom : mOK mX7_copyFrom 1 := ⟨wcX7_copyFrom, wzX7, by decide +kernel⟩
theorem pX7_copyFrom : plainFor mX7_copyFrom.1 = true := by decide +kernel
theorem oX7_append : mOK mX7_append 2 := ⟨wcX7_append, wzX7, by decide +kernel⟩
theorem pX7_append : plainFor mX7_append.1 = true := by decide +kernel
theorem oX7_turnAll : mOK mX7_turnAll 2 := ⟨wcX7_turnAll, wzX7, by decide +kernel⟩
theorem pX7_turnAll : plainFor mX7_turnAll.1 = true := by decide +kernel
theorem oX7_turnOnce : mOK mX7_turnOnce 4 := ⟨wcX7_turnOnce, wzX7, by decide +kernel⟩
theorem pX7_turnOnce : plainFor mX7_turnOnce.1 = true := by decide +kernel
theorem oX7_multiply : mOK mX7_multiply 2 := ⟨wcX7_multiply, wzX7, by decide +kernel⟩
theorem pX7_multiply : plainFor mX7_multiply.1 = true := by decide +kernel
theorem oX7_reverse : mOK mX7_reverse 2 := ⟨wcX7_reverse, wzX7, by decide +kernel⟩
theorem pX7_reverse : plainFor mX7_reverse.1 = true := by decide +kernel
theorem oX7_rotate : mOK mX7_rotate 3 := ⟨wcX7_rotate, wzX7, by decide +kernel⟩
theorem pX7_rotate : plainFor mX7_rotate.1 = true := by decide +kernel
theorem oX7_takeOver : mOK mX7_takeOver 4 := ⟨wcX7_takeOver, wzX7, by decide +kernel⟩
theorem pX7_takeOver : plainFor mX7_takeOver.1 = true := by decide +kernel
theorem oX7_swap : mOK mX7_swap 3 := ⟨wcX7_swap, wzX7, by decide +kernel⟩
theorem pX7_swap : plainFor mX7_swap.1 = true := by decide +kernel
theorem oX7_share : mOK mX7_share 3 := ⟨wcX7_share, wzX7, by decide +kernel⟩
theorem pX7_share : plainFor mX7_share.1 = true := by decide +kernel
theorem oX8_init : mOK mX8_init 0 := ⟨wcX8_init, wzX8, by decide +kernel⟩
theorem pX8_init : plainFor mX8_init.1 = true := by decide +kernel
theorem oX8_letter : mOK mX8_letter 1 := ⟨wcX8_letter, wzX8, by decide +kernel⟩
theorem pX8_letter : plainFor mX8_letter.1 = true := by decide +kernel
theorem oX8_text : mOK mX8_text 0 := ⟨wcX8_text, wzX8, by decide +kernel⟩
theorem pX8_text : plainFor mX8_text.1 = true := by decide +kernel
theorem oX8_size : mOK mX8_size 1 := ⟨wcX8_size, wzX8, by decide +kernel⟩
theorem pX8_size : plainFor mX8_size.1 = true := by decide +kernel
theorem oX8_pair : mOK mX8_pair 2 := ⟨wcX8_pair, wzX8, by decide +kernel⟩
theorem pX8_pair : plainFor mX8_pair.1 = true := by decide +kernel
theorem oX8_drop : mOK mX8_drop 0 := ⟨wcX8_drop, wzX8, by decide +kernel⟩
theorem pX8_drop : plainFor mX8_drop.1 = true := by decide +kernel
theorem oX8_adder : mOK mX8_adder 2 := ⟨wcX8_adder, wzX8, by decide +kernel⟩
theorem pX8_adder : plainFor mX8_adder.1 = true := by decide +kernel
theorem oX8_of : mOK mX8_of 2 := ⟨wcX8_of, wzX8, by decide +kernel⟩
theorem pX8_of : plainFor mX8_of.1 = true := by decide +kernel
theorem oX8_is : mOK mX8_is 1 := ⟨wcX8_is, wzX8, by decide +kernel⟩
theorem pX8_is : plainFor mX8_is.1 = true := by decide +kernel
theorem oX8_book : mOK mX8_book 0 := ⟨wcX8_book, wzX8, by decide +kernel⟩
theorem pX8_book : plainFor mX8_book.1 = true := by decide +kernel
theorem oX8_right : mOK mX8_right 1 := ⟨wcX8_right, wzX8, by decide +kernel⟩
theorem pX8_right : plainFor mX8_right.1 = true := by decide +kernel
theorem oX8_build : mOK mX8_build 0 := ⟨wcX8_build, wzX8, by decide +kernel⟩
theorem pX8_build : plainFor mX8_build.1 = true := by decide +kernel
theorem oX8_cell : mOK mX8_cell 4 := ⟨wcX8_cell, wzX8, by decide +kernel⟩
theorem pX8_cell : plainFor mX8_cell.1 = true := by decide +kernel
theorem oX8_at : mOK mX8_at 3 := ⟨wcX8_at, wzX8, by decide +kernel⟩
theorem pX8_at : plainFor mX8_at.1 = true := by decide +kernel
theorem oX8_faults : mOK mX8_faults 2 := ⟨wcX8_faults, wzX8, by decide +kernel⟩
theorem pX8_faults : plainFor mX8_faults.1 = true := by decide +kernel
theorem oX8_indeed : mOK mX8_indeed 0 := ⟨wcX8_indeed, wzX8, by decide +kernel⟩
theorem pX8_indeed : plainFor mX8_indeed.1 = true := by decide +kernel
theorem oX8_faced : mOK mX8_faced 0 := ⟨wcX8_faced, wzX8, by decide +kernel⟩
theorem pX8_faced : plainFor mX8_faced.1 = true := by decide +kernel
theorem oX8_where : mOK mX8_where 2 := ⟨wcX8_where, wzX8, by decide +kernel⟩
theorem pX8_where : plainFor mX8_where.1 = true := by decide +kernel
theorem oX8_starters : mOK mX8_starters 2 := ⟨wcX8_starters, wzX8, by decide +kernel⟩
theorem pX8_starters : plainFor mX8_starters.1 = true := by decide +kernel
theorem oX8_strong : mOK mX8_strong 1 := ⟨wcX8_strong, wzX8, by decide +kernel⟩
theorem pX8_strong : plainFor mX8_strong.1 = true := by decide +kernel
theorem oX8_adders : mOK mX8_adders 2 := ⟨wcX8_adders, wzX8, by decide +kernel⟩
theorem pX8_adders : plainFor mX8_adders.1 = true := by decide +kernel
theorem oX8_odds : mOK mX8_odds 1 := ⟨wcX8_odds, wzX8, by decide +kernel⟩
theorem pX8_odds : plainFor mX8_odds.1 = true := by decide +kernel
theorem oX8_lots : mOK mX8_lots 3 := ⟨wcX8_lots, wzX8, by decide +kernel⟩
theorem pX8_lots : plainFor mX8_lots.1 = true := by decide +kernel
theorem oX8_turn : mOK mX8_turn 2 := ⟨wcX8_turn, wzX8, by decide +kernel⟩
theorem pX8_turn : plainFor mX8_turn.1 = true := by decide +kernel
theorem oX8_still : mOK mX8_still 0 := ⟨wcX8_still, wzX8, by decide +kernel⟩
theorem pX8_still : plainFor mX8_still.1 = true := by decide +kernel
theorem oX8_turned : mOK mX8_turned 2 := ⟨wcX8_turned, wzX8, by decide +kernel⟩
theorem pX8_turned : plainFor mX8_turned.1 = true := by decide +kernel
theorem oX8_turns : mOK mX8_turns 0 := ⟨wcX8_turns, wzX8, by decide +kernel⟩
theorem pX8_turns : plainFor mX8_turns.1 = true := by decide +kernel
theorem oX8_list : mOK mX8_list 2 := ⟨wcX8_list, wzX8, by decide +kernel⟩
theorem pX8_list : plainFor mX8_list.1 = true := by decide +kernel
theorem oX8_put : mOK mX8_put 3 := ⟨wcX8_put, wzX8, by decide +kernel⟩
theorem pX8_put : plainFor mX8_put.1 = true := by decide +kernel
theorem oX8_look : mOK mX8_look 2 := ⟨wcX8_look, wzX8, by decide +kernel⟩
theorem pX8_look : plainFor mX8_look.1 = true := by decide +kernel
theorem oX8_lays : mOK mX8_lays 2 := ⟨wcX8_lays, wzX8, by decide +kernel⟩
theorem pX8_lays : plainFor mX8_lays.1 = true := by decide +kernel
theorem oX8_judge : mOK mX8_judge 1 := ⟨wcX8_judge, wzX8, by decide +kernel⟩
theorem pX8_judge : plainFor mX8_judge.1 = true := by decide +kernel
theorem oX8_sizes : mOK mX8_sizes 1 := ⟨wcX8_sizes, wzX8, by decide +kernel⟩
theorem pX8_sizes : plainFor mX8_sizes.1 = true := by decide +kernel
theorem oX8_undo : mOK mX8_undo 0 := ⟨wcX8_undo, wzX8, by decide +kernel⟩
theorem pX8_undo : plainFor mX8_undo.1 = true := by decide +kernel
theorem oX8_image : mOK mX8_image 0 := ⟨wcX8_image, wzX8, by decide +kernel⟩
theorem pX8_image : plainFor mX8_image.1 = true := by decide +kernel
theorem oX8_on : mOK mX8_on 0 := ⟨wcX8_on, wzX8, by decide +kernel⟩
theorem pX8_on : plainFor mX8_on.1 = true := by decide +kernel
theorem oX8_count : mOK mX8_count 1 := ⟨wcX8_count, wzX8, by decide +kernel⟩
theorem pX8_count : plainFor mX8_count.1 = true := by decide +kernel
theorem oX8_refuse : mOK mX8_refuse 1 := ⟨wcX8_refuse, wzX8, by decide +kernel⟩
theorem pX8_refuse : plainFor mX8_refuse.1 = true := by decide +kernel
theorem oX8_refuseLong : mOK mX8_refuseLong 1 := ⟨wcX8_refuseLong, wzX8, by decide +kernel⟩
theorem pX8_refuseLong : plainFor mX8_refuseLong.1 = true := by decide +kernel
theorem oX8_refusalOfCell : mOK mX8_refusalOfCell 4 := ⟨wcX8_refusalOfCell, wzX8, by decide +kernel⟩
theorem pX8_refusalOfCell : plainFor mX8_refusalOfCell.1 = true := by decide +kernel
theorem oX8_refusalOfList : mOK mX8_refusalOfList 1 := ⟨wcX8_refusalOfList, wzX8, by decide +kernel⟩
theorem pX8_refusalOfList : plainFor mX8_refusalOfList.1 = true := by decide +kernel
theorem oX8_refusalOfPlace : mOK mX8_refusalOfPlace 3 := ⟨wcX8_refusalOfPlace, wzX8, by decide +kernel⟩
theorem pX8_refusalOfPlace : plainFor mX8_refusalOfPlace.1 = true := by decide +kernel
theorem oX8_turnInThought : mOK mX8_turnInThought 0 := ⟨wcX8_turnInThought, wzX8, by decide +kernel⟩
theorem pX8_turnInThought : plainFor mX8_turnInThought.1 = true := by decide +kernel
theorem oX8_bit : mOK mX8_bit 1 := ⟨wcX8_bit, wzX8, by decide +kernel⟩
theorem pX8_bit : plainFor mX8_bit.1 = true := by decide +kernel
theorem oX8_wrap : mOK mX8_wrap 2 := ⟨wcX8_wrap, wzX8, by decide +kernel⟩
theorem pX8_wrap : plainFor mX8_wrap.1 = true := by decide +kernel
theorem oX8_greatestCommon : mOK mX8_greatestCommon 2 := ⟨wcX8_greatestCommon, wzX8, by decide +kernel⟩
theorem pX8_greatestCommon : plainFor mX8_greatestCommon.1 = true := by decide +kernel
theorem oX9_init : mOK mX9_init 0 := ⟨wcX9_init, wzX9, by decide +kernel⟩
theorem pX9_init : plainFor mX9_init.1 = true := by decide +kernel
theorem oX9_refused : mOK mX9_refused 1 := ⟨wcX9_refused, wzX9, by decide +kernel⟩
theorem pX9_refused : plainFor mX9_refused.1 = true := by decide +kernel
theorem oX9_in : mOK mX9_in 3 := ⟨wcX9_in, wzX9, by decide +kernel⟩
theorem pX9_in : plainFor mX9_in.1 = true := by decide +kernel
theorem oX9_half : mOK mX9_half 0 := ⟨wcX9_half, wzX9, by decide +kernel⟩
theorem pX9_half : plainFor mX9_half.1 = true := by decide +kernel
theorem oX9_whole : mOK mX9_whole 1 := ⟨wcX9_whole, wzX9, by decide +kernel⟩
theorem pX9_whole : plainFor mX9_whole.1 = true := by decide +kernel
theorem oX9_empties : mOK mX9_empties 0 := ⟨wcX9_empties, wzX9, by decide +kernel⟩
theorem pX9_empties : plainFor mX9_empties.1 = true := by decide +kernel
theorem oX9_lays : mOK mX9_lays 5 := ⟨wcX9_lays, wzX9, by decide +kernel⟩
theorem pX9_lays : plainFor mX9_lays.1 = true := by decide +kernel
theorem oX9_remembers : mOK mX9_remembers 0 := ⟨wcX9_remembers, wzX9, by decide +kernel⟩
theorem pX9_remembers : plainFor mX9_remembers.1 = true := by decide +kernel
theorem oX9_undo : mOK mX9_undo 0 := ⟨wcX9_undo, wzX9, by decide +kernel⟩
theorem pX9_undo : plainFor mX9_undo.1 = true := by decide +kernel
theorem oX9_isSize : mOK mX9_isSize 1 := ⟨wcX9_isSize, wzX9, by decide +kernel⟩
theorem pX9_isSize : plainFor mX9_isSize.1 = true := by decide +kernel
theorem oX9_becomesSize : mOK mX9_becomesSize 1 := ⟨wcX9_becomesSize, wzX9, by decide +kernel⟩
theorem pX9_becomesSize : plainFor mX9_becomesSize.1 = true := by decide +kernel
theorem oX9_size : mOK mX9_size 1 := ⟨wcX9_size, wzX9, by decide +kernel⟩
theorem pX9_size : plainFor mX9_size.1 = true := by decide +kernel
theorem oX9_comes : mOK mX9_comes 3 := ⟨wcX9_comes, wzX9, by decide +kernel⟩
theorem pX9_comes : plainFor mX9_comes.1 = true := by decide +kernel
theorem oX9_pair : mOK mX9_pair 2 := ⟨wcX9_pair, wzX9, by decide +kernel⟩
theorem pX9_pair : plainFor mX9_pair.1 = true := by decide +kernel
theorem oX9_drop : mOK mX9_drop 0 := ⟨wcX9_drop, wzX9, by decide +kernel⟩
theorem pX9_drop : plainFor mX9_drop.1 = true := by decide +kernel
theorem oX9_isPair : mOK mX9_isPair 1 := ⟨wcX9_isPair, wzX9, by decide +kernel⟩
theorem pX9_isPair : plainFor mX9_isPair.1 = true := by decide +kernel
theorem oX9_adder : mOK mX9_adder 2 := ⟨wcX9_adder, wzX9, by decide +kernel⟩
theorem pX9_adder : plainFor mX9_adder.1 = true := by decide +kernel
theorem oX9_sumOf : mOK mX9_sumOf 1 := ⟨wcX9_sumOf, wzX9, by decide +kernel⟩
theorem pX9_sumOf : plainFor mX9_sumOf.1 = true := by decide +kernel
theorem oX9_of : mOK mX9_of 2 := ⟨wcX9_of, wzX9, by decide +kernel⟩
theorem pX9_of : plainFor mX9_of.1 = true := by decide +kernel
theorem oX9_isStarter : mOK mX9_isStarter 5 := ⟨wcX9_isStarter, wzX9, by decide +kernel⟩
theorem pX9_isStarter : plainFor mX9_isStarter.1 = true := by decide +kernel
theorem oX9_isOne : mOK mX9_isOne 0 := ⟨wcX9_isOne, wzX9, by decide +kernel⟩
theorem pX9_isOne : plainFor mX9_isOne.1 = true := by decide +kernel
theorem oX9_areUnlike : mOK mX9_areUnlike 3 := ⟨wcX9_areUnlike, wzX9, by decide +kernel⟩
theorem pX9_areUnlike : plainFor mX9_areUnlike.1 = true := by decide +kernel
theorem oX9_isAdded : mOK mX9_isAdded 0 := ⟨wcX9_isAdded, wzX9, by decide +kernel⟩
theorem pX9_isAdded : plainFor mX9_isAdded.1 = true := by decide +kernel
theorem oX9_is : mOK mX9_is 1 := ⟨wcX9_is, wzX9, by decide +kernel⟩
theorem pX9_is : plainFor mX9_is.1 = true := by decide +kernel
theorem oX9_searches : mOK mX9_searches 3 := ⟨wcX9_searches, wzX9, by decide +kernel⟩
theorem pX9_searches : plainFor mX9_searches.1 = true := by decide +kernel
theorem oX9_findsStarters : mOK mX9_findsStarters 1 := ⟨wcX9_findsStarters, wzX9, by decide +kernel⟩
theorem pX9_findsStarters : plainFor mX9_findsStarters.1 = true := by decide +kernel
theorem oX9_searchesAdders : mOK mX9_searchesAdders 3 := ⟨wcX9_searchesAdders, wzX9, by decide +kernel⟩
theorem pX9_searchesAdders : plainFor mX9_searchesAdders.1 = true := by decide +kernel
theorem oX9_findsAdders : mOK mX9_findsAdders 1 := ⟨wcX9_findsAdders, wzX9, by decide +kernel⟩
theorem pX9_findsAdders : plainFor mX9_findsAdders.1 = true := by decide +kernel
theorem oX9_starters : mOK mX9_starters 2 := ⟨wcX9_starters, wzX9, by decide +kernel⟩
theorem pX9_starters : plainFor mX9_starters.1 = true := by decide +kernel
theorem oX9_strong : mOK mX9_strong 1 := ⟨wcX9_strong, wzX9, by decide +kernel⟩
theorem pX9_strong : plainFor mX9_strong.1 = true := by decide +kernel
theorem oX9_adders : mOK mX9_adders 2 := ⟨wcX9_adders, wzX9, by decide +kernel⟩
theorem pX9_adders : plainFor mX9_adders.1 = true := by decide +kernel
theorem oX9_lowest : mOK mX9_lowest 3 := ⟨wcX9_lowest, wzX9, by decide +kernel⟩
theorem pX9_lowest : plainFor mX9_lowest.1 = true := by decide +kernel
theorem oX9_odds : mOK mX9_odds 1 := ⟨wcX9_odds, wzX9, by decide +kernel⟩
theorem pX9_odds : plainFor mX9_odds.1 = true := by decide +kernel
theorem oX9_book : mOK mX9_book 0 := ⟨wcX9_book, wzX9, by decide +kernel⟩
theorem pX9_book : plainFor mX9_book.1 = true := by decide +kernel
theorem oX9_shift : mOK mX9_shift 1 := ⟨wcX9_shift, wzX9, by decide +kernel⟩
theorem pX9_shift : plainFor mX9_shift.1 = true := by decide +kernel
theorem oX9_right : mOK mX9_right 1 := ⟨wcX9_right, wzX9, by decide +kernel⟩
theorem pX9_right : plainFor mX9_right.1 = true := by decide +kernel
theorem oX9_cellAt : mOK mX9_cellAt 2 := ⟨wcX9_cellAt, wzX9, by decide +kernel⟩
theorem pX9_cellAt : plainFor mX9_cellAt.1 = true := by decide +kernel
theorem oX9_fills : mOK mX9_fills 3 := ⟨wcX9_fills, wzX9, by decide +kernel⟩
theorem pX9_fills : plainFor mX9_fills.1 = true := by decide +kernel
theorem oX9_build : mOK mX9_build 0 := ⟨wcX9_build, wzX9, by decide +kernel⟩
theorem pX9_build : plainFor mX9_build.1 = true := by decide +kernel
theorem oX9_isCell : mOK mX9_isCell 2 := ⟨wcX9_isCell, wzX9, by decide +kernel⟩
theorem pX9_isCell : plainFor mX9_isCell.1 = true := by decide +kernel
theorem oX9_cell : mOK mX9_cell 4 := ⟨wcX9_cell, wzX9, by decide +kernel⟩
theorem pX9_cell : plainFor mX9_cell.1 = true := by decide +kernel
theorem oX9_at : mOK mX9_at 3 := ⟨wcX9_at, wzX9, by decide +kernel⟩
theorem pX9_at : plainFor mX9_at.1 = true := by decide +kernel
theorem oX9_otherThanOne : mOK mX9_otherThanOne 1 := ⟨wcX9_otherThanOne, wzX9, by decide +kernel⟩
theorem pX9_otherThanOne : plainFor mX9_otherThanOne.1 = true := by decide +kernel
theorem oX9_lineFaults : mOK mX9_lineFaults 2 := ⟨wcX9_lineFaults, wzX9, by decide +kernel⟩
theorem pX9_lineFaults : plainFor mX9_lineFaults.1 = true := by decide +kernel
theorem oX9_pairFaults : mOK mX9_pairFaults 0 := ⟨wcX9_pairFaults, wzX9, by decide +kernel⟩
theorem pX9_pairFaults : plainFor mX9_pairFaults.1 = true := by decide +kernel
theorem oX9_faults : mOK mX9_faults 2 := ⟨wcX9_faults, wzX9, by decide +kernel⟩
theorem pX9_faults : plainFor mX9_faults.1 = true := by decide +kernel
theorem oX9_indeed : mOK mX9_indeed 0 := ⟨wcX9_indeed, wzX9, by decide +kernel⟩
theorem pX9_indeed : plainFor mX9_indeed.1 = true := by decide +kernel
theorem oX9_faced : mOK mX9_faced 0 := ⟨wcX9_faced, wzX9, by decide +kernel⟩
theorem pX9_faced : plainFor mX9_faced.1 = true := by decide +kernel
theorem oX9_where : mOK mX9_where 2 := ⟨wcX9_where, wzX9, by decide +kernel⟩
theorem pX9_where : plainFor mX9_where.1 = true := by decide +kernel
theorem oX9_draws : mOK mX9_draws 1 := ⟨wcX9_draws, wzX9, by decide +kernel⟩
theorem pX9_draws : plainFor mX9_draws.1 = true := by decide +kernel
theorem oX9_lots : mOK mX9_lots 3 := ⟨wcX9_lots, wzX9, by decide +kernel⟩
theorem pX9_lots : plainFor mX9_lots.1 = true := by decide +kernel
theorem oX9_turn : mOK mX9_turn 2 := ⟨wcX9_turn, wzX9, by decide +kernel⟩
theorem pX9_turn : plainFor mX9_turn.1 = true := by decide +kernel
theorem oX9_still : mOK mX9_still 0 := ⟨wcX9_still, wzX9, by decide +kernel⟩
theorem pX9_still : plainFor mX9_still.1 = true := by decide +kernel
theorem oX9_turnsBy : mOK mX9_turnsBy 2 := ⟨wcX9_turnsBy, wzX9, by decide +kernel⟩
theorem pX9_turnsBy : plainFor mX9_turnsBy.1 = true := by decide +kernel
theorem oX9_turnsAll : mOK mX9_turnsAll 0 := ⟨wcX9_turnsAll, wzX9, by decide +kernel⟩
theorem pX9_turnsAll : plainFor mX9_turnsAll.1 = true := by decide +kernel
theorem oX9_turned : mOK mX9_turned 2 := ⟨wcX9_turned, wzX9, by decide +kernel⟩
theorem pX9_turned : plainFor mX9_turned.1 = true := by decide +kernel
theorem oX9_turns : mOK mX9_turns 0 := ⟨wcX9_turns, wzX9, by decide +kernel⟩
theorem pX9_turns : plainFor mX9_turns.1 = true := by decide +kernel
theorem oX9_letter : mOK mX9_letter 1 := ⟨wcX9_letter, wzX9, by decide +kernel⟩
theorem pX9_letter : plainFor mX9_letter.1 = true := by decide +kernel
theorem oX9_digitsOf : mOK mX9_digitsOf 1 := ⟨wcX9_digitsOf, wzX9, by decide +kernel⟩
theorem pX9_digitsOf : plainFor mX9_digitsOf.1 = true := by decide +kernel
theorem oX9_wrongPlace : mOK mX9_wrongPlace 0 := ⟨wcX9_wrongPlace, wzX9, by decide +kernel⟩
theorem pX9_wrongPlace : plainFor mX9_wrongPlace.1 = true := by decide +kernel
theorem oX9_numberAt : mOK mX9_numberAt 2 := ⟨wcX9_numberAt, wzX9, by decide +kernel⟩
theorem pX9_numberAt : plainFor mX9_numberAt.1 = true := by decide +kernel
theorem oX9_does : mOK mX9_does 1 := ⟨wcX9_does, wzX9, by decide +kernel⟩
theorem pX9_does : plainFor mX9_does.1 = true := by decide +kernel
theorem oX9_text : mOK mX9_text 0 := ⟨wcX9_text, wzX9, by decide +kernel⟩
theorem pX9_text : plainFor mX9_text.1 = true := by decide +kernel
theorem oX9_isList : mOK mX9_isList 1 := ⟨wcX9_isList, wzX9, by decide +kernel⟩
theorem pX9_isList : plainFor mX9_isList.1 = true := by decide +kernel
theorem oX9_list : mOK mX9_list 2 := ⟨wcX9_list, wzX9, by decide +kernel⟩
theorem pX9_list : plainFor mX9_list.1 = true := by decide +kernel
theorem oX9_put : mOK mX9_put 3 := ⟨wcX9_put, wzX9, by decide +kernel⟩
theorem pX9_put : plainFor mX9_put.1 = true := by decide +kernel
theorem oX9_look : mOK mX9_look 2 := ⟨wcX9_look, wzX9, by decide +kernel⟩
theorem pX9_look : plainFor mX9_look.1 = true := by decide +kernel
theorem oX9_lays_ : mOK mX9_lays_ 2 := ⟨wcX9_lays_, wzX9, by decide +kernel⟩
theorem pX9_lays_ : plainFor mX9_lays_.1 = true := by decide +kernel
theorem oX9_judge : mOK mX9_judge 1 := ⟨wcX9_judge, wzX9, by decide +kernel⟩
theorem pX9_judge : plainFor mX9_judge.1 = true := by decide +kernel
theorem oX9_sizes : mOK mX9_sizes 1 := ⟨wcX9_sizes, wzX9, by decide +kernel⟩
theorem pX9_sizes : plainFor mX9_sizes.1 = true := by decide +kernel
theorem oX9_image : mOK mX9_image 0 := ⟨wcX9_image, wzX9, by decide +kernel⟩
theorem pX9_image : plainFor mX9_image.1 = true := by decide +kernel
theorem oX9_on : mOK mX9_on 0 := ⟨wcX9_on, wzX9, by decide +kernel⟩
theorem pX9_on : plainFor mX9_on.1 = true := by decide +kernel
theorem oX9_filled : mOK mX9_filled 0 := ⟨wcX9_filled, wzX9, by decide +kernel⟩
theorem pX9_filled : plainFor mX9_filled.1 = true := by decide +kernel
theorem oX9_count : mOK mX9_count 1 := ⟨wcX9_count, wzX9, by decide +kernel⟩
theorem pX9_count : plainFor mX9_count.1 = true := by decide +kernel
theorem oJ6_bitCount_0f7a4 : mOK mJ6_bitCount_0f7a4 1 := ⟨wcJ6_bitCount_0f7a4, wzJ6, by decide +kernel⟩
theorem pJ6_bitCount_0f7a4 : plainFor mJ6_bitCount_0f7a4.1 = true := by decide +kernel
theorem oJ9_floorMod_7cf53 : mOK mJ9_floorMod_7cf53 2 := ⟨wcJ9_floorMod_7cf53, wzJ9, by decide +kernel⟩
theorem pJ9_floorMod_7cf53 : plainFor mJ9_floorMod_7cf53.1 = true := by decide +kernel
theorem oJ9_max_7cf53 : mOK mJ9_max_7cf53 2 := ⟨wcJ9_max_7cf53, wzJ9, by decide +kernel⟩
theorem pJ9_max_7cf53 : plainFor mJ9_max_7cf53.1 = true := by decide +kernel
theorem oJ9_min_7cf53 : mOK mJ9_min_7cf53 2 := ⟨wcJ9_min_7cf53, wzJ9, by decide +kernel⟩
theorem pJ9_min_7cf53 : plainFor mJ9_min_7cf53.1 = true := by decide +kernel

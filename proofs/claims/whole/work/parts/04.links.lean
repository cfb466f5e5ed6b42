def mX0_forget : z_MC := (cX0_forget, RX0, 1, none, yX0_forget, 0)
def mX0_remember : z_MC := (cX0_remember, RX0, 2, none, yX0_remember, 1)
def mX0_takeBack : z_MC := (cX0_takeBack, RX0, 2, none, yX0_takeBack, 1)
def mX1_clear : z_MC := (cX1_clear, RX1, 2, none, yX1_clear, 0)
def mX1_burden : z_MC := (cX1_burden, RX1, 3, none, yX1_burden, 0)
def mX1_burdenEnds : z_MC := (cX1_burdenEnds, RX1, 2, none, yX1_burdenEnds, 0)
def mX1_loadOf : z_MC := (cX1_loadOf, RX1, 2, (some .int), yX1_loadOf, 0)
def mX1_ping : z_MC := (cX1_ping, RX1, 6, (some .int), yX1_ping, 3)
def mX1_givingNow : z_MC := (cX1_givingNow, RX1, 4, (some .int), yX1_givingNow, 2)
def mX1_pullAt : z_MC := (cX1_pullAt, RX1, 4, (some .int), yX1_pullAt, 4)
def mX1_passDay : z_MC := (cX1_passDay, RX1, 3, (some .int), yX1_passDay, 4)
def mX1_springShut : z_MC := (cX1_springShut, RX1, 3, none, yX1_springShut, 0)
def mX1_wearDown : z_MC := (cX1_wearDown, RX1, 3, none, yX1_wearDown, 1)
def mX2_begin : z_MC := (cX2_begin, RX2, 2, none, yX2_begin, 0)
def mX2_become : z_MC := (cX2_become, RX2, 3, none, yX2_become, 0)
def mX2_isOpen : z_MC := (cX2_isOpen, RX2, 2, (some .boolean), yX2_isOpen, 0)
def mX2_close : z_MC := (cX2_close, RX2, 2, none, yX2_close, 0)
def mX2_unpin : z_MC := (cX2_unpin, RX2, 2, none, yX2_unpin, 0)
def mX2_wearOfAll : z_MC := (cX2_wearOfAll, RX2, 3, (some .int), yX2_wearOfAll, 0)
def mX3_add : z_MC := (cX3_add, RX3, 2, none, yX3_add, 0)
def mX3_figure : z_MC := (cX3_figure, RX3, 3, (some .int), yX3_figure, 0)
def mX3_sizeOfPart : z_MC := (cX3_sizeOfPart, RX3, 1, (some .int), yX3_sizeOfPart, 0)
def mX3_mostOf : z_MC := (cX3_mostOf, RX3, 1, (some .int), yX3_mostOf, 0)
def mX3_firstFault : z_MC := (cX3_firstFault, RX3, 3, (some .int), yX3_firstFault, 2)
def mX3_canBegin : z_MC := (cX3_canBegin, RX3, 5, (some .boolean), yX3_canBegin, 1)
def mX3_canGoOn : z_MC := (cX3_canGoOn, RX3, 5, (some .boolean), yX3_canGoOn, 1)
def mX4_readFrom : z_MC := (cX4_readFrom, RX4, 4, none, yX4_readFrom, 2)
def mX4_addPin : z_MC := (cX4_addPin, RX4, 3, none, yX4_addPin, 1)
def mX4_allPins : z_MC := (cX4_allPins, RX4, 1, (some .int), yX4_allPins, 0)
def mX4_holds : z_MC := (cX4_holds, RX4, 3, (some .int), yX4_holds, 1)
def mX4_endsOf : z_MC := (cX4_endsOf, RX4, 2, (some .int), yX4_endsOf, 0)
def mX4_reach : z_MC := (cX4_reach, RX4, 6, (some .int), yX4_reach, 1)
def mX4_areTogether : z_MC := (cX4_areTogether, RX4, 4, (some .boolean), yX4_areTogether, 2)
def mX4_pairsTogether : z_MC := (cX4_pairsTogether, RX4, 4, (some .int), yX4_pairsTogether, 2)
def mX4_doable : z_MC := (cX4_doable, RX4, 4, (some .int), yX4_doable, 3)
def mX5_add : z_MC := (cX5_add, RX5, 3, none, yX5_add, 0)
def mX5_agreeWith : z_MC := (cX5_agreeWith, RX5, 5, (some .boolean), yX5_agreeWith, 0)
def mX6_write : z_MC := (cX6_write, RX6, 2, (some .int), yX6_write, 1)
def mX6_wipe : z_MC := (cX6_wipe, RX6, 2, (some .int), yX6_wipe, 0)
def mX6_fault : z_MC := (cX6_fault, RX6, 1, (some .int), yX6_fault, 3)
def mX6_town : z_MC := (cX6_town, RX6, 2, (some .int), yX6_town, 3)
def mX6_pin : z_MC := (cX6_pin, RX6, 3, (some .int), yX6_pin, 2)
def mX6_with : z_MC := (cX6_with, RX6, 2, (some .int), yX6_with, 2)
def mX6_day : z_MC := (cX6_day, RX6, 1, (some .int), yX6_day, 5)
def mX6_tug : z_MC := (cX6_tug, RX6, 3, (some .int), yX6_tug, 5)
def mX6_shut : z_MC := (cX6_shut, RX6, 2, (some .int), yX6_shut, 2)
def mX6_open : z_MC := (cX6_open, RX6, 2, (some .int), yX6_open, 2)
def mX6_undo : z_MC := (cX6_undo, RX6, 1, (some .int), yX6_undo, 2)
def mX6_later : z_MC := (cX6_later, RX6, 3, (some .int), yX6_later, 5)
def mX6_lasts : z_MC := (cX6_lasts, RX6, 3, (some .int), yX6_lasts, 5)
def mX6_chain : z_MC := (cX6_chain, RX6, 2, (some .int), yX6_chain, 4)
def mX6_cuts : z_MC := (cX6_cuts, RX6, 6, (some .int), yX6_cuts, 3)
def mX6_parts : z_MC := (cX6_parts, RX6, 7, (some .int), yX6_parts, 6)
def mX6_letsGo : z_MC := (cX6_letsGo, RX6, 4, (some .int), yX6_letsGo, 4)
def mX6_judge : z_MC := (cX6_judge, RX6, 6, (some .int), yX6_judge, 6)
def mX6_trial : z_MC := (cX6_trial, RX6, 3, (some .int), yX6_trial, 1)
def mX6_untry : z_MC := (cX6_untry, RX6, 2, (some .int), yX6_untry, 0)
def mX6_which : z_MC := (cX6_which, RX6, 5, (some .int), yX6_which, 1)
def mX6_share : z_MC := (cX6_share, RX6, 5, (some .int), yX6_share, 4)
def mX6_rests : z_MC := (cX6_rests, RX6, 9, (some .int), yX6_rests, 5)
def mX6_gives : z_MC := (cX6_gives, RX6, 13, (some .int), yX6_gives, 3)
def mX6_seed : z_MC := (cX6_seed, RX6, 5, (some .long), yX6_seed, 0)
def mX6_seasons : z_MC := (cX6_seasons, RX6, 4, (some .int), yX6_seasons, 6)
def mX6_keep : z_MC := (cX6_keep, RX6, 2, (some .int), yX6_keep, 1)
def mX6_again : z_MC := (cX6_again, RX6, 2, (some .int), yX6_again, 1)
def mX6_count : z_MC := (cX6_count, RX6, 2, (some .int), yX6_count, 4)
def mX6_isThing : z_MC := (cX6_isThing, RX6, 1, (some .boolean), yX6_isThing, 0)
def mX6_isPin : z_MC := (cX6_isPin, RX6, 2, (some .boolean), yX6_isPin, 0)
def mX6_refusalOfTwo : z_MC := (cX6_refusalOfTwo, RX6, 2, (some .int), yX6_refusalOfTwo, 1)
def mX6_isBetterCut : z_MC := (cX6_isBetterCut, RX6, 4, (some .boolean), yX6_isBetterCut, 1)
def mX6_firstThatParts : z_MC := (cX6_firstThatParts, RX6, 5, (some .int), yX6_firstThatParts, 5)
def mX6_comesTrue : z_MC := (cX6_comesTrue, RX6, 4, (some .boolean), yX6_comesTrue, 5)
def mX6_closesInThought : z_MC := (cX6_closesInThought, RX6, 2, (some .boolean), yX6_closesInThought, 1)
def mX6_unpinsInThought : z_MC := (cX6_unpinsInThought, RX6, 2, (some .boolean), yX6_unpinsInThought, 1)
def mX6_passSeason : z_MC := (cX6_passSeason, RX6, 2, none, yX6_passSeason, 5)
def mX6_pairsBroughtInAllOrders : z_MC := (cX6_pairsBroughtInAllOrders, RX6, 11, (some .long), yX6_pairsBroughtInAllOrders, 3)
def mX6_reckonGains : z_MC := (cX6_reckonGains, RX6, 6, none, yX6_reckonGains, 4)
def mX6_priceOfBeingAlone : z_MC := (cX6_priceOfBeingAlone, RX6, 2, (some .int), yX6_priceOfBeingAlone, 2)
def mX6_isAtRest : z_MC := (cX6_isAtRest, RX6, 5, (some .boolean), yX6_isAtRest, 0)
def mX6_power : z_MC := (cX6_power, RX6, 5, (some .long), yX6_power, 0)
def mX6_inLeastTerms : z_MC := (cX6_inLeastTerms, RX6, 7, (some .int), yX6_inLeastTerms, 2)
def mX6_commonDivisor : z_MC := (cX6_commonDivisor, RX6, 11, (some .long), yX6_commonDivisor, 1)
def mX7_in : z_MC := (cX7_in, RX7, 6, (some .boolean), yX7_in, 0)
def mX7_has : z_MC := (cX7_has, RX7, 2, (some .boolean), yX7_has, 0)
def mX7_ones : z_MC := (cX7_ones, RX7, 3, (some .int), yX7_ones, 0)
def mX7_write : z_MC := (cX7_write, RX7, 2, (some .int), yX7_write, 1)
def mX7_wipe : z_MC := (cX7_wipe, RX7, 2, (some .int), yX7_wipe, 0)
def mX7_figureOf : z_MC := (cX7_figureOf, RX7, 5, (some .int), yX7_figureOf, 1)
def mX7_readText : z_MC := (cX7_readText, RX7, 1, (some .int), yX7_readText, 3)
def mX7_readPart : z_MC := (cX7_readPart, RX7, 3, none, yX7_readPart, 2)
def mX7_fault : z_MC := (cX7_fault, RX7, 1, (some .int), yX7_fault, 4)
def mX7_town : z_MC := (cX7_town, RX7, 2, (some .int), yX7_town, 4)
def mX7_isPin : z_MC := (cX7_isPin, RX7, 2, (some .boolean), yX7_isPin, 1)
def mX7_isThing : z_MC := (cX7_isThing, RX7, 1, (some .boolean), yX7_isThing, 1)
def mX7_all : z_MC := (cX7_all, RX7, 1, (some .int), yX7_all, 0)
def mX7_withBy : z_MC := (cX7_withBy, RX7, 7, (some .int), yX7_withBy, 1)
def mX7_isTogether : z_MC := (cX7_isTogether, RX7, 4, (some .boolean), yX7_isTogether, 2)
def mX7_pairsBy : z_MC := (cX7_pairsBy, RX7, 5, (some .int), yX7_pairsBy, 3)
def mX7_doableBy : z_MC := (cX7_doableBy, RX7, 4, (some .int), yX7_doableBy, 3)
def mX7_unload : z_MC := (cX7_unload, RX7, 2, none, yX7_unload, 0)
def mX7_holdsOn : z_MC := (cX7_holdsOn, RX7, 4, (some .int), yX7_holdsOn, 0)
def mX7_onBoth : z_MC := (cX7_onBoth, RX7, 2, (some .int), yX7_onBoth, 0)
def mX7_ping : z_MC := (cX7_ping, RX7, 5, (some .int), yX7_ping, 1)
def mX7_tugOn : z_MC := (cX7_tugOn, RX7, 4, (some .int), yX7_tugOn, 2)
def mX7_passOn : z_MC := (cX7_passOn, RX7, 5, (some .int), yX7_passOn, 2)
def mX7_shutOn : z_MC := (cX7_shutOn, RX7, 3, none, yX7_shutOn, 0)
def mX7_pin : z_MC := (cX7_pin, RX7, 3, (some .int), yX7_pin, 2)
def mX7_with : z_MC := (cX7_with, RX7, 2, (some .int), yX7_with, 2)
def mX7_keepAct : z_MC := (cX7_keepAct, RX7, 2, none, yX7_keepAct, 0)
def mX7_day : z_MC := (cX7_day, RX7, 1, (some .int), yX7_day, 3)
def mX7_tug : z_MC := (cX7_tug, RX7, 3, (some .int), yX7_tug, 3)
def mX7_shut : z_MC := (cX7_shut, RX7, 2, (some .int), yX7_shut, 2)
def mX7_open : z_MC := (cX7_open, RX7, 2, (some .int), yX7_open, 2)
def mX7_undo : z_MC := (cX7_undo, RX7, 2, (some .int), yX7_undo, 0)
def mX7_layTrial : z_MC := (cX7_layTrial, RX7, 2, none, yX7_layTrial, 0)
def mX7_later : z_MC := (cX7_later, RX7, 3, (some .int), yX7_later, 3)
def mX7_lasts : z_MC := (cX7_lasts, RX7, 3, (some .int), yX7_lasts, 3)
def mX7_chain : z_MC := (cX7_chain, RX7, 2, (some .int), yX7_chain, 2)
def mX7_cuts : z_MC := (cX7_cuts, RX7, 6, (some .int), yX7_cuts, 3)
def mX7_parts : z_MC := (cX7_parts, RX7, 6, (some .int), yX7_parts, 3)
def mX7_letsGo : z_MC := (cX7_letsGo, RX7, 5, (some .int), yX7_letsGo, 4)
def mX7_tryThing : z_MC := (cX7_tryThing, RX7, 7, (some .boolean), yX7_tryThing, 4)
def mX7_thousandTo : z_MC := (cX7_thousandTo, RX7, 4, (some .long), yX7_thousandTo, 0)
def mX7_judge : z_MC := (cX7_judge, RX7, 6, (some .int), yX7_judge, 5)
def mX7_trial : z_MC := (cX7_trial, RX7, 3, (some .int), yX7_trial, 1)
def mX7_untry : z_MC := (cX7_untry, RX7, 2, (some .int), yX7_untry, 0)
def mX7_which : z_MC := (cX7_which, RX7, 8, (some .int), yX7_which, 1)
def mX7_factorial : z_MC := (cX7_factorial, RX7, 3, (some .int), yX7_factorial, 0)
def mX7_common : z_MC := (cX7_common, RX7, 5, (some .int), yX7_common, 0)
def mX7_share : z_MC := (cX7_share, RX7, 7, (some .int), yX7_share, 4)
def mX7_gain : z_MC := (cX7_gain, RX7, 6, (some .int), yX7_gain, 2)
def mX7_isRest : z_MC := (cX7_isRest, RX7, 7, (some .boolean), yX7_isRest, 3)
def mX7_rests : z_MC := (cX7_rests, RX7, 7, (some .int), yX7_rests, 4)
def mX7_power : z_MC := (cX7_power, RX7, 4, (some .int), yX7_power, 0)
def mX7_gives : z_MC := (cX7_gives, RX7, 10, (some .int), yX7_gives, 3)
def mX7_seed : z_MC := (cX7_seed, RX7, 5, (some .long), yX7_seed, 0)
def mX7_seasons : z_MC := (cX7_seasons, RX7, 5, (some .int), yX7_seasons, 5)
def mX7_keep : z_MC := (cX7_keep, RX7, 3, (some .int), yX7_keep, 1)
def mX7_again : z_MC := (cX7_again, RX7, 3, (some .int), yX7_again, 1)
def mX7_wearOfAll : z_MC := (cX7_wearOfAll, RX7, 3, (some .int), yX7_wearOfAll, 0)
def mX7_count : z_MC := (cX7_count, RX7, 2, (some .int), yX7_count, 4)
def mJ6_bitCount_0f7a4 : z_MC := (cJ6_bitCount_0f7a4, RJ6, 1, (some .int), yJ6_bitCount_0f7a4, 0)
def mJ9_floorMod_7cf53 : z_MC := (cJ9_floorMod_7cf53, RJ9, 3, (some .int), yJ9_floorMod_7cf53, 0)
def mJ9_max_7cf53 : z_MC := (cJ9_max_7cf53, RJ9, 2, (some .int), yJ9_max_7cf53, 0)
def mJ9_max_f86c9 : z_MC := (cJ9_max_f86c9, RJ9, 4, (some .long), yJ9_max_f86c9, 0)
def mJ9_min_7cf53 : z_MC := (cJ9_min_7cf53, RJ9, 2, (some .int), yJ9_min_7cf53, 0)
theorem q_fX6_10 : z_FL RX6 10 6 0 := ⟨RX6, TX6, 12, rfl, by decide, z_in 163 (by decide +kernel)⟩
theorem q_fX6_19 : z_FL RX6 19 6 1 := ⟨RX6, TX6, 12, rfl, by decide, z_in 164 (by decide +kernel)⟩
theorem q_fX6_28 : z_FL RX6 28 6 2 := ⟨RX6, TX6, 12, rfl, by decide, z_in 165 (by decide +kernel)⟩
theorem q_fX6_35 : z_FL RX6 35 6 3 := ⟨RX6, TX6, 12, rfl, by decide, z_in 166 (by decide +kernel)⟩
theorem q_fX6_39 : z_FL RX6 39 6 4 := ⟨RX6, TX6, 12, rfl, by decide, z_in 167 (by decide +kernel)⟩
theorem q_fX6_45 : z_FL RX6 45 6 5 := ⟨RX6, TX6, 12, rfl, by decide, z_in 168 (by decide +kernel)⟩
theorem q_fX6_49 : z_FL RX6 49 6 6 := ⟨RX6, TX6, 12, rfl, by decide, z_in 169 (by decide +kernel)⟩
theorem q_fX6_53 : z_FL RX6 53 6 7 := ⟨RX6, TX6, 12, rfl, by decide, z_in 170 (by decide +kernel)⟩
theorem q_fX6_60 : z_FL RX6 60 6 8 := ⟨RX6, TX6, 12, rfl, by decide, z_in 171 (by decide +kernel)⟩
theorem q_fX6_64 : z_FL RX6 64 6 9 := ⟨RX6, TX6, 12, rfl, by decide, z_in 172 (by decide +kernel)⟩
theorem q_fX6_68 : z_FL RX6 68 6 10 := ⟨RX6, TX6, 12, rfl, by decide, z_in 173 (by decide +kernel)⟩
theorem q_fX6_71 : z_FL RX6 71 6 11 := ⟨RX6, TX6, 12, rfl, by decide, z_in 174 (by decide +kernel)⟩
theorem q_fX6_75 : z_FL RX6 75 3 1 := ⟨RX3, TX3, 2, rfl, by decide, z_in 28 (by decide +kernel)⟩
theorem q_fX6_97 : z_FL RX6 97 4 0 := ⟨RX4, TX4, 11, rfl, by decide, z_in 43 (by decide +kernel)⟩
theorem q_fX6_100 : z_FL RX6 100 4 5 := ⟨RX4, TX4, 11, rfl, by decide, z_in 57 (by decide +kernel)⟩
theorem q_fX6_103 : z_FL RX6 103 4 8 := ⟨RX4, TX4, 11, rfl, by decide, z_in 64 (by decide +kernel)⟩
theorem q_fX6_110 : z_FL RX6 110 4 1 := ⟨RX4, TX4, 11, rfl, by decide, z_in 47 (by decide +kernel)⟩
theorem q_fX6_113 : z_FL RX6 113 4 2 := ⟨RX4, TX4, 11, rfl, by decide, z_in 50 (by decide +kernel)⟩
theorem q_fX6_116 : z_FL RX6 116 4 3 := ⟨RX4, TX4, 11, rfl, by decide, z_in 52 (by decide +kernel)⟩
theorem q_fX6_119 : z_FL RX6 119 4 4 := ⟨RX4, TX4, 11, rfl, by decide, z_in 54 (by decide +kernel)⟩
theorem q_fX6_122 : z_FL RX6 122 2 1 := ⟨RX2, TX2, 3, rfl, by decide, z_in 113 (by decide +kernel)⟩
theorem q_fX6_135 : z_FL RX6 135 2 0 := ⟨RX2, TX2, 3, rfl, by decide, z_in 111 (by decide +kernel)⟩
theorem q_fX6_165 : z_FL RX6 165 0 2 := ⟨RX0, TX0, 3, rfl, by decide, z_in 137 (by decide +kernel)⟩
theorem q_fX6_211 : z_FL RX6 211 5 2 := ⟨RX5, TX5, 3, rfl, by decide, z_in 154 (by decide +kernel)⟩
theorem q_fX6_247 : z_FL RX6 247 2 2 := ⟨RX2, TX2, 3, rfl, by decide, z_in 117 (by decide +kernel)⟩
theorem q_fX0_11 : z_FL RX0 11 0 0 := ⟨RX0, TX0, 3, rfl, by decide, z_in 134 (by decide +kernel)⟩
theorem q_fX0_17 : z_FL RX0 17 0 1 := ⟨RX0, TX0, 3, rfl, by decide, z_in 135 (by decide +kernel)⟩
theorem q_fX0_21 : z_FL RX0 21 0 2 := ⟨RX0, TX0, 3, rfl, by decide, z_in 136 (by decide +kernel)⟩
theorem q_fX1_9 : z_FL RX1 9 1 1 := ⟨RX1, TX1, 2, rfl, by decide, z_in 97 (by decide +kernel)⟩
theorem q_fX1_15 : z_FL RX1 15 1 0 := ⟨RX1, TX1, 2, rfl, by decide, z_in 96 (by decide +kernel)⟩
theorem q_fX1_19 : z_FL RX1 19 4 1 := ⟨RX4, TX4, 11, rfl, by decide, z_in 46 (by decide +kernel)⟩
theorem q_fX1_24 : z_FL RX1 24 4 2 := ⟨RX4, TX4, 11, rfl, by decide, z_in 49 (by decide +kernel)⟩
theorem q_fX1_27 : z_FL RX1 27 2 0 := ⟨RX2, TX2, 3, rfl, by decide, z_in 110 (by decide +kernel)⟩
theorem q_fX1_39 : z_FL RX1 39 4 0 := ⟨RX4, TX4, 11, rfl, by decide, z_in 44 (by decide +kernel)⟩
theorem q_fX1_57 : z_FL RX1 57 2 1 := ⟨RX2, TX2, 3, rfl, by decide, z_in 114 (by decide +kernel)⟩
theorem q_fX1_78 : z_FL RX1 78 4 5 := ⟨RX4, TX4, 11, rfl, by decide, z_in 58 (by decide +kernel)⟩
theorem q_fX1_81 : z_FL RX1 81 2 2 := ⟨RX2, TX2, 3, rfl, by decide, z_in 116 (by decide +kernel)⟩
theorem q_fX1_89 : z_FL RX1 89 4 6 := ⟨RX4, TX4, 11, rfl, by decide, z_in 60 (by decide +kernel)⟩
theorem q_fX1_92 : z_FL RX1 92 4 7 := ⟨RX4, TX4, 11, rfl, by decide, z_in 62 (by decide +kernel)⟩
theorem q_fX1_98 : z_FL RX1 98 4 4 := ⟨RX4, TX4, 11, rfl, by decide, z_in 55 (by decide +kernel)⟩
theorem q_fX2_9 : z_FL RX2 9 2 0 := ⟨RX2, TX2, 3, rfl, by decide, z_in 109 (by decide +kernel)⟩
theorem q_fX2_15 : z_FL RX2 15 2 1 := ⟨RX2, TX2, 3, rfl, by decide, z_in 112 (by decide +kernel)⟩
theorem q_fX2_19 : z_FL RX2 19 2 2 := ⟨RX2, TX2, 3, rfl, by decide, z_in 115 (by decide +kernel)⟩
theorem q_fX3_9 : z_FL RX3 9 3 0 := ⟨RX3, TX3, 2, rfl, by decide, z_in 25 (by decide +kernel)⟩
theorem q_fX3_15 : z_FL RX3 15 3 1 := ⟨RX3, TX3, 2, rfl, by decide, z_in 27 (by decide +kernel)⟩
theorem q_fX4_9 : z_FL RX4 9 4 0 := ⟨RX4, TX4, 11, rfl, by decide, z_in 42 (by decide +kernel)⟩
theorem q_fX4_15 : z_FL RX4 15 4 1 := ⟨RX4, TX4, 11, rfl, by decide, z_in 45 (by decide +kernel)⟩
theorem q_fX4_19 : z_FL RX4 19 4 2 := ⟨RX4, TX4, 11, rfl, by decide, z_in 48 (by decide +kernel)⟩
theorem q_fX4_22 : z_FL RX4 22 4 3 := ⟨RX4, TX4, 11, rfl, by decide, z_in 51 (by decide +kernel)⟩
theorem q_fX4_25 : z_FL RX4 25 4 4 := ⟨RX4, TX4, 11, rfl, by decide, z_in 53 (by decide +kernel)⟩
theorem q_fX4_28 : z_FL RX4 28 4 5 := ⟨RX4, TX4, 11, rfl, by decide, z_in 56 (by decide +kernel)⟩
theorem q_fX4_31 : z_FL RX4 31 4 6 := ⟨RX4, TX4, 11, rfl, by decide, z_in 59 (by decide +kernel)⟩
theorem q_fX4_34 : z_FL RX4 34 4 7 := ⟨RX4, TX4, 11, rfl, by decide, z_in 61 (by decide +kernel)⟩
theorem q_fX4_37 : z_FL RX4 37 4 8 := ⟨RX4, TX4, 11, rfl, by decide, z_in 63 (by decide +kernel)⟩
theorem q_fX4_40 : z_FL RX4 40 4 9 := ⟨RX4, TX4, 11, rfl, by decide, z_in 65 (by decide +kernel)⟩
theorem q_fX4_43 : z_FL RX4 43 4 10 := ⟨RX4, TX4, 11, rfl, by decide, z_in 66 (by decide +kernel)⟩
theorem q_fX4_46 : z_FL RX4 46 3 1 := ⟨RX3, TX3, 2, rfl, by decide, z_in 29 (by decide +kernel)⟩
theorem q_fX4_51 : z_FL RX4 51 3 0 := ⟨RX3, TX3, 2, rfl, by decide, z_in 26 (by decide +kernel)⟩
theorem q_fX5_9 : z_FL RX5 9 5 0 := ⟨RX5, TX5, 3, rfl, by decide, z_in 151 (by decide +kernel)⟩
theorem q_fX5_15 : z_FL RX5 15 5 1 := ⟨RX5, TX5, 3, rfl, by decide, z_in 152 (by decide +kernel)⟩
theorem q_fX5_19 : z_FL RX5 19 5 2 := ⟨RX5, TX5, 3, rfl, by decide, z_in 153 (by decide +kernel)⟩
theorem q_fX7_7 : z_FL RX7 7 7 3 := ⟨RX7, TX7, 32, rfl, by decide, z_in 567 (by decide +kernel)⟩
theorem q_fX7_13 : z_FL RX7 13 7 4 := ⟨RX7, TX7, 32, rfl, by decide, z_in 568 (by decide +kernel)⟩
theorem q_fX7_16 : z_FL RX7 16 7 5 := ⟨RX7, TX7, 32, rfl, by decide, z_in 569 (by decide +kernel)⟩
theorem q_fX7_19 : z_FL RX7 19 7 6 := ⟨RX7, TX7, 32, rfl, by decide, z_in 570 (by decide +kernel)⟩
theorem q_fX7_22 : z_FL RX7 22 7 7 := ⟨RX7, TX7, 32, rfl, by decide, z_in 571 (by decide +kernel)⟩
theorem q_fX7_25 : z_FL RX7 25 7 8 := ⟨RX7, TX7, 32, rfl, by decide, z_in 572 (by decide +kernel)⟩
theorem q_fX7_28 : z_FL RX7 28 7 9 := ⟨RX7, TX7, 32, rfl, by decide, z_in 573 (by decide +kernel)⟩
theorem q_fX7_31 : z_FL RX7 31 7 10 := ⟨RX7, TX7, 32, rfl, by decide, z_in 574 (by decide +kernel)⟩
theorem q_fX7_34 : z_FL RX7 34 7 11 := ⟨RX7, TX7, 32, rfl, by decide, z_in 575 (by decide +kernel)⟩
theorem q_fX7_37 : z_FL RX7 37 7 12 := ⟨RX7, TX7, 32, rfl, by decide, z_in 576 (by decide +kernel)⟩
theorem q_fX7_40 : z_FL RX7 40 7 13 := ⟨RX7, TX7, 32, rfl, by decide, z_in 577 (by decide +kernel)⟩
theorem q_fX7_43 : z_FL RX7 43 7 14 := ⟨RX7, TX7, 32, rfl, by decide, z_in 578 (by decide +kernel)⟩
theorem q_fX7_46 : z_FL RX7 46 7 18 := ⟨RX7, TX7, 32, rfl, by decide, z_in 582 (by decide +kernel)⟩
theorem q_fX7_49 : z_FL RX7 49 7 22 := ⟨RX7, TX7, 32, rfl, by decide, z_in 586 (by decide +kernel)⟩
theorem q_fX7_52 : z_FL RX7 52 7 25 := ⟨RX7, TX7, 32, rfl, by decide, z_in 589 (by decide +kernel)⟩
theorem q_fX7_55 : z_FL RX7 55 7 27 := ⟨RX7, TX7, 32, rfl, by decide, z_in 591 (by decide +kernel)⟩
theorem q_fX7_58 : z_FL RX7 58 7 28 := ⟨RX7, TX7, 32, rfl, by decide, z_in 592 (by decide +kernel)⟩
theorem q_fX7_61 : z_FL RX7 61 7 30 := ⟨RX7, TX7, 32, rfl, by decide, z_in 594 (by decide +kernel)⟩
theorem q_fX7_65 : z_FL RX7 65 7 31 := ⟨RX7, TX7, 32, rfl, by decide, z_in 595 (by decide +kernel)⟩
theorem q_fX7_74 : z_FL RX7 74 7 19 := ⟨RX7, TX7, 32, rfl, by decide, z_in 583 (by decide +kernel)⟩
theorem q_fX7_78 : z_FL RX7 78 7 21 := ⟨RX7, TX7, 32, rfl, by decide, z_in 585 (by decide +kernel)⟩
theorem q_fX7_81 : z_FL RX7 81 7 20 := ⟨RX7, TX7, 32, rfl, by decide, z_in 584 (by decide +kernel)⟩
theorem q_fX7_84 : z_FL RX7 84 7 15 := ⟨RX7, TX7, 32, rfl, by decide, z_in 579 (by decide +kernel)⟩
theorem q_fX7_87 : z_FL RX7 87 7 16 := ⟨RX7, TX7, 32, rfl, by decide, z_in 580 (by decide +kernel)⟩
theorem q_fX7_90 : z_FL RX7 90 7 17 := ⟨RX7, TX7, 32, rfl, by decide, z_in 581 (by decide +kernel)⟩
theorem q_fX7_105 : z_FL RX7 105 7 0 := ⟨RX7, TX7, 32, rfl, by decide, z_in 564 (by decide +kernel)⟩
theorem q_fX7_108 : z_FL RX7 108 7 1 := ⟨RX7, TX7, 32, rfl, by decide, z_in 565 (by decide +kernel)⟩
theorem q_fX7_111 : z_FL RX7 111 7 2 := ⟨RX7, TX7, 32, rfl, by decide, z_in 566 (by decide +kernel)⟩
theorem q_fX7_114 : z_FL RX7 114 7 23 := ⟨RX7, TX7, 32, rfl, by decide, z_in 587 (by decide +kernel)⟩
theorem q_fX7_153 : z_FL RX7 153 7 24 := ⟨RX7, TX7, 32, rfl, by decide, z_in 588 (by decide +kernel)⟩
theorem q_fX7_196 : z_FL RX7 196 7 26 := ⟨RX7, TX7, 32, rfl, by decide, z_in 590 (by decide +kernel)⟩
theorem q_fX7_221 : z_FL RX7 221 7 29 := ⟨RX7, TX7, 32, rfl, by decide, z_in 593 (by decide +kernel)⟩
theorem q_p0_1 : z_FP 0 1 "I" = true := by decide +kernel
theorem q_p0_2 : z_FP 0 2 "I" = true := by decide +kernel
theorem q_p2_0 : z_FP 2 0 "I" = true := by decide +kernel
theorem q_p2_2 : z_FP 2 2 "I" = true := by decide +kernel
theorem q_p3_1 : z_FP 3 1 "I" = true := by decide +kernel
theorem q_p4_0 : z_FP 4 0 "I" = true := by decide +kernel
theorem q_p4_5 : z_FP 4 5 "I" = true := by decide +kernel
theorem q_p4_8 : z_FP 4 8 "I" = true := by decide +kernel
theorem q_p5_2 : z_FP 5 2 "I" = true := by decide +kernel
theorem q_p6_11 : z_FP 6 11 "J" = true := by decide +kernel
theorem q_p7_0 : z_FP 7 0 "I" = true := by decide +kernel
theorem q_p7_1 : z_FP 7 1 "I" = true := by decide +kernel
theorem q_p7_2 : z_FP 7 2 "I" = true := by decide +kernel
theorem q_p7_15 : z_FP 7 15 "I" = true := by decide +kernel
theorem q_p7_16 : z_FP 7 16 "I" = true := by decide +kernel
theorem q_p7_17 : z_FP 7 17 "I" = true := by decide +kernel
theorem q_p7_19 : z_FP 7 19 "I" = true := by decide +kernel
theorem q_p7_20 : z_FP 7 20 "I" = true := by decide +kernel
theorem q_p7_21 : z_FP 7 21 "I" = true := by decide +kernel
theorem q_p7_23 : z_FP 7 23 "I" = true := by decide +kernel
theorem q_p7_24 : z_FP 7 24 "I" = true := by decide +kernel
theorem q_p7_26 : z_FP 7 26 "I" = true := by decide +kernel
theorem q_p7_29 : z_FP 7 29 "J" = true := by decide +kernel
theorem q_sX6_202 : Cond.fieldLink RX6 202 "SafetyPins" "THOUSANDS" "[J" ∈ z_tb := z_in 445 (by decide +kernel)
theorem q_sX6_226 : Cond.fieldLink RX6 226 "SafetyPins" "FACTORIALS" "[I" ∈ z_tb := z_in 497 (by decide +kernel)
theorem q_cX6_79 (lv : Nat) (h : 1 ≤ lv) : z_CV RX6 lv 79 mX3_add RX3 1 := ⟨⟨z_in 204 (by decide +kernel), z_in 205 (by decide +kernel), z_in 206 (by decide +kernel), z_in 2 (by decide +kernel), z_in 207 (by decide +kernel)⟩, ⟨rfl, by decide +kernel, by decide +kernel, by decide +kernel⟩, ⟨h, by show 8 + (2 + 11) + 36 * 0 ≤ 36 * lv; omega⟩⟩
theorem q_cX6_83 (lv : Nat) (h : 3 ≤ lv) : z_CV RX6 lv 83 mX3_firstFault RX3 0 := ⟨⟨z_in 216 (by decide +kernel), z_in 217 (by decide +kernel), z_in 218 (by decide +kernel), z_in 2 (by decide +kernel), z_in 219 (by decide +kernel)⟩, ⟨rfl, by decide +kernel, by decide +kernel, by decide +kernel⟩, ⟨h, by show 8 + (3 + 11) + 36 * 2 ≤ 36 * lv; omega⟩⟩
theorem q_cX6_87 (lv : Nat) (h : 3 ≤ lv) : z_CV RX6 lv 87 mX4_readFrom RX4 1 := ⟨⟨z_in 242 (by decide +kernel), z_in 243 (by decide +kernel), z_in 244 (by decide +kernel), z_in 3 (by decide +kernel), z_in 245 (by decide +kernel)⟩, ⟨rfl, by decide +kernel, by decide +kernel, by decide +kernel⟩, ⟨h, by show 8 + (4 + 11) + 36 * 2 ≤ 36 * lv; omega⟩⟩
theorem q_cX6_91 (lv : Nat) (h : 1 ≤ lv) : z_CV RX6 lv 91 mX2_begin RX2 0 := ⟨⟨z_in 251 (by decide +kernel), z_in 252 (by decide +kernel), z_in 253 (by decide +kernel), z_in 5 (by decide +kernel), z_in 254 (by decide +kernel)⟩, ⟨rfl, by decide +kernel, by decide +kernel, by decide +kernel⟩, ⟨h, by show 8 + (2 + 11) + 36 * 0 ≤ 36 * lv; omega⟩⟩
theorem q_cX6_94 (lv : Nat) (h : 1 ≤ lv) : z_CV RX6 lv 94 mX0_forget RX0 0 := ⟨⟨z_in 255 (by decide +kernel), z_in 256 (by decide +kernel), z_in 257 (by decide +kernel), z_in 6 (by decide +kernel), z_in 258 (by decide +kernel)⟩, ⟨rfl, by decide +kernel, by decide +kernel, by decide +kernel⟩, ⟨h, by show 8 + (1 + 11) + 36 * 0 ≤ 36 * lv; omega⟩⟩
theorem q_cX6_106 (lv : Nat) (h : 1 ≤ lv) : z_CV RX6 lv 106 mX6_isPin RX6 1 := ⟨⟨z_in 263 (by decide +kernel), z_in 265 (by decide +kernel), z_inp 3 (q := (yX6_isPin, 12)) (by decide +kernel), z_in 1 (by decide +kernel), z_in 266 (by decide +kernel)⟩, ⟨rfl, by decide +kernel, by decide +kernel, by decide +kernel⟩, ⟨h, by show 8 + (2 + 11) + 36 * 0 ≤ 36 * lv; omega⟩⟩
theorem q_cX6_125 (lv : Nat) (h : 2 ≤ lv) : z_CV RX6 lv 125 mX4_holds RX4 2 := ⟨⟨z_in 267 (by decide +kernel), z_in 268 (by decide +kernel), z_in 269 (by decide +kernel), z_in 3 (by decide +kernel), z_in 270 (by decide +kernel)⟩, ⟨rfl, by decide +kernel, by decide +kernel, by decide +kernel⟩, ⟨h, by show 8 + (3 + 11) + 36 * 1 ≤ 36 * lv; omega⟩⟩
theorem q_cX6_129 (lv : Nat) (h : 1 ≤ lv) : z_CV RX6 lv 129 mX2_isOpen RX2 1 := ⟨⟨z_in 274 (by decide +kernel), z_in 275 (by decide +kernel), z_in 276 (by decide +kernel), z_in 5 (by decide +kernel), z_in 277 (by decide +kernel)⟩, ⟨rfl, by decide +kernel, by decide +kernel, by decide +kernel⟩, ⟨h, by show 8 + (2 + 11) + 36 * 0 ≤ 36 * lv; omega⟩⟩
theorem q_cX6_132 (lv : Nat) (h : 1 ≤ lv) : z_CS RX6 lv 132 mX6_isThing 1 := ⟨⟨z_in 282 (by decide +kernel), z_in 283 (by decide +kernel), z_in 1 (by decide +kernel), z_in 284 (by decide +kernel)⟩, ⟨by decide +kernel, by decide +kernel, by decide +kernel⟩, ⟨h, by show 8 + (1 + 11) + 36 * 0 ≤ 36 * lv; omega⟩⟩
theorem q_cX6_138 (lv : Nat) (h : 2 ≤ lv) : z_CV RX6 lv 138 mX4_reach RX4 2 := ⟨⟨z_in 285 (by decide +kernel), z_in 286 (by decide +kernel), z_in 287 (by decide +kernel), z_in 3 (by decide +kernel), z_in 288 (by decide +kernel)⟩, ⟨rfl, by decide +kernel, by decide +kernel, by decide +kernel⟩, ⟨h, by show 8 + (6 + 11) + 36 * 1 ≤ 36 * lv; omega⟩⟩
theorem q_cX6_141 (lv : Nat) (h : 2 ≤ lv) : z_CV RX6 lv 141 mX0_remember RX0 1 := ⟨⟨z_in 297 (by decide +kernel), z_in 298 (by decide +kernel), z_in 299 (by decide +kernel), z_in 6 (by decide +kernel), z_in 300 (by decide +kernel)⟩, ⟨rfl, by decide +kernel, by decide +kernel, by decide +kernel⟩, ⟨h, by show 8 + (2 + 11) + 36 * 1 ≤ 36 * lv; omega⟩⟩
theorem q_cX6_145 (lv : Nat) (h : 5 ≤ lv) : z_CV RX6 lv 145 mX1_passDay RX1 1 := ⟨⟨z_in 308 (by decide +kernel), z_in 309 (by decide +kernel), z_in 310 (by decide +kernel), z_in 4 (by decide +kernel), z_in 311 (by decide +kernel)⟩, ⟨rfl, by decide +kernel, by decide +kernel, by decide +kernel⟩, ⟨h, by show 8 + (3 + 11) + 36 * 4 ≤ 36 * lv; omega⟩⟩
theorem q_cX6_149 (lv : Nat) (h : 5 ≤ lv) : z_CV RX6 lv 149 mX1_pullAt RX1 3 := ⟨⟨z_in 359 (by decide +kernel), z_in 360 (by decide +kernel), z_in 361 (by decide +kernel), z_in 4 (by decide +kernel), z_in 362 (by decide +kernel)⟩, ⟨rfl, by decide +kernel, by decide +kernel, by decide +kernel⟩, ⟨h, by show 8 + (4 + 11) + 36 * 4 ≤ 36 * lv; omega⟩⟩
theorem q_cX6_153 (lv : Nat) (h : 1 ≤ lv) : z_CV RX6 lv 153 mX2_close RX2 1 := ⟨⟨z_in 367 (by decide +kernel), z_in 368 (by decide +kernel), z_in 369 (by decide +kernel), z_in 5 (by decide +kernel), z_in 370 (by decide +kernel)⟩, ⟨rfl, by decide +kernel, by decide +kernel, by decide +kernel⟩, ⟨h, by show 8 + (2 + 11) + 36 * 0 ≤ 36 * lv; omega⟩⟩
theorem q_cX6_156 (lv : Nat) (h : 1 ≤ lv) : z_CS RX6 lv 156 mJ6_bitCount_0f7a4 1 := ⟨⟨z_in 371 (by decide +kernel), z_in 332 (by decide +kernel), z_in 10 (by decide +kernel), z_in 333 (by decide +kernel)⟩, ⟨by decide +kernel, by decide +kernel, by decide +kernel⟩, ⟨h, by show 8 + (1 + 11) + 36 * 0 ≤ 36 * lv; omega⟩⟩
theorem q_cX6_162 (lv : Nat) (h : 1 ≤ lv) : z_CV RX6 lv 162 mX2_unpin RX2 1 := ⟨⟨z_in 376 (by decide +kernel), z_in 377 (by decide +kernel), z_in 378 (by decide +kernel), z_in 5 (by decide +kernel), z_in 379 (by decide +kernel)⟩, ⟨rfl, by decide +kernel, by decide +kernel, by decide +kernel⟩, ⟨h, by show 8 + (2 + 11) + 36 * 0 ≤ 36 * lv; omega⟩⟩
theorem q_cX6_166 (lv : Nat) (h : 2 ≤ lv) : z_CV RX6 lv 166 mX0_takeBack RX0 1 := ⟨⟨z_in 384 (by decide +kernel), z_in 385 (by decide +kernel), z_in 386 (by decide +kernel), z_in 6 (by decide +kernel), z_in 387 (by decide +kernel)⟩, ⟨rfl, by decide +kernel, by decide +kernel, by decide +kernel⟩, ⟨h, by show 8 + (2 + 11) + 36 * 1 ≤ 36 * lv; omega⟩⟩
theorem q_cX6_169 (lv : Nat) (h : 1 ≤ lv) : z_CV RX6 lv 169 mX2_become RX2 1 := ⟨⟨z_in 392 (by decide +kernel), z_in 302 (by decide +kernel), z_in 303 (by decide +kernel), z_in 5 (by decide +kernel), z_in 304 (by decide +kernel)⟩, ⟨rfl, by decide +kernel, by decide +kernel, by decide +kernel⟩, ⟨h, by show 8 + (3 + 11) + 36 * 0 ≤ 36 * lv; omega⟩⟩
theorem q_cX6_172 (lv : Nat) (h : 1 ≤ lv) : z_CV RX6 lv 172 mX1_clear RX1 0 := ⟨⟨z_in 401 (by decide +kernel), z_in 317 (by decide +kernel), z_in 318 (by decide +kernel), z_in 4 (by decide +kernel), z_in 319 (by decide +kernel)⟩, ⟨rfl, by decide +kernel, by decide +kernel, by decide +kernel⟩, ⟨h, by show 8 + (2 + 11) + 36 * 0 ≤ 36 * lv; omega⟩⟩
theorem q_cX6_175 (lv : Nat) (h : 1 ≤ lv) : z_CV RX6 lv 175 mX1_burdenEnds RX1 1 := ⟨⟨z_in 402 (by decide +kernel), z_in 348 (by decide +kernel), z_in 349 (by decide +kernel), z_in 4 (by decide +kernel), z_in 350 (by decide +kernel)⟩, ⟨rfl, by decide +kernel, by decide +kernel, by decide +kernel⟩, ⟨h, by show 8 + (2 + 11) + 36 * 0 ≤ 36 * lv; omega⟩⟩
theorem q_cX6_178 (lv : Nat) (h : 4 ≤ lv) : z_CV RX6 lv 178 mX1_ping RX1 1 := ⟨⟨z_in 403 (by decide +kernel), z_in 328 (by decide +kernel), z_in 329 (by decide +kernel), z_in 4 (by decide +kernel), z_in 330 (by decide +kernel)⟩, ⟨rfl, by decide +kernel, by decide +kernel, by decide +kernel⟩, ⟨h, by show 8 + (6 + 11) + 36 * 3 ≤ 36 * lv; omega⟩⟩
theorem q_cX6_181 (lv : Nat) (h : 2 ≤ lv) : z_CS RX6 lv 181 mX6_refusalOfTwo 2 := ⟨⟨z_in 408 (by decide +kernel), z_in 409 (by decide +kernel), z_in 1 (by decide +kernel), z_in 410 (by decide +kernel)⟩, ⟨by decide +kernel, by decide +kernel, by decide +kernel⟩, ⟨h, by show 8 + (2 + 11) + 36 * 1 ≤ 36 * lv; omega⟩⟩
theorem q_cX6_184 (lv : Nat) (h : 1 ≤ lv) : z_CV RX6 lv 184 mX4_allPins RX4 0 := ⟨⟨z_in 411 (by decide +kernel), z_in 412 (by decide +kernel), z_in 413 (by decide +kernel), z_in 3 (by decide +kernel), z_in 414 (by decide +kernel)⟩, ⟨rfl, by decide +kernel, by decide +kernel, by decide +kernel⟩, ⟨h, by show 8 + (1 + 11) + 36 * 0 ≤ 36 * lv; omega⟩⟩
theorem q_cX6_187 (lv : Nat) (h : 2 ≤ lv) : z_CV RX6 lv 187 mX6_isBetterCut RX6 2 := ⟨⟨z_in 415 (by decide +kernel), z_in 417 (by decide +kernel), z_inp 8 (q := (yX6_isBetterCut, 12)) (by decide +kernel), z_in 1 (by decide +kernel), z_in 418 (by decide +kernel)⟩, ⟨rfl, by decide +kernel, by decide +kernel, by decide +kernel⟩, ⟨h, by show 8 + (4 + 11) + 36 * 1 ≤ 36 * lv; omega⟩⟩
theorem q_cX6_191 (lv : Nat) (h : 3 ≤ lv) : z_CV RX6 lv 191 mX4_areTogether RX4 3 := ⟨⟨z_in 419 (by decide +kernel), z_in 420 (by decide +kernel), z_in 421 (by decide +kernel), z_in 3 (by decide +kernel), z_in 422 (by decide +kernel)⟩, ⟨rfl, by decide +kernel, by decide +kernel, by decide +kernel⟩, ⟨h, by show 8 + (4 + 11) + 36 * 2 ≤ 36 * lv; omega⟩⟩
theorem q_cX6_195 (lv : Nat) (h : 6 ≤ lv) : z_CV RX6 lv 195 mX6_firstThatParts RX6 3 := ⟨⟨z_in 428 (by decide +kernel), z_in 430 (by decide +kernel), z_inp 9 (q := (yX6_firstThatParts, 12)) (by decide +kernel), z_in 1 (by decide +kernel), z_in 431 (by decide +kernel)⟩, ⟨rfl, by decide +kernel, by decide +kernel, by decide +kernel⟩, ⟨h, by show 8 + (5 + 11) + 36 * 5 ≤ 36 * lv; omega⟩⟩
theorem q_cX6_199 (lv : Nat) (h : 4 ≤ lv) : z_CV RX6 lv 199 mX4_doable RX4 1 := ⟨⟨z_in 436 (by decide +kernel), z_in 437 (by decide +kernel), z_in 438 (by decide +kernel), z_in 3 (by decide +kernel), z_in 439 (by decide +kernel)⟩, ⟨rfl, by decide +kernel, by decide +kernel, by decide +kernel⟩, ⟨h, by show 8 + (4 + 11) + 36 * 3 ≤ 36 * lv; omega⟩⟩
theorem q_cX6_208 (lv : Nat) (h : 6 ≤ lv) : z_CV RX6 lv 208 mX6_comesTrue RX6 3 := ⟨⟨z_in 448 (by decide +kernel), z_in 450 (by decide +kernel), z_inp 10 (q := (yX6_comesTrue, 12)) (by decide +kernel), z_in 1 (by decide +kernel), z_in 451 (by decide +kernel)⟩, ⟨rfl, by decide +kernel, by decide +kernel, by decide +kernel⟩, ⟨h, by show 8 + (4 + 11) + 36 * 5 ≤ 36 * lv; omega⟩⟩
theorem q_cX6_212 (lv : Nat) (h : 1 ≤ lv) : z_CV RX6 lv 212 mX5_add RX5 2 := ⟨⟨z_in 464 (by decide +kernel), z_in 465 (by decide +kernel), z_in 466 (by decide +kernel), z_in 7 (by decide +kernel), z_in 467 (by decide +kernel)⟩, ⟨rfl, by decide +kernel, by decide +kernel, by decide +kernel⟩, ⟨h, by show 8 + (3 + 11) + 36 * 0 ≤ 36 * lv; omega⟩⟩
theorem q_cX6_215 (lv : Nat) (h : 1 ≤ lv) : z_CV RX6 lv 215 mX5_agreeWith RX5 2 := ⟨⟨z_in 476 (by decide +kernel), z_in 477 (by decide +kernel), z_in 478 (by decide +kernel), z_in 7 (by decide +kernel), z_in 479 (by decide +kernel)⟩, ⟨rfl, by decide +kernel, by decide +kernel, by decide +kernel⟩, ⟨h, by show 8 + (5 + 11) + 36 * 0 ≤ 36 * lv; omega⟩⟩
theorem q_cX6_218 (lv : Nat) (h : 3 ≤ lv) : z_CS RX6 lv 218 mX6_inLeastTerms 3 := ⟨⟨z_in 484 (by decide +kernel), z_in 485 (by decide +kernel), z_in 1 (by decide +kernel), z_in 486 (by decide +kernel)⟩, ⟨by decide +kernel, by decide +kernel, by decide +kernel⟩, ⟨h, by show 8 + (7 + 11) + 36 * 2 ≤ 36 * lv; omega⟩⟩
theorem q_cX6_222 (lv : Nat) (h : 4 ≤ lv) : z_CV RX6 lv 222 mX6_pairsBroughtInAllOrders RX6 3 := ⟨⟨z_in 493 (by decide +kernel), z_in 495 (by decide +kernel), z_inp 13 (q := (yX6_pairsBroughtInAllOrders, 12)) (by decide +kernel), z_in 1 (by decide +kernel), z_in 496 (by decide +kernel)⟩, ⟨rfl, by decide +kernel, by decide +kernel, by decide +kernel⟩, ⟨h, by show 8 + (11 + 11) + 36 * 3 ≤ 36 * lv; omega⟩⟩
theorem q_cX6_229 (lv : Nat) (h : 5 ≤ lv) : z_CV RX6 lv 229 mX6_reckonGains RX6 2 := ⟨⟨z_in 508 (by decide +kernel), z_in 510 (by decide +kernel), z_inp 14 (q := (yX6_reckonGains, 12)) (by decide +kernel), z_in 1 (by decide +kernel), z_in 511 (by decide +kernel)⟩, ⟨rfl, by decide +kernel, by decide +kernel, by decide +kernel⟩, ⟨h, by show 8 + (6 + 11) + 36 * 4 ≤ 36 * lv; omega⟩⟩
theorem q_cX6_233 (lv : Nat) (h : 1 ≤ lv) : z_CV RX6 lv 233 mX6_isAtRest RX6 2 := ⟨⟨z_in 517 (by decide +kernel), z_in 519 (by decide +kernel), z_inp 16 (q := (yX6_isAtRest, 12)) (by decide +kernel), z_in 1 (by decide +kernel), z_in 520 (by decide +kernel)⟩, ⟨rfl, by decide +kernel, by decide +kernel, by decide +kernel⟩, ⟨h, by show 8 + (5 + 11) + 36 * 0 ≤ 36 * lv; omega⟩⟩
theorem q_cX6_236 (lv : Nat) (h : 1 ≤ lv) : z_CS RX6 lv 236 mX6_power 2 := ⟨⟨z_in 525 (by decide +kernel), z_in 526 (by decide +kernel), z_in 1 (by decide +kernel), z_in 527 (by decide +kernel)⟩, ⟨by decide +kernel, by decide +kernel, by decide +kernel⟩, ⟨h, by show 8 + (5 + 11) + 36 * 0 ≤ 36 * lv; omega⟩⟩
theorem q_cX6_244 (lv : Nat) (h : 6 ≤ lv) : z_CV RX6 lv 244 mX6_passSeason RX6 1 := ⟨⟨z_in 538 (by decide +kernel), z_in 540 (by decide +kernel), z_inp 17 (q := (yX6_passSeason, 12)) (by decide +kernel), z_in 1 (by decide +kernel), z_in 541 (by decide +kernel)⟩, ⟨rfl, by decide +kernel, by decide +kernel, by decide +kernel⟩, ⟨h, by show 8 + (2 + 11) + 36 * 5 ≤ 36 * lv; omega⟩⟩
theorem q_cX6_250 (lv : Nat) (h : 3 ≤ lv) : z_CV RX6 lv 250 mX4_pairsTogether RX4 1 := ⟨⟨z_in 499 (by decide +kernel), z_in 500 (by decide +kernel), z_in 501 (by decide +kernel), z_in 3 (by decide +kernel), z_in 502 (by decide +kernel)⟩, ⟨rfl, by decide +kernel, by decide +kernel, by decide +kernel⟩, ⟨h, by show 8 + (4 + 11) + 36 * 2 ≤ 36 * lv; omega⟩⟩
theorem q_cX6_253 (lv : Nat) (h : 1 ≤ lv) : z_CV RX6 lv 253 mX2_wearOfAll RX2 0 := ⟨⟨z_in 554 (by decide +kernel), z_in 555 (by decide +kernel), z_in 556 (by decide +kernel), z_in 5 (by decide +kernel), z_in 557 (by decide +kernel)⟩, ⟨rfl, by decide +kernel, by decide +kernel, by decide +kernel⟩, ⟨h, by show 8 + (3 + 11) + 36 * 0 ≤ 36 * lv; omega⟩⟩
theorem q_cX6_256 (lv : Nat) (h : 2 ≤ lv) : z_CV RX6 lv 256 mX6_closesInThought RX6 1 := ⟨⟨z_in 452 (by decide +kernel), z_in 454 (by decide +kernel), z_inp 11 (q := (yX6_closesInThought, 12)) (by decide +kernel), z_in 1 (by decide +kernel), z_in 455 (by decide +kernel)⟩, ⟨rfl, by decide +kernel, by decide +kernel, by decide +kernel⟩, ⟨h, by show 8 + (2 + 11) + 36 * 1 ≤ 36 * lv; omega⟩⟩
theorem q_cX6_259 (lv : Nat) (h : 2 ≤ lv) : z_CV RX6 lv 259 mX6_unpinsInThought RX6 1 := ⟨⟨z_in 456 (by decide +kernel), z_in 458 (by decide +kernel), z_inp 12 (q := (yX6_unpinsInThought, 12)) (by decide +kernel), z_in 1 (by decide +kernel), z_in 459 (by decide +kernel)⟩, ⟨rfl, by decide +kernel, by decide +kernel, by decide +kernel⟩, ⟨h, by show 8 + (2 + 11) + 36 * 1 ≤ 36 * lv; omega⟩⟩
theorem q_cX6_262 (lv : Nat) (h : 1 ≤ lv) : z_CV RX6 lv 262 mX1_burden RX1 2 := ⟨⟨z_in 512 (by decide +kernel), z_in 324 (by decide +kernel), z_in 325 (by decide +kernel), z_in 4 (by decide +kernel), z_in 326 (by decide +kernel)⟩, ⟨rfl, by decide +kernel, by decide +kernel, by decide +kernel⟩, ⟨h, by show 8 + (3 + 11) + 36 * 0 ≤ 36 * lv; omega⟩⟩
theorem q_cX6_265 (lv : Nat) (h : 3 ≤ lv) : z_CV RX6 lv 265 mX6_priceOfBeingAlone RX6 1 := ⟨⟨z_in 513 (by decide +kernel), z_in 515 (by decide +kernel), z_inp 15 (q := (yX6_priceOfBeingAlone, 12)) (by decide +kernel), z_in 1 (by decide +kernel), z_in 516 (by decide +kernel)⟩, ⟨rfl, by decide +kernel, by decide +kernel, by decide +kernel⟩, ⟨h, by show 8 + (2 + 11) + 36 * 2 ≤ 36 * lv; omega⟩⟩
theorem q_cX6_268 (lv : Nat) (h : 2 ≤ lv) : z_CS RX6 lv 268 mX6_commonDivisor 2 := ⟨⟨z_in 487 (by decide +kernel), z_in 488 (by decide +kernel), z_in 1 (by decide +kernel), z_in 489 (by decide +kernel)⟩, ⟨by decide +kernel, by decide +kernel, by decide +kernel⟩, ⟨h, by show 8 + (11 + 11) + 36 * 1 ≤ 36 * lv; omega⟩⟩
theorem q_cX6_272 (lv : Nat) (h : 1 ≤ lv) : z_CS RX6 lv 272 mJ9_max_f86c9 2 := ⟨⟨z_in 490 (by decide +kernel), z_in 491 (by decide +kernel), z_in 9 (by decide +kernel), z_in 492 (by decide +kernel)⟩, ⟨by decide +kernel, by decide +kernel, by decide +kernel⟩, ⟨h, by show 8 + (4 + 11) + 36 * 0 ≤ 36 * lv; omega⟩⟩
theorem q_cX0_25 (lv : Nat) (h : 1 ≤ lv) : z_CV RX0 lv 25 mX2_become RX2 1 := ⟨⟨z_in 301 (by decide +kernel), z_in 302 (by decide +kernel), z_in 303 (by decide +kernel), z_in 5 (by decide +kernel), z_in 304 (by decide +kernel)⟩, ⟨rfl, by decide +kernel, by decide +kernel, by decide +kernel⟩, ⟨h, by show 8 + (3 + 11) + 36 * 0 ≤ 36 * lv; omega⟩⟩
theorem q_cX0_29 (lv : Nat) (h : 1 ≤ lv) : z_CS RX0 lv 29 mJ9_min_7cf53 2 := ⟨⟨z_in 305 (by decide +kernel), z_in 306 (by decide +kernel), z_in 9 (by decide +kernel), z_in 307 (by decide +kernel)⟩, ⟨by decide +kernel, by decide +kernel, by decide +kernel⟩, ⟨h, by show 8 + (2 + 11) + 36 * 0 ≤ 36 * lv; omega⟩⟩
theorem q_cX1_33 (lv : Nat) (h : 1 ≤ lv) : z_CS RX1 lv 33 mJ6_bitCount_0f7a4 1 := ⟨⟨z_in 331 (by decide +kernel), z_in 332 (by decide +kernel), z_in 10 (by decide +kernel), z_in 333 (by decide +kernel)⟩, ⟨by decide +kernel, by decide +kernel, by decide +kernel⟩, ⟨h, by show 8 + (1 + 11) + 36 * 0 ≤ 36 * lv; omega⟩⟩
theorem q_cX1_42 (lv : Nat) (h : 3 ≤ lv) : z_CV RX1 lv 42 mX1_givingNow RX1 1 := ⟨⟨z_in 337 (by decide +kernel), z_in 339 (by decide +kernel), z_inp 5 (q := (yX1_givingNow, 2)) (by decide +kernel), z_in 4 (by decide +kernel), z_in 340 (by decide +kernel)⟩, ⟨rfl, by decide +kernel, by decide +kernel, by decide +kernel⟩, ⟨h, by show 8 + (4 + 11) + 36 * 2 ≤ 36 * lv; omega⟩⟩
theorem q_cX1_46 (lv : Nat) (h : 1 ≤ lv) : z_CV RX1 lv 46 mX1_burdenEnds RX1 1 := ⟨⟨z_in 347 (by decide +kernel), z_in 348 (by decide +kernel), z_in 349 (by decide +kernel), z_in 4 (by decide +kernel), z_in 350 (by decide +kernel)⟩, ⟨rfl, by decide +kernel, by decide +kernel, by decide +kernel⟩, ⟨h, by show 8 + (2 + 11) + 36 * 0 ≤ 36 * lv; omega⟩⟩
theorem q_cX1_50 (lv : Nat) (h : 1 ≤ lv) : z_CV RX1 lv 50 mX2_isOpen RX2 1 := ⟨⟨z_in 341 (by decide +kernel), z_in 275 (by decide +kernel), z_in 276 (by decide +kernel), z_in 5 (by decide +kernel), z_in 277 (by decide +kernel)⟩, ⟨rfl, by decide +kernel, by decide +kernel, by decide +kernel⟩, ⟨h, by show 8 + (2 + 11) + 36 * 0 ≤ 36 * lv; omega⟩⟩
theorem q_cX1_54 (lv : Nat) (h : 1 ≤ lv) : z_CV RX1 lv 54 mX1_loadOf RX1 1 := ⟨⟨z_in 342 (by decide +kernel), z_in 344 (by decide +kernel), z_inp 6 (q := (yX1_loadOf, 2)) (by decide +kernel), z_in 4 (by decide +kernel), z_in 345 (by decide +kernel)⟩, ⟨rfl, by decide +kernel, by decide +kernel, by decide +kernel⟩, ⟨h, by show 8 + (2 + 11) + 36 * 0 ≤ 36 * lv; omega⟩⟩
theorem q_cX1_60 (lv : Nat) (h : 2 ≤ lv) : z_CV RX1 lv 60 mX4_holds RX4 2 := ⟨⟨z_in 346 (by decide +kernel), z_in 268 (by decide +kernel), z_in 269 (by decide +kernel), z_in 3 (by decide +kernel), z_in 270 (by decide +kernel)⟩, ⟨rfl, by decide +kernel, by decide +kernel, by decide +kernel⟩, ⟨h, by show 8 + (3 + 11) + 36 * 1 ≤ 36 * lv; omega⟩⟩
theorem q_cX1_64 (lv : Nat) (h : 1 ≤ lv) : z_CV RX1 lv 64 mX1_clear RX1 0 := ⟨⟨z_in 316 (by decide +kernel), z_in 317 (by decide +kernel), z_in 318 (by decide +kernel), z_in 4 (by decide +kernel), z_in 319 (by decide +kernel)⟩, ⟨rfl, by decide +kernel, by decide +kernel, by decide +kernel⟩, ⟨h, by show 8 + (2 + 11) + 36 * 0 ≤ 36 * lv; omega⟩⟩
theorem q_cX1_67 (lv : Nat) (h : 1 ≤ lv) : z_CV RX1 lv 67 mX1_burden RX1 2 := ⟨⟨z_in 323 (by decide +kernel), z_in 324 (by decide +kernel), z_in 325 (by decide +kernel), z_in 4 (by decide +kernel), z_in 326 (by decide +kernel)⟩, ⟨rfl, by decide +kernel, by decide +kernel, by decide +kernel⟩, ⟨h, by show 8 + (3 + 11) + 36 * 0 ≤ 36 * lv; omega⟩⟩
theorem q_cX1_71 (lv : Nat) (h : 4 ≤ lv) : z_CV RX1 lv 71 mX1_ping RX1 1 := ⟨⟨z_in 327 (by decide +kernel), z_in 328 (by decide +kernel), z_in 329 (by decide +kernel), z_in 4 (by decide +kernel), z_in 330 (by decide +kernel)⟩, ⟨rfl, by decide +kernel, by decide +kernel, by decide +kernel⟩, ⟨h, by show 8 + (6 + 11) + 36 * 3 ≤ 36 * lv; omega⟩⟩
theorem q_cX1_74 (lv : Nat) (h : 1 ≤ lv) : z_CV RX1 lv 74 mX1_springShut RX1 1 := ⟨⟨z_in 312 (by decide +kernel), z_in 314 (by decide +kernel), z_inp 4 (q := (yX1_springShut, 2)) (by decide +kernel), z_in 4 (by decide +kernel), z_in 315 (by decide +kernel)⟩, ⟨rfl, by decide +kernel, by decide +kernel, by decide +kernel⟩, ⟨h, by show 8 + (3 + 11) + 36 * 0 ≤ 36 * lv; omega⟩⟩
theorem q_cX1_84 (lv : Nat) (h : 1 ≤ lv) : z_CS RX1 lv 84 mJ9_floorMod_7cf53 2 := ⟨⟨z_in 320 (by decide +kernel), z_in 321 (by decide +kernel), z_in 9 (by decide +kernel), z_in 322 (by decide +kernel)⟩, ⟨by decide +kernel, by decide +kernel, by decide +kernel⟩, ⟨h, by show 8 + (3 + 11) + 36 * 0 ≤ 36 * lv; omega⟩⟩
theorem q_cX1_95 (lv : Nat) (h : 2 ≤ lv) : z_CV RX1 lv 95 mX1_wearDown RX1 1 := ⟨⟨z_in 351 (by decide +kernel), z_in 353 (by decide +kernel), z_inp 7 (q := (yX1_wearDown, 2)) (by decide +kernel), z_in 4 (by decide +kernel), z_in 354 (by decide +kernel)⟩, ⟨rfl, by decide +kernel, by decide +kernel, by decide +kernel⟩, ⟨h, by show 8 + (3 + 11) + 36 * 1 ≤ 36 * lv; omega⟩⟩
theorem q_cX3_19 (lv : Nat) (h : 2 ≤ lv) : z_CV RX3 lv 19 mX3_canBegin RX3 1 := ⟨⟨z_in 220 (by decide +kernel), z_in 222 (by decide +kernel), z_inp 0 (q := (yX3_canBegin, 2)) (by decide +kernel), z_in 2 (by decide +kernel), z_in 223 (by decide +kernel)⟩, ⟨rfl, by decide +kernel, by decide +kernel, by decide +kernel⟩, ⟨h, by show 8 + (5 + 11) + 36 * 1 ≤ 36 * lv; omega⟩⟩
theorem q_cX3_23 (lv : Nat) (h : 2 ≤ lv) : z_CV RX3 lv 23 mX3_canGoOn RX3 2 := ⟨⟨z_in 230 (by decide +kernel), z_in 232 (by decide +kernel), z_inp 1 (q := (yX3_canGoOn, 2)) (by decide +kernel), z_in 2 (by decide +kernel), z_in 233 (by decide +kernel)⟩, ⟨rfl, by decide +kernel, by decide +kernel, by decide +kernel⟩, ⟨h, by show 8 + (5 + 11) + 36 * 1 ≤ 36 * lv; omega⟩⟩
theorem q_cX3_27 (lv : Nat) (h : 1 ≤ lv) : z_CS RX3 lv 27 mX3_sizeOfPart 1 := ⟨⟨z_in 224 (by decide +kernel), z_in 225 (by decide +kernel), z_in 2 (by decide +kernel), z_in 226 (by decide +kernel)⟩, ⟨by decide +kernel, by decide +kernel, by decide +kernel⟩, ⟨h, by show 8 + (1 + 11) + 36 * 0 ≤ 36 * lv; omega⟩⟩
theorem q_cX3_31 (lv : Nat) (h : 1 ≤ lv) : z_CS RX3 lv 31 mX3_mostOf 1 := ⟨⟨z_in 227 (by decide +kernel), z_in 228 (by decide +kernel), z_in 2 (by decide +kernel), z_in 229 (by decide +kernel)⟩, ⟨by decide +kernel, by decide +kernel, by decide +kernel⟩, ⟨h, by show 8 + (1 + 11) + 36 * 0 ≤ 36 * lv; omega⟩⟩
theorem q_cX3_34 (lv : Nat) (h : 1 ≤ lv) : z_CV RX3 lv 34 mX3_figure RX3 1 := ⟨⟨z_in 234 (by decide +kernel), z_in 235 (by decide +kernel), z_in 236 (by decide +kernel), z_in 2 (by decide +kernel), z_in 237 (by decide +kernel)⟩, ⟨rfl, by decide +kernel, by decide +kernel, by decide +kernel⟩, ⟨h, by show 8 + (3 + 11) + 36 * 0 ≤ 36 * lv; omega⟩⟩
theorem q_cX4_54 (lv : Nat) (h : 2 ≤ lv) : z_CV RX4 lv 54 mX4_addPin RX4 2 := ⟨⟨z_in 246 (by decide +kernel), z_in 248 (by decide +kernel), z_inp 2 (q := (yX4_addPin, 11)) (by decide +kernel), z_in 3 (by decide +kernel), z_in 249 (by decide +kernel)⟩, ⟨rfl, by decide +kernel, by decide +kernel, by decide +kernel⟩, ⟨h, by show 8 + (3 + 11) + 36 * 1 ≤ 36 * lv; omega⟩⟩
theorem q_cX4_58 (lv : Nat) (h : 1 ≤ lv) : z_CV RX4 lv 58 mX3_figure RX3 1 := ⟨⟨z_in 250 (by decide +kernel), z_in 235 (by decide +kernel), z_in 236 (by decide +kernel), z_in 2 (by decide +kernel), z_in 237 (by decide +kernel)⟩, ⟨rfl, by decide +kernel, by decide +kernel, by decide +kernel⟩, ⟨h, by show 8 + (3 + 11) + 36 * 0 ≤ 36 * lv; omega⟩⟩
theorem q_cX4_62 (lv : Nat) (h : 1 ≤ lv) : z_CS RX4 lv 62 mJ9_max_7cf53 2 := ⟨⟨z_in 271 (by decide +kernel), z_in 272 (by decide +kernel), z_in 9 (by decide +kernel), z_in 273 (by decide +kernel)⟩, ⟨by decide +kernel, by decide +kernel, by decide +kernel⟩, ⟨h, by show 8 + (2 + 11) + 36 * 0 ≤ 36 * lv; omega⟩⟩
theorem q_cX4_68 (lv : Nat) (h : 1 ≤ lv) : z_CV RX4 lv 68 mX4_endsOf RX4 1 := ⟨⟨z_in 289 (by decide +kernel), z_in 290 (by decide +kernel), z_in 291 (by decide +kernel), z_in 3 (by decide +kernel), z_in 292 (by decide +kernel)⟩, ⟨rfl, by decide +kernel, by decide +kernel, by decide +kernel⟩, ⟨h, by show 8 + (2 + 11) + 36 * 0 ≤ 36 * lv; omega⟩⟩
theorem q_cX4_71 (lv : Nat) (h : 2 ≤ lv) : z_CV RX4 lv 71 mX4_reach RX4 2 := ⟨⟨z_in 423 (by decide +kernel), z_in 286 (by decide +kernel), z_in 287 (by decide +kernel), z_in 3 (by decide +kernel), z_in 288 (by decide +kernel)⟩, ⟨rfl, by decide +kernel, by decide +kernel, by decide +kernel⟩, ⟨h, by show 8 + (6 + 11) + 36 * 1 ≤ 36 * lv; omega⟩⟩
theorem q_cX4_74 (lv : Nat) (h : 1 ≤ lv) : z_CS RX4 lv 74 mJ6_bitCount_0f7a4 1 := ⟨⟨z_in 503 (by decide +kernel), z_in 332 (by decide +kernel), z_in 10 (by decide +kernel), z_in 333 (by decide +kernel)⟩, ⟨by decide +kernel, by decide +kernel, by decide +kernel⟩, ⟨h, by show 8 + (1 + 11) + 36 * 0 ≤ 36 * lv; omega⟩⟩
theorem q_cX4_79 (lv : Nat) (h : 3 ≤ lv) : z_CV RX4 lv 79 mX4_areTogether RX4 3 := ⟨⟨z_in 440 (by decide +kernel), z_in 420 (by decide +kernel), z_in 421 (by decide +kernel), z_in 3 (by decide +kernel), z_in 422 (by decide +kernel)⟩, ⟨rfl, by decide +kernel, by decide +kernel, by decide +kernel⟩, ⟨h, by show 8 + (4 + 11) + 36 * 2 ≤ 36 * lv; omega⟩⟩
theorem q_cX7_70 (lv : Nat) (h : 1 ≤ lv) : z_CS RX7 lv 70 mX7_in 3 := ⟨⟨z_in 666 (by decide +kernel), z_in 667 (by decide +kernel), z_in 8 (by decide +kernel), z_in 668 (by decide +kernel)⟩, ⟨by decide +kernel, by decide +kernel, by decide +kernel⟩, ⟨h, by show 8 + (6 + 11) + 36 * 0 ≤ 36 * lv; omega⟩⟩
theorem q_cX7_93 (lv : Nat) (h : 3 ≤ lv) : z_CV RX7 lv 93 mX7_readPart RX7 1 := ⟨⟨z_in 681 (by decide +kernel), z_in 683 (by decide +kernel), z_inp 19 (q := (yX7_readPart, 32)) (by decide +kernel), z_in 8 (by decide +kernel), z_in 684 (by decide +kernel)⟩, ⟨rfl, by decide +kernel, by decide +kernel, by decide +kernel⟩, ⟨h, by show 8 + (3 + 11) + 36 * 2 ≤ 36 * lv; omega⟩⟩
theorem q_cX7_97 (lv : Nat) (h : 2 ≤ lv) : z_CV RX7 lv 97 mX7_figureOf RX7 2 := ⟨⟨z_in 685 (by decide +kernel), z_in 687 (by decide +kernel), z_inp 20 (q := (yX7_figureOf, 32)) (by decide +kernel), z_in 8 (by decide +kernel), z_in 688 (by decide +kernel)⟩, ⟨rfl, by decide +kernel, by decide +kernel, by decide +kernel⟩, ⟨h, by show 8 + (5 + 11) + 36 * 1 ≤ 36 * lv; omega⟩⟩
theorem q_cX7_101 (lv : Nat) (h : 4 ≤ lv) : z_CV RX7 lv 101 mX7_readText RX7 0 := ⟨⟨z_in 677 (by decide +kernel), z_in 679 (by decide +kernel), z_inp 18 (q := (yX7_readText, 32)) (by decide +kernel), z_in 8 (by decide +kernel), z_in 680 (by decide +kernel)⟩, ⟨rfl, by decide +kernel, by decide +kernel, by decide +kernel⟩, ⟨h, by show 8 + (1 + 11) + 36 * 3 ≤ 36 * lv; omega⟩⟩
theorem q_cX7_119 (lv : Nat) (h : 1 ≤ lv) : z_CS RX7 lv 119 mX7_has 2 := ⟨⟨z_in 717 (by decide +kernel), z_in 718 (by decide +kernel), z_in 8 (by decide +kernel), z_in 719 (by decide +kernel)⟩, ⟨by decide +kernel, by decide +kernel, by decide +kernel⟩, ⟨h, by show 8 + (2 + 11) + 36 * 0 ≤ 36 * lv; omega⟩⟩
theorem q_cX7_123 (lv : Nat) (h : 2 ≤ lv) : z_CV RX7 lv 123 mX7_withBy RX7 2 := ⟨⟨z_in 713 (by decide +kernel), z_in 715 (by decide +kernel), z_inp 23 (q := (yX7_withBy, 32)) (by decide +kernel), z_in 8 (by decide +kernel), z_in 716 (by decide +kernel)⟩, ⟨rfl, by decide +kernel, by decide +kernel, by decide +kernel⟩, ⟨h, by show 8 + (7 + 11) + 36 * 1 ≤ 36 * lv; omega⟩⟩
theorem q_cX7_126 (lv : Nat) (h : 3 ≤ lv) : z_CV RX7 lv 126 mX7_isTogether RX7 3 := ⟨⟨z_in 797 (by decide +kernel), z_in 799 (by decide +kernel), z_inp 33 (q := (yX7_isTogether, 32)) (by decide +kernel), z_in 8 (by decide +kernel), z_in 800 (by decide +kernel)⟩, ⟨rfl, by decide +kernel, by decide +kernel, by decide +kernel⟩, ⟨h, by show 8 + (4 + 11) + 36 * 2 ≤ 36 * lv; omega⟩⟩
theorem q_cX7_130 (lv : Nat) (h : 1 ≤ lv) : z_CV RX7 lv 130 mX7_onBoth RX7 1 := ⟨⟨z_in 740 (by decide +kernel), z_in 742 (by decide +kernel), z_inp 28 (q := (yX7_onBoth, 32)) (by decide +kernel), z_in 8 (by decide +kernel), z_in 743 (by decide +kernel)⟩, ⟨rfl, by decide +kernel, by decide +kernel, by decide +kernel⟩, ⟨h, by show 8 + (2 + 11) + 36 * 0 ≤ 36 * lv; omega⟩⟩
theorem q_cX7_134 (lv : Nat) (h : 1 ≤ lv) : z_CV RX7 lv 134 mX7_holdsOn RX7 2 := ⟨⟨z_in 701 (by decide +kernel), z_in 703 (by decide +kernel), z_inp 22 (q := (yX7_holdsOn, 32)) (by decide +kernel), z_in 8 (by decide +kernel), z_in 704 (by decide +kernel)⟩, ⟨rfl, by decide +kernel, by decide +kernel, by decide +kernel⟩, ⟨h, by show 8 + (4 + 11) + 36 * 0 ≤ 36 * lv; omega⟩⟩
theorem q_cX7_137 (lv : Nat) (h : 1 ≤ lv) : z_CS RX7 lv 137 mX7_ones 1 := ⟨⟨z_in 744 (by decide +kernel), z_in 745 (by decide +kernel), z_in 8 (by decide +kernel), z_in 746 (by decide +kernel)⟩, ⟨by decide +kernel, by decide +kernel, by decide +kernel⟩, ⟨h, by show 8 + (3 + 11) + 36 * 0 ≤ 36 * lv; omega⟩⟩
theorem q_cX7_140 (lv : Nat) (h : 1 ≤ lv) : z_CV RX7 lv 140 mX7_unload RX7 0 := ⟨⟨z_in 732 (by decide +kernel), z_in 734 (by decide +kernel), z_inp 26 (q := (yX7_unload, 32)) (by decide +kernel), z_in 8 (by decide +kernel), z_in 735 (by decide +kernel)⟩, ⟨rfl, by decide +kernel, by decide +kernel, by decide +kernel⟩, ⟨h, by show 8 + (2 + 11) + 36 * 0 ≤ 36 * lv; omega⟩⟩
theorem q_cX7_143 (lv : Nat) (h : 2 ≤ lv) : z_CV RX7 lv 143 mX7_ping RX7 1 := ⟨⟨z_in 736 (by decide +kernel), z_in 738 (by decide +kernel), z_inp 27 (q := (yX7_ping, 32)) (by decide +kernel), z_in 8 (by decide +kernel), z_in 739 (by decide +kernel)⟩, ⟨rfl, by decide +kernel, by decide +kernel, by decide +kernel⟩, ⟨h, by show 8 + (5 + 11) + 36 * 1 ≤ 36 * lv; omega⟩⟩
theorem q_cX7_146 (lv : Nat) (h : 2 ≤ lv) : z_CV RX7 lv 146 mX7_isPin RX7 1 := ⟨⟨z_in 697 (by decide +kernel), z_in 699 (by decide +kernel), z_inp 21 (q := (yX7_isPin, 32)) (by decide +kernel), z_in 8 (by decide +kernel), z_in 700 (by decide +kernel)⟩, ⟨rfl, by decide +kernel, by decide +kernel, by decide +kernel⟩, ⟨h, by show 8 + (2 + 11) + 36 * 1 ≤ 36 * lv; omega⟩⟩
theorem q_cX7_150 (lv : Nat) (h : 2 ≤ lv) : z_CS RX7 lv 150 mX7_isThing 1 := ⟨⟨z_in 709 (by decide +kernel), z_in 710 (by decide +kernel), z_in 8 (by decide +kernel), z_in 711 (by decide +kernel)⟩, ⟨by decide +kernel, by decide +kernel, by decide +kernel⟩, ⟨h, by show 8 + (1 + 11) + 36 * 1 ≤ 36 * lv; omega⟩⟩
theorem q_cX7_156 (lv : Nat) (h : 1 ≤ lv) : z_CV RX7 lv 156 mX7_keepAct RX7 0 := ⟨⟨z_in 724 (by decide +kernel), z_in 726 (by decide +kernel), z_inp 24 (q := (yX7_keepAct, 32)) (by decide +kernel), z_in 8 (by decide +kernel), z_in 727 (by decide +kernel)⟩, ⟨rfl, by decide +kernel, by decide +kernel, by decide +kernel⟩, ⟨h, by show 8 + (2 + 11) + 36 * 0 ≤ 36 * lv; omega⟩⟩
theorem q_cX7_159 (lv : Nat) (h : 3 ≤ lv) : z_CV RX7 lv 159 mX7_passOn RX7 1 := ⟨⟨z_in 728 (by decide +kernel), z_in 730 (by decide +kernel), z_inp 25 (q := (yX7_passOn, 32)) (by decide +kernel), z_in 8 (by decide +kernel), z_in 731 (by decide +kernel)⟩, ⟨rfl, by decide +kernel, by decide +kernel, by decide +kernel⟩, ⟨h, by show 8 + (5 + 11) + 36 * 2 ≤ 36 * lv; omega⟩⟩
theorem q_cX7_164 (lv : Nat) (h : 3 ≤ lv) : z_CV RX7 lv 164 mX7_tugOn RX7 3 := ⟨⟨z_in 752 (by decide +kernel), z_in 754 (by decide +kernel), z_inp 29 (q := (yX7_tugOn, 32)) (by decide +kernel), z_in 8 (by decide +kernel), z_in 755 (by decide +kernel)⟩, ⟨rfl, by decide +kernel, by decide +kernel, by decide +kernel⟩, ⟨h, by show 8 + (4 + 11) + 36 * 2 ≤ 36 * lv; omega⟩⟩
theorem q_cX7_168 (lv : Nat) (h : 1 ≤ lv) : z_CV RX7 lv 168 mX7_shutOn RX7 2 := ⟨⟨z_in 760 (by decide +kernel), z_in 762 (by decide +kernel), z_inp 30 (q := (yX7_shutOn, 32)) (by decide +kernel), z_in 8 (by decide +kernel), z_in 763 (by decide +kernel)⟩, ⟨rfl, by decide +kernel, by decide +kernel, by decide +kernel⟩, ⟨h, by show 8 + (3 + 11) + 36 * 0 ≤ 36 * lv; omega⟩⟩
theorem q_cX7_174 (lv : Nat) (h : 1 ≤ lv) : z_CV RX7 lv 174 mX7_layTrial RX7 0 := ⟨⟨z_in 777 (by decide +kernel), z_in 779 (by decide +kernel), z_inp 31 (q := (yX7_layTrial, 32)) (by decide +kernel), z_in 8 (by decide +kernel), z_in 780 (by decide +kernel)⟩, ⟨rfl, by decide +kernel, by decide +kernel, by decide +kernel⟩, ⟨h, by show 8 + (2 + 11) + 36 * 0 ≤ 36 * lv; omega⟩⟩
theorem q_cX7_177 (lv : Nat) (h : 1 ≤ lv) : z_CV RX7 lv 177 mX7_all RX7 0 := ⟨⟨z_in 793 (by decide +kernel), z_in 795 (by decide +kernel), z_inp 32 (q := (yX7_all, 32)) (by decide +kernel), z_in 8 (by decide +kernel), z_in 796 (by decide +kernel)⟩, ⟨rfl, by decide +kernel, by decide +kernel, by decide +kernel⟩, ⟨h, by show 8 + (1 + 11) + 36 * 0 ≤ 36 * lv; omega⟩⟩
theorem q_cX7_180 (lv : Nat) (h : 4 ≤ lv) : z_CV RX7 lv 180 mX7_doableBy RX7 1 := ⟨⟨z_in 809 (by decide +kernel), z_in 811 (by decide +kernel), z_inp 34 (q := (yX7_doableBy, 32)) (by decide +kernel), z_in 8 (by decide +kernel), z_in 812 (by decide +kernel)⟩, ⟨rfl, by decide +kernel, by decide +kernel, by decide +kernel⟩, ⟨h, by show 8 + (4 + 11) + 36 * 3 ≤ 36 * lv; omega⟩⟩
theorem q_cX7_187 (lv : Nat) (h : 1 ≤ lv) : z_CS RX7 lv 187 mX7_thousandTo 1 := ⟨⟨z_in 818 (by decide +kernel), z_in 819 (by decide +kernel), z_in 8 (by decide +kernel), z_in 820 (by decide +kernel)⟩, ⟨by decide +kernel, by decide +kernel, by decide +kernel⟩, ⟨h, by show 8 + (4 + 11) + 36 * 0 ≤ 36 * lv; omega⟩⟩
theorem q_cX7_191 (lv : Nat) (h : 5 ≤ lv) : z_CV RX7 lv 191 mX7_tryThing RX7 3 := ⟨⟨z_in 822 (by decide +kernel), z_in 824 (by decide +kernel), z_inp 35 (q := (yX7_tryThing, 32)) (by decide +kernel), z_in 8 (by decide +kernel), z_in 825 (by decide +kernel)⟩, ⟨rfl, by decide +kernel, by decide +kernel, by decide +kernel⟩, ⟨h, by show 8 + (7 + 11) + 36 * 4 ≤ 36 * lv; omega⟩⟩
theorem q_cX7_199 (lv : Nat) (h : 1 ≤ lv) : z_CS RX7 lv 199 mX7_factorial 1 := ⟨⟨z_in 843 (by decide +kernel), z_in 844 (by decide +kernel), z_in 8 (by decide +kernel), z_in 845 (by decide +kernel)⟩, ⟨by decide +kernel, by decide +kernel, by decide +kernel⟩, ⟨h, by show 8 + (3 + 11) + 36 * 0 ≤ 36 * lv; omega⟩⟩
theorem q_cX7_202 (lv : Nat) (h : 4 ≤ lv) : z_CV RX7 lv 202 mX7_pairsBy RX7 1 := ⟨⟨z_in 846 (by decide +kernel), z_in 848 (by decide +kernel), z_inp 36 (q := (yX7_pairsBy, 32)) (by decide +kernel), z_in 8 (by decide +kernel), z_in 849 (by decide +kernel)⟩, ⟨rfl, by decide +kernel, by decide +kernel, by decide +kernel⟩, ⟨h, by show 8 + (5 + 11) + 36 * 3 ≤ 36 * lv; omega⟩⟩
theorem q_cX7_205 (lv : Nat) (h : 1 ≤ lv) : z_CS RX7 lv 205 mX7_common 2 := ⟨⟨z_in 850 (by decide +kernel), z_in 851 (by decide +kernel), z_in 8 (by decide +kernel), z_in 852 (by decide +kernel)⟩, ⟨by decide +kernel, by decide +kernel, by decide +kernel⟩, ⟨h, by show 8 + (5 + 11) + 36 * 0 ≤ 36 * lv; omega⟩⟩
theorem q_cX7_208 (lv : Nat) (h : 3 ≤ lv) : z_CV RX7 lv 208 mX7_gain RX7 4 := ⟨⟨z_in 861 (by decide +kernel), z_in 863 (by decide +kernel), z_inp 38 (q := (yX7_gain, 32)) (by decide +kernel), z_in 8 (by decide +kernel), z_in 864 (by decide +kernel)⟩, ⟨rfl, by decide +kernel, by decide +kernel, by decide +kernel⟩, ⟨h, by show 8 + (6 + 11) + 36 * 2 ≤ 36 * lv; omega⟩⟩
theorem q_cX7_212 (lv : Nat) (h : 4 ≤ lv) : z_CV RX7 lv 212 mX7_isRest RX7 4 := ⟨⟨z_in 857 (by decide +kernel), z_in 859 (by decide +kernel), z_inp 37 (q := (yX7_isRest, 32)) (by decide +kernel), z_in 8 (by decide +kernel), z_in 860 (by decide +kernel)⟩, ⟨rfl, by decide +kernel, by decide +kernel, by decide +kernel⟩, ⟨h, by show 8 + (7 + 11) + 36 * 3 ≤ 36 * lv; omega⟩⟩
theorem q_cX7_218 (lv : Nat) (h : 1 ≤ lv) : z_CS RX7 lv 218 mX7_power 2 := ⟨⟨z_in 870 (by decide +kernel), z_in 871 (by decide +kernel), z_in 8 (by decide +kernel), z_in 872 (by decide +kernel)⟩, ⟨by decide +kernel, by decide +kernel, by decide +kernel⟩, ⟨h, by show 8 + (4 + 11) + 36 * 0 ≤ 36 * lv; omega⟩⟩
theorem q_cX7_233 (lv : Nat) (h : 1 ≤ lv) : z_CV RX7 lv 233 mX7_wearOfAll RX7 0 := ⟨⟨z_in 897 (by decide +kernel), z_in 899 (by decide +kernel), z_inp 39 (q := (yX7_wearOfAll, 32)) (by decide +kernel), z_in 8 (by decide +kernel), z_in 900 (by decide +kernel)⟩, ⟨rfl, by decide +kernel, by decide +kernel, by decide +kernel⟩, ⟨h, by show 8 + (3 + 11) + 36 * 0 ≤ 36 * lv; omega⟩⟩
theorem q_kJ6_265 : Jvm.Cond.constant RJ6 265 (1431655765) ∈ z_tb := z_in 334 (by decide +kernel)
theorem q_kJ6_266 : Jvm.Cond.constant RJ6 266 (858993459) ∈ z_tb := z_in 335 (by decide +kernel)
theorem q_kJ6_267 : Jvm.Cond.constant RJ6 267 (252645135) ∈ z_tb := z_in 336 (by decide +kernel)
theorem q_kX6_206 : Jvm.Cond.constantLong RX6 206 (1000) ∈ z_tb := z_in 447 (by decide +kernel)
theorem q_kX6_240 : Jvm.Cond.constantLong RX6 240 (6364136223846793005) ∈ z_tb := z_in 536 (by decide +kernel)
theorem q_kX6_242 : Jvm.Cond.constantLong RX6 242 (1442695040888963407) ∈ z_tb := z_in 537 (by decide +kernel)
theorem q_kX7_68 : Jvm.Cond.constantLong RX7 68 (255) ∈ z_tb := z_in 665 (by decide +kernel)
theorem q_kX7_117 : Jvm.Cond.constantLong RX7 117 (5) ∈ z_tb := z_in 712 (by decide +kernel)
theorem q_kX7_162 : Jvm.Cond.constantLong RX7 162 (9) ∈ z_tb := z_in 751 (by decide +kernel)
theorem q_kX7_172 : Jvm.Cond.constantLong RX7 172 (20) ∈ z_tb := z_in 776 (by decide +kernel)
theorem q_kX7_185 : Jvm.Cond.constantLong RX7 185 (4) ∈ z_tb := z_in 817 (by decide +kernel)
theorem q_kX7_183 : Jvm.Cond.constantLong RX7 183 (1000) ∈ z_tb := z_in 821 (by decide +kernel)
theorem q_kX7_194 : Jvm.Cond.constantLong RX7 194 (12) ∈ z_tb := z_in 830 (by decide +kernel)
theorem q_kX7_216 : Jvm.Cond.constantLong RX7 216 (10) ∈ z_tb := z_in 869 (by decide +kernel)
theorem q_kX7_225 : Jvm.Cond.constantLong RX7 225 (30) ∈ z_tb := z_in 881 (by decide +kernel)
theorem q_kX7_227 : Jvm.Cond.constantLong RX7 227 (6364136223846793005) ∈ z_tb := z_in 882 (by decide +kernel)
theorem q_kX7_229 : Jvm.Cond.constantLong RX7 229 (1442695040888963407) ∈ z_tb := z_in 883 (by decide +kernel)
theorem q_kX7_231 : Jvm.Cond.constantLong RX7 231 (32) ∈ z_tb := z_in 884 (by decide +kernel)
theorem q_kL_85 : Jvm.Cond.constantLong RL 85 (4294967295) ∈ z_tb := z_in 901 (by decide +kernel)
theorem z_s0 : z_shp[0]? = some (.inr (.inl (6, [3, 5, 14, 16, 18, 20, 50, 55, 56, 59, 60, 1]))) := rfl
theorem z_s1 : z_shp[1]? = some (.inr (.inl (3, [4, 0]))) := rfl
theorem z_s2 : z_shp[2]? = some (.inl (0, 60)) := rfl
theorem z_s3 : z_shp[3]? = some (.inr (.inl (4, [0, 6, 7, 8, 9, 0, 10, 11, 0, 12, 13]))) := rfl
theorem z_s4 : z_shp[4]? = some (.inl (0, 7)) := rfl
theorem z_s5 : z_shp[5]? = some (.inl (0, 7)) := rfl
theorem z_s6 : z_shp[6]? = some (.inl (0, 7)) := rfl
theorem z_s7 : z_shp[7]? = some (.inl (0, 7)) := rfl
theorem z_s8 : z_shp[8]? = some (.inl (0, 4)) := rfl
theorem z_s9 : z_shp[9]? = some (.inl (0, 4)) := rfl
theorem z_s10 : z_shp[10]? = some (.inl (0, 3)) := rfl
theorem z_s11 : z_shp[11]? = some (.inl (0, 3)) := rfl
theorem z_s12 : z_shp[12]? = some (.inr (.inl (1, [5, 15]))) := rfl
theorem z_s13 : z_shp[13]? = some (.inl (0, 6)) := rfl
theorem z_s14 : z_shp[14]? = some (.inr (.inl (2, [0, 17, 0]))) := rfl
theorem z_s15 : z_shp[15]? = some (.inl (0, 7)) := rfl
theorem z_s16 : z_shp[16]? = some (.inr (.inl (2, [0, 19, 0]))) := rfl
theorem z_s17 : z_shp[17]? = some (.inl (0, 7)) := rfl
theorem z_s18 : z_shp[18]? = some (.inr (.inl (0, [21, 0, 0]))) := rfl
theorem z_s19 : z_shp[19]? = some (.inr (.inr [20, 22, 24, 26, 28, 30, 32, 34, 36, 38, 40, 42, 44, 46])) := rfl
theorem z_s20 : z_shp[20]? = some (.inr (.inl (2, [0, 23, 0]))) := rfl
theorem z_s21 : z_shp[21]? = some (.inl (0, 7)) := rfl
theorem z_s22 : z_shp[22]? = some (.inr (.inl (2, [0, 25, 0]))) := rfl
theorem z_s23 : z_shp[23]? = some (.inl (0, 7)) := rfl
theorem z_s24 : z_shp[24]? = some (.inr (.inl (2, [0, 27, 0]))) := rfl
theorem z_s25 : z_shp[25]? = some (.inl (0, 7)) := rfl
theorem z_s26 : z_shp[26]? = some (.inr (.inl (2, [0, 29, 0]))) := rfl
theorem z_s27 : z_shp[27]? = some (.inl (0, 7)) := rfl
theorem z_s28 : z_shp[28]? = some (.inr (.inl (2, [0, 31, 0]))) := rfl
theorem z_s29 : z_shp[29]? = some (.inl (0, 7)) := rfl
theorem z_s30 : z_shp[30]? = some (.inr (.inl (2, [0, 33, 0]))) := rfl
theorem z_s31 : z_shp[31]? = some (.inl (0, 7)) := rfl
theorem z_s32 : z_shp[32]? = some (.inr (.inl (2, [0, 35, 0]))) := rfl
theorem z_s33 : z_shp[33]? = some (.inl (0, 7)) := rfl
theorem z_s34 : z_shp[34]? = some (.inr (.inl (2, [0, 37, 0]))) := rfl
theorem z_s35 : z_shp[35]? = some (.inl (0, 7)) := rfl
theorem z_s36 : z_shp[36]? = some (.inr (.inl (2, [0, 39, 0]))) := rfl
theorem z_s37 : z_shp[37]? = some (.inl (0, 7)) := rfl
theorem z_s38 : z_shp[38]? = some (.inr (.inl (2, [0, 41, 0]))) := rfl
theorem z_s39 : z_shp[39]? = some (.inl (0, 7)) := rfl
theorem z_s40 : z_shp[40]? = some (.inr (.inl (2, [0, 43, 0]))) := rfl
theorem z_s41 : z_shp[41]? = some (.inl (0, 7)) := rfl
theorem z_s42 : z_shp[42]? = some (.inr (.inl (2, [0, 45, 0]))) := rfl
theorem z_s43 : z_shp[43]? = some (.inl (0, 7)) := rfl
theorem z_s44 : z_shp[44]? = some (.inr (.inl (2, [0, 47, 0]))) := rfl
theorem z_s45 : z_shp[45]? = some (.inl (0, 7)) := rfl
theorem z_s46 : z_shp[46]? = some (.inr (.inl (2, [0, 49, 0]))) := rfl
theorem z_s47 : z_shp[47]? = some (.inl (0, 7)) := rfl
theorem z_s48 : z_shp[48]? = some (.inr (.inr [49, 51])) := rfl
theorem z_s49 : z_shp[49]? = some (.inr (.inl (2, [0, 52, 0]))) := rfl
theorem z_s50 : z_shp[50]? = some (.inl (0, 7)) := rfl
theorem z_s51 : z_shp[51]? = some (.inr (.inl (2, [0, 54, 0]))) := rfl
theorem z_s52 : z_shp[52]? = some (.inl (0, 7)) := rfl
theorem z_s53 : z_shp[53]? = some (.inl (1, 2)) := rfl
theorem z_s54 : z_shp[54]? = some (.inr (.inl (5, [57, 58, 0]))) := rfl
theorem z_s55 : z_shp[55]? = some (.inl (0, 6)) := rfl
theorem z_s56 : z_shp[56]? = some (.inl (1, 6)) := rfl
theorem z_s57 : z_shp[57]? = some (.inl (0, 9)) := rfl
theorem z_s58 : z_shp[58]? = some (.inl (0, 9)) := rfl
theorem z_s59 : z_shp[59]? = some (.inr (.inl (7, [0, 0, 0, 62, 63, 64, 65, 66, 67, 68, 69, 70, 71, 72, 73, 0, 0, 0, 74, 0, 0, 0, 75, 0, 0, 76, 0, 77, 78, 1, 79, 80]))) := rfl
theorem z_s60 : z_shp[60]? = some (.inl (0, 7)) := rfl
theorem z_s61 : z_shp[61]? = some (.inl (0, 7)) := rfl
theorem z_s62 : z_shp[62]? = some (.inl (0, 7)) := rfl
theorem z_s63 : z_shp[63]? = some (.inl (0, 7)) := rfl
theorem z_s64 : z_shp[64]? = some (.inl (0, 4)) := rfl
theorem z_s65 : z_shp[65]? = some (.inl (0, 4)) := rfl
theorem z_s66 : z_shp[66]? = some (.inl (0, 3)) := rfl
theorem z_s67 : z_shp[67]? = some (.inl (0, 3)) := rfl
theorem z_s68 : z_shp[68]? = some (.inl (0, 18)) := rfl
theorem z_s69 : z_shp[69]? = some (.inl (0, 28)) := rfl
theorem z_s70 : z_shp[70]? = some (.inl (0, 8)) := rfl
theorem z_s71 : z_shp[71]? = some (.inl (0, 6)) := rfl
theorem z_s72 : z_shp[72]? = some (.inl (0, 60)) := rfl
theorem z_s73 : z_shp[73]? = some (.inl (0, 6)) := rfl
theorem z_s74 : z_shp[74]? = some (.inl (0, 126)) := rfl
theorem z_s75 : z_shp[75]? = some (.inl (0, 6)) := rfl
theorem z_s76 : z_shp[76]? = some (.inl (0, 6)) := rfl
theorem z_s77 : z_shp[77]? = some (.inl (1, 2)) := rfl
theorem z_s78 : z_shp[78]? = some (.inl (0, 18)) := rfl

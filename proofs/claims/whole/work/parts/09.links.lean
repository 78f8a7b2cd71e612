abbrev YX0_init : Yt := (yX0_init, cX0_init, 1, none)
abbrev YX0_more : Yt := (yX0_more, cX0_more, 3, (some .int))
abbrev YX0_forget : Yt := (yX0_forget, cX0_forget, 2, (some .int))
abbrev YX0_leftOf : Yt := (yX0_leftOf, cX0_leftOf, 4, (some .int))
abbrev YX0_expected : Yt := (yX0_expected, cX0_expected, 7, (some .int))
abbrev YX0_bestStock : Yt := (yX0_bestStock, cX0_bestStock, 8, (some .int))
abbrev YX0_sellerExpects : Yt := (yX0_sellerExpects, cX0_sellerExpects, 6, (some .int))
abbrev YX0_bestBack : Yt := (yX0_bestBack, cX0_bestBack, 8, (some .int))
abbrev YX1_init : Yt := (yX1_init, cX1_init, 1, none)
abbrev YX1_setShops : Yt := (yX1_setShops, cX1_setShops, 7, none)
abbrev YX1_setMakers : Yt := (yX1_setMakers, cX1_setMakers, 8, none)
abbrev YX1_restAt : Yt := (yX1_restAt, cX1_restAt, 5, (some .int))
abbrev YX1_isRest : Yt := (yX1_isRest, cX1_isRest, 3, (some .boolean))
abbrev YX1_bestAgainst : Yt := (yX1_bestAgainst, cX1_bestAgainst, 7, (some .int))
abbrev YX1_gained : Yt := (yX1_gained, cX1_gained, 5, (some .int))
abbrev YX2_init : Yt := (yX2_init, cX2_init, 1, none)
abbrev YX2_follow : Yt := (yX2_follow, cX2_follow, 4, none)
abbrev YX2_earnedBy : Yt := (yX2_earnedBy, cX2_earnedBy, 5, (some .int))
abbrev YX2_spentBy : Yt := (yX2_spentBy, cX2_spentBy, 3, (some .int))
abbrev YX2_earnedFrom : Yt := (yX2_earnedFrom, cX2_earnedFrom, 4, (some .int))
abbrev YX2_wouldDiffer : Yt := (yX2_wouldDiffer, cX2_wouldDiffer, 5, (some .int))
abbrev YX2_shopWould : Yt := (yX2_shopWould, cX2_shopWould, 5, (some .boolean))
abbrev YX2_anyPriceWould : Yt := (yX2_anyPriceWould, cX2_anyPriceWould, 5, (some .boolean))
abbrev YX2_priceWould : Yt := (yX2_priceWould, cX2_priceWould, 7, (some .boolean))
abbrev YX3_init : Yt := (yX3_init, cX3_init, 1, none)
abbrev YX3_mostFee : Yt := (yX3_mostFee, cX3_mostFee, 6, (some .int))
abbrev YX3_heals : Yt := (yX3_heals, cX3_heals, 5, (some .boolean))
abbrev YX3_findPairs : Yt := (yX3_findPairs, cX3_findPairs, 7, none)
abbrev YX3_isBest : Yt := (yX3_isBest, cX3_isBest, 8, (some .boolean))
abbrev YX3_shareOf : Yt := (yX3_shareOf, cX3_shareOf, 12, (some .int))
abbrev YX4_init : Yt := (yX4_init, cX4_init, 1, none)
abbrev YX4_better : Yt := (yX4_better, cX4_better, 8, (some .int))
abbrev YX4_findRests : Yt := (yX4_findRests, cX4_findRests, 7, none)
abbrev YX4_buyingHouses : Yt := (yX4_buyingHouses, cX4_buyingHouses, 4, (some .int))
abbrev YX4_isAtRest : Yt := (yX4_isAtRest, cX4_isAtRest, 7, (some .boolean))
abbrev YX5_init : Yt := (yX5_init, cX5_init, 1, none)
abbrev YX5_settle : Yt := (yX5_settle, cX5_settle, 7, none)
abbrev YX5_lastStale : Yt := (yX5_lastStale, cX5_lastStale, 4, (some .int))
abbrev YX5_lastRow : Yt := (yX5_lastRow, cX5_lastRow, 3, (some .int))
abbrev YX5_reckon : Yt := (yX5_reckon, cX5_reckon, 9, none)
abbrev YX5_ownPrice : Yt := (yX5_ownPrice, cX5_ownPrice, 7, (some .int))
abbrev YX5_commonPrice : Yt := (yX5_commonPrice, cX5_commonPrice, 9, (some .int))
abbrev YX5_halvedPrice : Yt := (yX5_halvedPrice, cX5_halvedPrice, 8, (some .int))
abbrev YX5_takesAt : Yt := (yX5_takesAt, cX5_takesAt, 3, (some .int))
abbrev YX5_takenAt : Yt := (yX5_takenAt, cX5_takenAt, 4, (some .int))
abbrev YX5_trace : Yt := (yX5_trace, cX5_trace, 4, none)
abbrev YX5_earnedBy : Yt := (yX5_earnedBy, cX5_earnedBy, 5, (some .int))
abbrev YX5_allEarned : Yt := (yX5_allEarned, cX5_allEarned, 4, (some .int))
abbrev YX5_saved : Yt := (yX5_saved, cX5_saved, 5, (some .int))
abbrev YX6_init : Yt := (yX6_init, cX6_init, 1, none)
abbrev YX6_bytesIn : Yt := (yX6_bytesIn, cX6_bytesIn, 3, (some .int))
abbrev YX6_put : Yt := (yX6_put, cX6_put, 4, none)
abbrev YX6_read : Yt := (yX6_read, cX6_read, 3, (some .int))
abbrev YX6_readStatement : Yt := (yX6_readStatement, cX6_readStatement, 4, none)
abbrev YX6_readCost : Yt := (yX6_readCost, cX6_readCost, 4, none)
abbrev YX6_readSource : Yt := (yX6_readSource, cX6_readSource, 4, none)
abbrev YX6_readLot : Yt := (yX6_readLot, cX6_readLot, 5, none)
abbrev YX6_readElse : Yt := (yX6_readElse, cX6_readElse, 4, none)
abbrev YX6_readNumber : Yt := (yX6_readNumber, cX6_readNumber, 4, (some .int))
abbrev YX6_isDigit : Yt := (yX6_isDigit, cX6_isDigit, 1, (some .boolean))
abbrev YX6_skipBlanks : Yt := (yX6_skipBlanks, cX6_skipBlanks, 1, none)
abbrev YX7_init : Yt := (yX7_init, cX7_init, 1, none)
abbrev YX7_reset : Yt := (yX7_reset, cX7_reset, 1, none)
abbrev YX7_copy : Yt := (yX7_copy, cX7_copy, 2, none)
abbrev YX7_same : Yt := (yX7_same, cX7_same, 2, (some .boolean))
abbrev YX7_sameButJoined : Yt := (yX7_sameButJoined, cX7_sameButJoined, 2, (some .boolean))
abbrev YX7_joins : Yt := (yX7_joins, cX7_joins, 2, (some .boolean))
abbrev YX8_init : Yt := (yX8_init, cX8_init, 1, none)
abbrev YX8_empty : Yt := (yX8_empty, cX8_empty, 3, none)
abbrev YX8_addLot : Yt := (yX8_addLot, cX8_addLot, 5, none)
abbrev YX8_addSource : Yt := (yX8_addSource, cX8_addSource, 3, none)
abbrev YX8_holds : Yt := (yX8_holds, cX8_holds, 2, (some .boolean))
abbrev YX8_isShop : Yt := (yX8_isShop, cX8_isShop, 2, (some .boolean))
abbrev YX8_allHouses : Yt := (yX8_allHouses, cX8_allHouses, 1, (some .int))
abbrev YX8_isBelow : Yt := (yX8_isBelow, cX8_isBelow, 5, (some .boolean))
abbrev YX9_init : Yt := (yX9_init, cX9_init, 1, none)
abbrev YX9_feed : Yt := (yX9_feed, cX9_feed, 7, (some .int))
abbrev YX9_end : Yt := (yX9_end, cX9_end, 2, (some .boolean))
abbrev YX9_fault : Yt := (yX9_fault, cX9_fault, 1, (some .int))
abbrev YX9_trade : Yt := (yX9_trade, cX9_trade, 1, (some .int))
abbrev YX9_house : Yt := (yX9_house, cX9_house, 5, (some .int))
abbrev YX9_houses : Yt := (yX9_houses, cX9_houses, 3, (some .int))
abbrev YX9_want : Yt := (yX9_want, cX9_want, 5, (some .int))
abbrev YX9_join : Yt := (yX9_join, cX9_join, 4, (some .boolean))
abbrev YX9_law : Yt := (yX9_law, cX9_law, 5, (some .boolean))
abbrev YX9_halve : Yt := (yX9_halve, cX9_halve, 4, (some .boolean))
abbrev YX9_ask : Yt := (yX9_ask, cX9_ask, 5, (some .int))
abbrev YX9_take : Yt := (yX9_take, cX9_take, 5, (some .int))
abbrev YX9_outcome : Yt := (yX9_outcome, cX9_outcome, 5, (some .int))
abbrev YX9_sum : Yt := (yX9_sum, cX9_sum, 4, (some .int))
abbrev YX9_passed : Yt := (yX9_passed, cX9_passed, 6, (some .int))
abbrev YX9_gain : Yt := (yX9_gain, cX9_gain, 4, (some .int))
abbrev YX9_tell : Yt := (yX9_tell, cX9_tell, 6, (some .boolean))
abbrev YX9_given : Yt := (yX9_given, cX9_given, 4, (some .int))
abbrev YX9_doers : Yt := (yX9_doers, cX9_doers, 3, (some .int))
abbrev YX9_fee : Yt := (yX9_fee, cX9_fee, 5, (some .int))
abbrev YX9_parts : Yt := (yX9_parts, cX9_parts, 5, (some .int))
abbrev YX9_takings : Yt := (yX9_takings, cX9_takings, 5, (some .int))
abbrev YX9_rivals : Yt := (yX9_rivals, cX9_rivals, 8, (some .int))
abbrev YX9_makers : Yt := (yX9_makers, cX9_makers, 7, (some .int))
abbrev YX9_chance : Yt := (yX9_chance, cX9_chance, 3, (some .int))
abbrev YX9_clear : Yt := (yX9_clear, cX9_clear, 1, (some .int))
abbrev YX9_expects : Yt := (yX9_expects, cX9_expects, 5, (some .int))
abbrev YX9_stock : Yt := (yX9_stock, cX9_stock, 4, (some .int))
abbrev YX9_seller : Yt := (yX9_seller, cX9_seller, 6, (some .int))
abbrev YX9_rather : Yt := (yX9_rather, cX9_rather, 4, (some .int))
abbrev YX9_rests : Yt := (yX9_rests, cX9_rests, 4, (some .int))
abbrev YX9_count : Yt := (yX9_count, cX9_count, 2, (some .int))
abbrev YX9_find : Yt := (yX9_find, cX9_find, 2, (some (.object "PriceUpon$Trade")))
abbrev YX9_findParted : Yt := (yX9_findParted, cX9_findParted, 4, (some (.object "PriceUpon$Trade")))
abbrev YX9_settleTogether : Yt := (yX9_settleTogether, cX9_settleTogether, 3, none)
abbrev YX9_settleFree : Yt := (yX9_settleFree, cX9_settleFree, 2, none)
abbrev YX9_isPrice : Yt := (yX9_isPrice, cX9_isPrice, 1, (some .boolean))
abbrev YX9_row : Yt := (yX9_row, cX9_row, 1, (some .int))
abbrev YX9_bestPrice : Yt := (yX9_bestPrice, cX9_bestPrice, 7, (some .int))
abbrev YX10_init : Yt := (yX10_init, cX10_init, 1, none)
abbrev YX10_thrown : Yt := (yX10_thrown, cX10_thrown, 1, (some .int))
abbrev YX10_isIn : Yt := (yX10_isIn, cX10_isIn, 3, (some .boolean))
abbrev YX10_bytesIn : Yt := (yX10_bytesIn, cX10_bytesIn, 3, (some .int))
abbrev YX10_put : Yt := (yX10_put, cX10_put, 3, none)
abbrev YX10_feed : Yt := (yX10_feed, cX10_feed, 6, (some .int))
abbrev YX10_end : Yt := (yX10_end, cX10_end, 2, (some .boolean))
abbrev YX10_here : Yt := (yX10_here, cX10_here, 1, (some .int))
abbrev YX10_look : Yt := (yX10_look, cX10_look, 1, (some .int))
abbrev YX10_fails : Yt := (yX10_fails, cX10_fails, 2, (some .boolean))
abbrev YX10_isDigit : Yt := (yX10_isDigit, cX10_isDigit, 1, (some .boolean))
abbrev YX10_number : Yt := (yX10_number, cX10_number, 4, (some .boolean))
abbrev YX10_readWant : Yt := (yX10_readWant, cX10_readWant, 3, (some .boolean))
abbrev YX10_readBuys : Yt := (yX10_readBuys, cX10_readBuys, 3, (some .boolean))
abbrev YX10_readTold : Yt := (yX10_readTold, cX10_readTold, 5, (some .boolean))
abbrev YX10_statement : Yt := (yX10_statement, cX10_statement, 4, (some .boolean))
abbrev YX10_readTrade : Yt := (yX10_readTrade, cX10_readTrade, 3, (some .boolean))
abbrev YX10_fault : Yt := (yX10_fault, cX10_fault, 2, (some .int))
abbrev YX10_trade : Yt := (yX10_trade, cX10_trade, 2, (some .int))
abbrev YX10_isTrade : Yt := (yX10_isTrade, cX10_isTrade, 2, (some .boolean))
abbrev YX10_isHouse : Yt := (yX10_isHouse, cX10_isHouse, 3, (some .boolean))
abbrev YX10_isPrice : Yt := (yX10_isPrice, cX10_isPrice, 1, (some .boolean))
abbrev YX10_buys : Yt := (yX10_buys, cX10_buys, 4, (some .boolean))
abbrev YX10_buyers : Yt := (yX10_buyers, cX10_buyers, 5, (some .int))
abbrev YX10_isShop : Yt := (yX10_isShop, cX10_isShop, 3, (some .boolean))
abbrev YX10_isMaker : Yt := (yX10_isMaker, cX10_isMaker, 3, (some .boolean))
abbrev YX10_wanted : Yt := (yX10_wanted, cX10_wanted, 6, (some .int))
abbrev YX10_costOf : Yt := (yX10_costOf, cX10_costOf, 3, (some .int))
abbrev YX10_house : Yt := (yX10_house, cX10_house, 4, (some .int))
abbrev YX10_houses : Yt := (yX10_houses, cX10_houses, 2, (some .int))
abbrev YX10_want : Yt := (yX10_want, cX10_want, 4, (some .int))
abbrev YX10_join : Yt := (yX10_join, cX10_join, 3, (some .boolean))
abbrev YX10_law : Yt := (yX10_law, cX10_law, 4, (some .boolean))
abbrev YX10_halve : Yt := (yX10_halve, cX10_halve, 3, (some .boolean))
abbrev YX10_terms : Yt := (yX10_terms, cX10_terms, 7, none)
abbrev YX10_termsOf : Yt := (yX10_termsOf, cX10_termsOf, 2, none)
abbrev YX10_isJoined : Yt := (yX10_isJoined, cX10_isJoined, 2, (some .boolean))
abbrev YX10_askBy : Yt := (yX10_askBy, cX10_askBy, 7, (some .int))
abbrev YX10_priceTo : Yt := (yX10_priceTo, cX10_priceTo, 4, (some .int))
abbrev YX10_bestPrice : Yt := (yX10_bestPrice, cX10_bestPrice, 7, (some .int))
abbrev YX10_alikePrice : Yt := (yX10_alikePrice, cX10_alikePrice, 8, (some .int))
abbrev YX10_halvedPrice : Yt := (yX10_halvedPrice, cX10_halvedPrice, 12, (some .int))
abbrev YX10_would : Yt := (yX10_would, cX10_would, 9, none)
abbrev YX10_takeBy : Yt := (yX10_takeBy, cX10_takeBy, 3, (some .int))
abbrev YX10_earnBy : Yt := (yX10_earnBy, cX10_earnBy, 3, (some .int))
abbrev YX10_ask : Yt := (yX10_ask, cX10_ask, 4, (some .int))
abbrev YX10_take : Yt := (yX10_take, cX10_take, 4, (some .int))
abbrev YX10_layOutcome : Yt := (yX10_layOutcome, cX10_layOutcome, 3, none)
abbrev YX10_earnsOf : Yt := (yX10_earnsOf, cX10_earnsOf, 2, (some .int))
abbrev YX10_outcome : Yt := (yX10_outcome, cX10_outcome, 4, (some .int))
abbrev YX10_allEarn : Yt := (yX10_allEarn, cX10_allEarn, 3, (some .int))
abbrev YX10_saving : Yt := (yX10_saving, cX10_saving, 5, (some .int))
abbrev YX10_everybody : Yt := (yX10_everybody, cX10_everybody, 2, (some .int))
abbrev YX10_sum : Yt := (yX10_sum, cX10_sum, 5, (some .int))
abbrev YX10_passed : Yt := (yX10_passed, cX10_passed, 7, (some .int))
abbrev YX10_gain : Yt := (yX10_gain, cX10_gain, 4, (some .int))
abbrev YX10_tell : Yt := (yX10_tell, cX10_tell, 5, (some .boolean))
abbrev YX10_toldTake : Yt := (yX10_toldTake, cX10_toldTake, 5, (some .int))
abbrev YX10_toldUnit : Yt := (yX10_toldUnit, cX10_toldUnit, 3, (some .int))
abbrev YX10_given : Yt := (yX10_given, cX10_given, 6, (some .int))
abbrev YX10_wouldElse : Yt := (yX10_wouldElse, cX10_wouldElse, 7, (some .boolean))
abbrev YX10_doers : Yt := (yX10_doers, cX10_doers, 4, (some .int))
abbrev YX10_isBehind : Yt := (yX10_isBehind, cX10_isBehind, 5, (some .boolean))
abbrev YX10_chainCost : Yt := (yX10_chainCost, cX10_chainCost, 5, (some .int))
abbrev YX10_freely : Yt := (yX10_freely, cX10_freely, 5, (some .int))
abbrev YX10_fee : Yt := (yX10_fee, cX10_fee, 6, (some .int))
abbrev YX10_bracket : Yt := (yX10_bracket, cX10_bracket, 6, (some .int))
abbrev YX10_isPair : Yt := (yX10_isPair, cX10_isPair, 9, (some .boolean))
abbrev YX10_layPairs : Yt := (yX10_layPairs, cX10_layPairs, 7, none)
abbrev YX10_isPartner : Yt := (yX10_isPartner, cX10_isPartner, 3, (some .boolean))
abbrev YX10_parts : Yt := (yX10_parts, cX10_parts, 4, (some .int))
abbrev YX10_takings : Yt := (yX10_takings, cX10_takings, 7, (some .int))
abbrev YX10_restsOf : Yt := (yX10_restsOf, cX10_restsOf, 7, (some .int))
abbrev YX10_rivals : Yt := (yX10_rivals, cX10_rivals, 11, (some .int))
abbrev YX10_makers : Yt := (yX10_makers, cX10_makers, 10, (some .int))
abbrev YX10_chance : Yt := (yX10_chance, cX10_chance, 3, (some .int))
abbrev YX10_clear : Yt := (yX10_clear, cX10_clear, 2, (some .int))
abbrev YX10_expected : Yt := (yX10_expected, cX10_expected, 8, (some .int))
abbrev YX10_isAsked : Yt := (yX10_isAsked, cX10_isAsked, 4, (some .boolean))
abbrev YX10_expects : Yt := (yX10_expects, cX10_expects, 5, (some .int))
abbrev YX10_bestStock : Yt := (yX10_bestStock, cX10_bestStock, 6, (some .int))
abbrev YX10_stock : Yt := (yX10_stock, cX10_stock, 4, (some .int))
abbrev YX10_sellerExpects : Yt := (yX10_sellerExpects, cX10_sellerExpects, 8, (some .int))
abbrev YX10_seller : Yt := (yX10_seller, cX10_seller, 9, (some .int))
abbrev YX10_oneWith : Yt := (yX10_oneWith, cX10_oneWith, 8, (some .int))
abbrev YX10_earnTogether : Yt := (yX10_earnTogether, cX10_earnTogether, 6, (some .int))
abbrev YX10_ratherBy : Yt := (yX10_ratherBy, cX10_ratherBy, 5, (some .int))
abbrev YX10_rather : Yt := (yX10_rather, cX10_rather, 3, (some .int))
abbrev YX10_rests : Yt := (yX10_rests, cX10_rests, 7, (some .int))
abbrev YX10_count : Yt := (yX10_count, cX10_count, 2, (some .int))
theorem fl_RX6_9 {y : Yt} (h : y.1.cls = RX6) : lnk y 9 6 0 := by
  show Cond.fieldLink y.1.cls 9 _ _ _ ∈ gtb
  rw [h]
  exact gt_of 31 (by decide +kernel) rfl
theorem fl_RX6_15 {y : Yt} (h : y.1.cls = RX6) : lnk y 15 6 1 := by
  show Cond.fieldLink y.1.cls 15 _ _ _ ∈ gtb
  rw [h]
  exact gt_of 32 (by decide +kernel) rfl
theorem fl_RX9_87 {y : Yt} (h : y.1.cls = RX9) : lnk y 87 6 1 := by
  show Cond.fieldLink y.1.cls 87 _ _ _ ∈ gtb
  rw [h]
  exact gt_of 33 (by decide +kernel) rfl
theorem fl_RX6_19 {y : Yt} (h : y.1.cls = RX6) : lnk y 19 6 2 := by
  show Cond.fieldLink y.1.cls 19 _ _ _ ∈ gtb
  rw [h]
  exact gt_of 34 (by decide +kernel) rfl
theorem fl_RX6_22 {y : Yt} (h : y.1.cls = RX6) : lnk y 22 6 3 := by
  show Cond.fieldLink y.1.cls 22 _ _ _ ∈ gtb
  rw [h]
  exact gt_of 35 (by decide +kernel) rfl
theorem fl_RX7_9 {y : Yt} (h : y.1.cls = RX7) : lnk y 9 7 0 := by
  show Cond.fieldLink y.1.cls 9 _ _ _ ∈ gtb
  rw [h]
  exact gt_of 61 (by decide +kernel) rfl
theorem fl_RX4_33 {y : Yt} (h : y.1.cls = RX4) : lnk y 33 7 0 := by
  show Cond.fieldLink y.1.cls 33 _ _ _ ∈ gtb
  rw [h]
  exact gt_of 62 (by decide +kernel) rfl
theorem fl_RX9_146 {y : Yt} (h : y.1.cls = RX9) : lnk y 146 7 0 := by
  show Cond.fieldLink y.1.cls 146 _ _ _ ∈ gtb
  rw [h]
  exact gt_of 63 (by decide +kernel) rfl
theorem fl_RX7_15 {y : Yt} (h : y.1.cls = RX7) : lnk y 15 7 1 := by
  show Cond.fieldLink y.1.cls 15 _ _ _ ∈ gtb
  rw [h]
  exact gt_of 64 (by decide +kernel) rfl
theorem fl_RX5_115 {y : Yt} (h : y.1.cls = RX5) : lnk y 115 7 1 := by
  show Cond.fieldLink y.1.cls 115 _ _ _ ∈ gtb
  rw [h]
  exact gt_of 65 (by decide +kernel) rfl
theorem fl_RX9_149 {y : Yt} (h : y.1.cls = RX9) : lnk y 149 7 1 := by
  show Cond.fieldLink y.1.cls 149 _ _ _ ∈ gtb
  rw [h]
  exact gt_of 66 (by decide +kernel) rfl
theorem fl_RX7_18 {y : Yt} (h : y.1.cls = RX7) : lnk y 18 7 2 := by
  show Cond.fieldLink y.1.cls 18 _ _ _ ∈ gtb
  rw [h]
  exact gt_of 67 (by decide +kernel) rfl
theorem fl_RX5_122 {y : Yt} (h : y.1.cls = RX5) : lnk y 122 7 2 := by
  show Cond.fieldLink y.1.cls 122 _ _ _ ∈ gtb
  rw [h]
  exact gt_of 68 (by decide +kernel) rfl
theorem fl_RX9_152 {y : Yt} (h : y.1.cls = RX9) : lnk y 152 7 2 := by
  show Cond.fieldLink y.1.cls 152 _ _ _ ∈ gtb
  rw [h]
  exact gt_of 69 (by decide +kernel) rfl
theorem fl_RX7_22 {y : Yt} (h : y.1.cls = RX7) : lnk y 22 7 3 := by
  show Cond.fieldLink y.1.cls 22 _ _ _ ∈ gtb
  rw [h]
  exact gt_of 70 (by decide +kernel) rfl
theorem fl_RX5_126 {y : Yt} (h : y.1.cls = RX5) : lnk y 126 7 3 := by
  show Cond.fieldLink y.1.cls 126 _ _ _ ∈ gtb
  rw [h]
  exact gt_of 71 (by decide +kernel) rfl
theorem fl_RX9_159 {y : Yt} (h : y.1.cls = RX9) : lnk y 159 7 3 := by
  show Cond.fieldLink y.1.cls 159 _ _ _ ∈ gtb
  rw [h]
  exact gt_of 72 (by decide +kernel) rfl
theorem fl_RX7_25 {y : Yt} (h : y.1.cls = RX7) : lnk y 25 7 4 := by
  show Cond.fieldLink y.1.cls 25 _ _ _ ∈ gtb
  rw [h]
  exact gt_of 73 (by decide +kernel) rfl
theorem fl_RX5_74 {y : Yt} (h : y.1.cls = RX5) : lnk y 74 7 4 := by
  show Cond.fieldLink y.1.cls 74 _ _ _ ∈ gtb
  rw [h]
  exact gt_of 74 (by decide +kernel) rfl
theorem fl_RX9_201 {y : Yt} (h : y.1.cls = RX9) : lnk y 201 7 4 := by
  show Cond.fieldLink y.1.cls 201 _ _ _ ∈ gtb
  rw [h]
  exact gt_of 75 (by decide +kernel) rfl
theorem fl_RX7_28 {y : Yt} (h : y.1.cls = RX7) : lnk y 28 7 5 := by
  show Cond.fieldLink y.1.cls 28 _ _ _ ∈ gtb
  rw [h]
  exact gt_of 76 (by decide +kernel) rfl
theorem fl_RX5_77 {y : Yt} (h : y.1.cls = RX5) : lnk y 77 7 5 := by
  show Cond.fieldLink y.1.cls 77 _ _ _ ∈ gtb
  rw [h]
  exact gt_of 77 (by decide +kernel) rfl
theorem fl_RX9_204 {y : Yt} (h : y.1.cls = RX9) : lnk y 204 7 5 := by
  show Cond.fieldLink y.1.cls 204 _ _ _ ∈ gtb
  rw [h]
  exact gt_of 78 (by decide +kernel) rfl
theorem fl_RX8_9 {y : Yt} (h : y.1.cls = RX8) : lnk y 9 8 0 := by
  show Cond.fieldLink y.1.cls 9 _ _ _ ∈ gtb
  rw [h]
  exact gt_of 92 (by decide +kernel) rfl
theorem fl_RX2_15 {y : Yt} (h : y.1.cls = RX2) : lnk y 15 8 0 := by
  show Cond.fieldLink y.1.cls 15 _ _ _ ∈ gtb
  rw [h]
  exact gt_of 93 (by decide +kernel) rfl
theorem fl_RX4_20 {y : Yt} (h : y.1.cls = RX4) : lnk y 20 8 0 := by
  show Cond.fieldLink y.1.cls 20 _ _ _ ∈ gtb
  rw [h]
  exact gt_of 94 (by decide +kernel) rfl
theorem fl_RX3_26 {y : Yt} (h : y.1.cls = RX3) : lnk y 26 8 0 := by
  show Cond.fieldLink y.1.cls 26 _ _ _ ∈ gtb
  rw [h]
  exact gt_of 95 (by decide +kernel) rfl
theorem fl_RX5_67 {y : Yt} (h : y.1.cls = RX5) : lnk y 67 8 0 := by
  show Cond.fieldLink y.1.cls 67 _ _ _ ∈ gtb
  rw [h]
  exact gt_of 96 (by decide +kernel) rfl
theorem fl_RX6_41 {y : Yt} (h : y.1.cls = RX6) : lnk y 41 8 0 := by
  show Cond.fieldLink y.1.cls 41 _ _ _ ∈ gtb
  rw [h]
  exact gt_of 97 (by decide +kernel) rfl
theorem fl_RX9_133 {y : Yt} (h : y.1.cls = RX9) : lnk y 133 8 0 := by
  show Cond.fieldLink y.1.cls 133 _ _ _ ∈ gtb
  rw [h]
  exact gt_of 98 (by decide +kernel) rfl
theorem fl_RX8_15 {y : Yt} (h : y.1.cls = RX8) : lnk y 15 8 1 := by
  show Cond.fieldLink y.1.cls 15 _ _ _ ∈ gtb
  rw [h]
  exact gt_of 99 (by decide +kernel) rfl
theorem fl_RX6_67 {y : Yt} (h : y.1.cls = RX6) : lnk y 67 8 1 := by
  show Cond.fieldLink y.1.cls 67 _ _ _ ∈ gtb
  rw [h]
  exact gt_of 100 (by decide +kernel) rfl
theorem fl_RX8_18 {y : Yt} (h : y.1.cls = RX8) : lnk y 18 8 2 := by
  show Cond.fieldLink y.1.cls 18 _ _ _ ∈ gtb
  rw [h]
  exact gt_of 101 (by decide +kernel) rfl
theorem fl_RX5_73 {y : Yt} (h : y.1.cls = RX5) : lnk y 73 8 2 := by
  show Cond.fieldLink y.1.cls 73 _ _ _ ∈ gtb
  rw [h]
  exact gt_of 102 (by decide +kernel) rfl
theorem fl_RX1_36 {y : Yt} (h : y.1.cls = RX1) : lnk y 36 8 2 := by
  show Cond.fieldLink y.1.cls 36 _ _ _ ∈ gtb
  rw [h]
  exact gt_of 103 (by decide +kernel) rfl
theorem fl_RX2_46 {y : Yt} (h : y.1.cls = RX2) : lnk y 46 8 2 := by
  show Cond.fieldLink y.1.cls 46 _ _ _ ∈ gtb
  rw [h]
  exact gt_of 104 (by decide +kernel) rfl
theorem fl_RX3_43 {y : Yt} (h : y.1.cls = RX3) : lnk y 43 8 2 := by
  show Cond.fieldLink y.1.cls 43 _ _ _ ∈ gtb
  rw [h]
  exact gt_of 105 (by decide +kernel) rfl
theorem fl_RX6_57 {y : Yt} (h : y.1.cls = RX6) : lnk y 57 8 2 := by
  show Cond.fieldLink y.1.cls 57 _ _ _ ∈ gtb
  rw [h]
  exact gt_of 106 (by decide +kernel) rfl
theorem fl_RX9_113 {y : Yt} (h : y.1.cls = RX9) : lnk y 113 8 2 := by
  show Cond.fieldLink y.1.cls 113 _ _ _ ∈ gtb
  rw [h]
  exact gt_of 107 (by decide +kernel) rfl
theorem fl_RX8_22 {y : Yt} (h : y.1.cls = RX8) : lnk y 22 8 3 := by
  show Cond.fieldLink y.1.cls 22 _ _ _ ∈ gtb
  rw [h]
  exact gt_of 108 (by decide +kernel) rfl
theorem fl_RX4_26 {y : Yt} (h : y.1.cls = RX4) : lnk y 26 8 3 := by
  show Cond.fieldLink y.1.cls 26 _ _ _ ∈ gtb
  rw [h]
  exact gt_of 109 (by decide +kernel) rfl
theorem fl_RX2_32 {y : Yt} (h : y.1.cls = RX2) : lnk y 32 8 3 := by
  show Cond.fieldLink y.1.cls 32 _ _ _ ∈ gtb
  rw [h]
  exact gt_of 110 (by decide +kernel) rfl
theorem fl_RX5_106 {y : Yt} (h : y.1.cls = RX5) : lnk y 106 8 3 := by
  show Cond.fieldLink y.1.cls 106 _ _ _ ∈ gtb
  rw [h]
  exact gt_of 111 (by decide +kernel) rfl
theorem fl_RX9_117 {y : Yt} (h : y.1.cls = RX9) : lnk y 117 8 3 := by
  show Cond.fieldLink y.1.cls 117 _ _ _ ∈ gtb
  rw [h]
  exact gt_of 112 (by decide +kernel) rfl
theorem fl_RX6_60 {y : Yt} (h : y.1.cls = RX6) : lnk y 60 8 3 := by
  show Cond.fieldLink y.1.cls 60 _ _ _ ∈ gtb
  rw [h]
  exact gt_of 113 (by decide +kernel) rfl
theorem fl_RX8_25 {y : Yt} (h : y.1.cls = RX8) : lnk y 25 8 4 := by
  show Cond.fieldLink y.1.cls 25 _ _ _ ∈ gtb
  rw [h]
  exact gt_of 114 (by decide +kernel) rfl
theorem fl_RX3_40 {y : Yt} (h : y.1.cls = RX3) : lnk y 40 8 4 := by
  show Cond.fieldLink y.1.cls 40 _ _ _ ∈ gtb
  rw [h]
  exact gt_of 115 (by decide +kernel) rfl
theorem fl_RX9_120 {y : Yt} (h : y.1.cls = RX9) : lnk y 120 8 4 := by
  show Cond.fieldLink y.1.cls 120 _ _ _ ∈ gtb
  rw [h]
  exact gt_of 116 (by decide +kernel) rfl
theorem fl_RX6_74 {y : Yt} (h : y.1.cls = RX6) : lnk y 74 8 4 := by
  show Cond.fieldLink y.1.cls 74 _ _ _ ∈ gtb
  rw [h]
  exact gt_of 117 (by decide +kernel) rfl
theorem fl_RX8_28 {y : Yt} (h : y.1.cls = RX8) : lnk y 28 8 5 := by
  show Cond.fieldLink y.1.cls 28 _ _ _ ∈ gtb
  rw [h]
  exact gt_of 118 (by decide +kernel) rfl
theorem fl_RX9_123 {y : Yt} (h : y.1.cls = RX9) : lnk y 123 8 5 := by
  show Cond.fieldLink y.1.cls 123 _ _ _ ∈ gtb
  rw [h]
  exact gt_of 119 (by decide +kernel) rfl
theorem fl_RX8_33 {y : Yt} (h : y.1.cls = RX8) : lnk y 33 8 6 := by
  show Cond.fieldLink y.1.cls 33 _ _ _ ∈ gtb
  rw [h]
  exact gt_of 120 (by decide +kernel) rfl
theorem fl_RX2_25 {y : Yt} (h : y.1.cls = RX2) : lnk y 25 8 6 := by
  show Cond.fieldLink y.1.cls 25 _ _ _ ∈ gtb
  rw [h]
  exact gt_of 121 (by decide +kernel) rfl
theorem fl_RX1_30 {y : Yt} (h : y.1.cls = RX1) : lnk y 30 8 6 := by
  show Cond.fieldLink y.1.cls 30 _ _ _ ∈ gtb
  rw [h]
  exact gt_of 122 (by decide +kernel) rfl
theorem fl_RX3_46 {y : Yt} (h : y.1.cls = RX3) : lnk y 46 8 6 := by
  show Cond.fieldLink y.1.cls 46 _ _ _ ∈ gtb
  rw [h]
  exact gt_of 123 (by decide +kernel) rfl
theorem fl_RX5_112 {y : Yt} (h : y.1.cls = RX5) : lnk y 112 8 6 := by
  show Cond.fieldLink y.1.cls 112 _ _ _ ∈ gtb
  rw [h]
  exact gt_of 124 (by decide +kernel) rfl
theorem fl_RX9_129 {y : Yt} (h : y.1.cls = RX9) : lnk y 129 8 6 := by
  show Cond.fieldLink y.1.cls 129 _ _ _ ∈ gtb
  rw [h]
  exact gt_of 125 (by decide +kernel) rfl
theorem fl_RX8_39 {y : Yt} (h : y.1.cls = RX8) : lnk y 39 8 7 := by
  show Cond.fieldLink y.1.cls 39 _ _ _ ∈ gtb
  rw [h]
  exact gt_of 126 (by decide +kernel) rfl
theorem fl_RX9_143 {y : Yt} (h : y.1.cls = RX9) : lnk y 143 8 7 := by
  show Cond.fieldLink y.1.cls 143 _ _ _ ∈ gtb
  rw [h]
  exact gt_of 127 (by decide +kernel) rfl
theorem fl_RX8_43 {y : Yt} (h : y.1.cls = RX8) : lnk y 43 8 8 := by
  show Cond.fieldLink y.1.cls 43 _ _ _ ∈ gtb
  rw [h]
  exact gt_of 128 (by decide +kernel) rfl
theorem fl_RX2_43 {y : Yt} (h : y.1.cls = RX2) : lnk y 43 8 8 := by
  show Cond.fieldLink y.1.cls 43 _ _ _ ∈ gtb
  rw [h]
  exact gt_of 129 (by decide +kernel) rfl
theorem fl_RX9_210 {y : Yt} (h : y.1.cls = RX9) : lnk y 210 8 8 := by
  show Cond.fieldLink y.1.cls 210 _ _ _ ∈ gtb
  rw [h]
  exact gt_of 130 (by decide +kernel) rfl
theorem fl_RX8_46 {y : Yt} (h : y.1.cls = RX8) : lnk y 46 8 9 := by
  show Cond.fieldLink y.1.cls 46 _ _ _ ∈ gtb
  rw [h]
  exact gt_of 131 (by decide +kernel) rfl
theorem fl_RX2_29 {y : Yt} (h : y.1.cls = RX2) : lnk y 29 8 9 := by
  show Cond.fieldLink y.1.cls 29 _ _ _ ∈ gtb
  rw [h]
  exact gt_of 132 (by decide +kernel) rfl
theorem fl_RX9_207 {y : Yt} (h : y.1.cls = RX9) : lnk y 207 8 9 := by
  show Cond.fieldLink y.1.cls 207 _ _ _ ∈ gtb
  rw [h]
  exact gt_of 133 (by decide +kernel) rfl
theorem fl_RX8_49 {y : Yt} (h : y.1.cls = RX8) : lnk y 49 8 10 := by
  show Cond.fieldLink y.1.cls 49 _ _ _ ∈ gtb
  rw [h]
  exact gt_of 134 (by decide +kernel) rfl
theorem fl_RX4_53 {y : Yt} (h : y.1.cls = RX4) : lnk y 53 8 10 := by
  show Cond.fieldLink y.1.cls 53 _ _ _ ∈ gtb
  rw [h]
  exact gt_of 135 (by decide +kernel) rfl
theorem fl_RX9_301 {y : Yt} (h : y.1.cls = RX9) : lnk y 301 8 10 := by
  show Cond.fieldLink y.1.cls 301 _ _ _ ∈ gtb
  rw [h]
  exact gt_of 136 (by decide +kernel) rfl
theorem fl_RX8_52 {y : Yt} (h : y.1.cls = RX8) : lnk y 52 8 11 := by
  show Cond.fieldLink y.1.cls 52 _ _ _ ∈ gtb
  rw [h]
  exact gt_of 137 (by decide +kernel) rfl
theorem fl_RX4_46 {y : Yt} (h : y.1.cls = RX4) : lnk y 46 8 11 := by
  show Cond.fieldLink y.1.cls 46 _ _ _ ∈ gtb
  rw [h]
  exact gt_of 138 (by decide +kernel) rfl
theorem fl_RX9_298 {y : Yt} (h : y.1.cls = RX9) : lnk y 298 8 11 := by
  show Cond.fieldLink y.1.cls 298 _ _ _ ∈ gtb
  rw [h]
  exact gt_of 139 (by decide +kernel) rfl
theorem fl_RX8_55 {y : Yt} (h : y.1.cls = RX8) : lnk y 55 8 12 := by
  show Cond.fieldLink y.1.cls 55 _ _ _ ∈ gtb
  rw [h]
  exact gt_of 140 (by decide +kernel) rfl
theorem fl_RX4_56 {y : Yt} (h : y.1.cls = RX4) : lnk y 56 8 12 := by
  show Cond.fieldLink y.1.cls 56 _ _ _ ∈ gtb
  rw [h]
  exact gt_of 141 (by decide +kernel) rfl
theorem fl_RX9_156 {y : Yt} (h : y.1.cls = RX9) : lnk y 156 8 12 := by
  show Cond.fieldLink y.1.cls 156 _ _ _ ∈ gtb
  rw [h]
  exact gt_of 142 (by decide +kernel) rfl
theorem fl_RX5_9 {y : Yt} (h : y.1.cls = RX5) : lnk y 9 5 0 := by
  show Cond.fieldLink y.1.cls 9 _ _ _ ∈ gtb
  rw [h]
  exact gt_of 181 (by decide +kernel) rfl
theorem fl_RX5_18 {y : Yt} (h : y.1.cls = RX5) : lnk y 18 5 1 := by
  show Cond.fieldLink y.1.cls 18 _ _ _ ∈ gtb
  rw [h]
  exact gt_of 182 (by decide +kernel) rfl
theorem fl_RX5_22 {y : Yt} (h : y.1.cls = RX5) : lnk y 22 5 2 := by
  show Cond.fieldLink y.1.cls 22 _ _ _ ∈ gtb
  rw [h]
  exact gt_of 183 (by decide +kernel) rfl
theorem fl_RX5_28 {y : Yt} (h : y.1.cls = RX5) : lnk y 28 5 3 := by
  show Cond.fieldLink y.1.cls 28 _ _ _ ∈ gtb
  rw [h]
  exact gt_of 184 (by decide +kernel) rfl
theorem fl_RX5_31 {y : Yt} (h : y.1.cls = RX5) : lnk y 31 5 4 := by
  show Cond.fieldLink y.1.cls 31 _ _ _ ∈ gtb
  rw [h]
  exact gt_of 185 (by decide +kernel) rfl
theorem fl_RX5_34 {y : Yt} (h : y.1.cls = RX5) : lnk y 34 5 5 := by
  show Cond.fieldLink y.1.cls 34 _ _ _ ∈ gtb
  rw [h]
  exact gt_of 186 (by decide +kernel) rfl
theorem fl_RX5_37 {y : Yt} (h : y.1.cls = RX5) : lnk y 37 5 6 := by
  show Cond.fieldLink y.1.cls 37 _ _ _ ∈ gtb
  rw [h]
  exact gt_of 187 (by decide +kernel) rfl
theorem fl_RX5_40 {y : Yt} (h : y.1.cls = RX5) : lnk y 40 5 7 := by
  show Cond.fieldLink y.1.cls 40 _ _ _ ∈ gtb
  rw [h]
  exact gt_of 188 (by decide +kernel) rfl
theorem fl_RX9_175 {y : Yt} (h : y.1.cls = RX9) : lnk y 175 5 7 := by
  show Cond.fieldLink y.1.cls 175 _ _ _ ∈ gtb
  rw [h]
  exact gt_of 189 (by decide +kernel) rfl
theorem fl_RX5_43 {y : Yt} (h : y.1.cls = RX5) : lnk y 43 5 8 := by
  show Cond.fieldLink y.1.cls 43 _ _ _ ∈ gtb
  rw [h]
  exact gt_of 190 (by decide +kernel) rfl
theorem fl_RX3_62 {y : Yt} (h : y.1.cls = RX3) : lnk y 62 5 8 := by
  show Cond.fieldLink y.1.cls 62 _ _ _ ∈ gtb
  rw [h]
  exact gt_of 191 (by decide +kernel) rfl
theorem fl_RX5_46 {y : Yt} (h : y.1.cls = RX5) : lnk y 46 5 9 := by
  show Cond.fieldLink y.1.cls 46 _ _ _ ∈ gtb
  rw [h]
  exact gt_of 192 (by decide +kernel) rfl
theorem fl_RX3_54 {y : Yt} (h : y.1.cls = RX3) : lnk y 54 5 9 := by
  show Cond.fieldLink y.1.cls 54 _ _ _ ∈ gtb
  rw [h]
  exact gt_of 193 (by decide +kernel) rfl
theorem fl_RX9_178 {y : Yt} (h : y.1.cls = RX9) : lnk y 178 5 9 := by
  show Cond.fieldLink y.1.cls 178 _ _ _ ∈ gtb
  rw [h]
  exact gt_of 194 (by decide +kernel) rfl
theorem fl_RX5_49 {y : Yt} (h : y.1.cls = RX5) : lnk y 49 5 10 := by
  show Cond.fieldLink y.1.cls 49 _ _ _ ∈ gtb
  rw [h]
  exact gt_of 195 (by decide +kernel) rfl
theorem fl_RX3_57 {y : Yt} (h : y.1.cls = RX3) : lnk y 57 5 10 := by
  show Cond.fieldLink y.1.cls 57 _ _ _ ∈ gtb
  rw [h]
  exact gt_of 196 (by decide +kernel) rfl
theorem fl_RX9_181 {y : Yt} (h : y.1.cls = RX9) : lnk y 181 5 10 := by
  show Cond.fieldLink y.1.cls 181 _ _ _ ∈ gtb
  rw [h]
  exact gt_of 197 (by decide +kernel) rfl
theorem fl_RX5_52 {y : Yt} (h : y.1.cls = RX5) : lnk y 52 5 11 := by
  show Cond.fieldLink y.1.cls 52 _ _ _ ∈ gtb
  rw [h]
  exact gt_of 198 (by decide +kernel) rfl
theorem fl_RX3_35 {y : Yt} (h : y.1.cls = RX3) : lnk y 35 5 11 := by
  show Cond.fieldLink y.1.cls 35 _ _ _ ∈ gtb
  rw [h]
  exact gt_of 199 (by decide +kernel) rfl
theorem fl_RX4_44 {y : Yt} (h : y.1.cls = RX4) : lnk y 44 5 11 := by
  show Cond.fieldLink y.1.cls 44 _ _ _ ∈ gtb
  rw [h]
  exact gt_of 200 (by decide +kernel) rfl
theorem fl_RX9_184 {y : Yt} (h : y.1.cls = RX9) : lnk y 184 5 11 := by
  show Cond.fieldLink y.1.cls 184 _ _ _ ∈ gtb
  rw [h]
  exact gt_of 201 (by decide +kernel) rfl
theorem fl_RX2_9 {y : Yt} (h : y.1.cls = RX2) : lnk y 9 2 0 := by
  show Cond.fieldLink y.1.cls 9 _ _ _ ∈ gtb
  rw [h]
  exact gt_of 233 (by decide +kernel) rfl
theorem fl_RX3_9 {y : Yt} (h : y.1.cls = RX3) : lnk y 9 3 0 := by
  show Cond.fieldLink y.1.cls 9 _ _ _ ∈ gtb
  rw [h]
  exact gt_of 243 (by decide +kernel) rfl
theorem fl_RX9_247 {y : Yt} (h : y.1.cls = RX9) : lnk y 247 3 0 := by
  show Cond.fieldLink y.1.cls 247 _ _ _ ∈ gtb
  rw [h]
  exact gt_of 244 (by decide +kernel) rfl
theorem fl_RX3_15 {y : Yt} (h : y.1.cls = RX3) : lnk y 15 3 1 := by
  show Cond.fieldLink y.1.cls 15 _ _ _ ∈ gtb
  rw [h]
  exact gt_of 245 (by decide +kernel) rfl
theorem fl_RX9_244 {y : Yt} (h : y.1.cls = RX9) : lnk y 244 3 1 := by
  show Cond.fieldLink y.1.cls 244 _ _ _ ∈ gtb
  rw [h]
  exact gt_of 246 (by decide +kernel) rfl
theorem fl_RX3_19 {y : Yt} (h : y.1.cls = RX3) : lnk y 19 3 2 := by
  show Cond.fieldLink y.1.cls 19 _ _ _ ∈ gtb
  rw [h]
  exact gt_of 247 (by decide +kernel) rfl
theorem fl_RX3_23 {y : Yt} (h : y.1.cls = RX3) : lnk y 23 3 3 := by
  show Cond.fieldLink y.1.cls 23 _ _ _ ∈ gtb
  rw [h]
  exact gt_of 248 (by decide +kernel) rfl
theorem fl_RX1_9 {y : Yt} (h : y.1.cls = RX1) : lnk y 9 1 0 := by
  show Cond.fieldLink y.1.cls 9 _ _ _ ∈ gtb
  rw [h]
  exact gt_of 264 (by decide +kernel) rfl
theorem fl_RX1_15 {y : Yt} (h : y.1.cls = RX1) : lnk y 15 1 1 := by
  show Cond.fieldLink y.1.cls 15 _ _ _ ∈ gtb
  rw [h]
  exact gt_of 265 (by decide +kernel) rfl
theorem fl_RX1_18 {y : Yt} (h : y.1.cls = RX1) : lnk y 18 1 2 := by
  show Cond.fieldLink y.1.cls 18 _ _ _ ∈ gtb
  rw [h]
  exact gt_of 266 (by decide +kernel) rfl
theorem fl_RX1_21 {y : Yt} (h : y.1.cls = RX1) : lnk y 21 1 3 := by
  show Cond.fieldLink y.1.cls 21 _ _ _ ∈ gtb
  rw [h]
  exact gt_of 267 (by decide +kernel) rfl
theorem fl_RX1_24 {y : Yt} (h : y.1.cls = RX1) : lnk y 24 1 4 := by
  show Cond.fieldLink y.1.cls 24 _ _ _ ∈ gtb
  rw [h]
  exact gt_of 268 (by decide +kernel) rfl
theorem fl_RX1_27 {y : Yt} (h : y.1.cls = RX1) : lnk y 27 1 5 := by
  show Cond.fieldLink y.1.cls 27 _ _ _ ∈ gtb
  rw [h]
  exact gt_of 269 (by decide +kernel) rfl
theorem fl_RX4_9 {y : Yt} (h : y.1.cls = RX4) : lnk y 9 4 0 := by
  show Cond.fieldLink y.1.cls 9 _ _ _ ∈ gtb
  rw [h]
  exact gt_of 290 (by decide +kernel) rfl
theorem fl_RX4_17 {y : Yt} (h : y.1.cls = RX4) : lnk y 17 4 1 := by
  show Cond.fieldLink y.1.cls 17 _ _ _ ∈ gtb
  rw [h]
  exact gt_of 291 (by decide +kernel) rfl
theorem fl_RX0_9 {y : Yt} (h : y.1.cls = RX0) : lnk y 9 0 0 := by
  show Cond.fieldLink y.1.cls 9 _ _ _ ∈ gtb
  rw [h]
  exact gt_of 303 (by decide +kernel) rfl
theorem fl_RX0_15 {y : Yt} (h : y.1.cls = RX0) : lnk y 15 0 1 := by
  show Cond.fieldLink y.1.cls 15 _ _ _ ∈ gtb
  rw [h]
  exact gt_of 304 (by decide +kernel) rfl
theorem fl_RX0_18 {y : Yt} (h : y.1.cls = RX0) : lnk y 18 0 2 := by
  show Cond.fieldLink y.1.cls 18 _ _ _ ∈ gtb
  rw [h]
  exact gt_of 305 (by decide +kernel) rfl
theorem fl_RX9_272 {y : Yt} (h : y.1.cls = RX9) : lnk y 272 0 2 := by
  show Cond.fieldLink y.1.cls 272 _ _ _ ∈ gtb
  rw [h]
  exact gt_of 306 (by decide +kernel) rfl
theorem fl_RX0_22 {y : Yt} (h : y.1.cls = RX0) : lnk y 22 0 3 := by
  show Cond.fieldLink y.1.cls 22 _ _ _ ∈ gtb
  rw [h]
  exact gt_of 307 (by decide +kernel) rfl
theorem fl_RX9_12 {y : Yt} (h : y.1.cls = RX9) : lnk y 12 9 0 := by
  show Cond.fieldLink y.1.cls 12 _ _ _ ∈ gtb
  rw [h]
  exact gt_of 317 (by decide +kernel) rfl
theorem fl_RX9_18 {y : Yt} (h : y.1.cls = RX9) : lnk y 18 9 1 := by
  show Cond.fieldLink y.1.cls 18 _ _ _ ∈ gtb
  rw [h]
  exact gt_of 318 (by decide +kernel) rfl
theorem fl_RX9_22 {y : Yt} (h : y.1.cls = RX9) : lnk y 22 9 2 := by
  show Cond.fieldLink y.1.cls 22 _ _ _ ∈ gtb
  rw [h]
  exact gt_of 319 (by decide +kernel) rfl
theorem fl_RX9_27 {y : Yt} (h : y.1.cls = RX9) : lnk y 27 9 3 := by
  show Cond.fieldLink y.1.cls 27 _ _ _ ∈ gtb
  rw [h]
  exact gt_of 320 (by decide +kernel) rfl
theorem fl_RX9_34 {y : Yt} (h : y.1.cls = RX9) : lnk y 34 9 4 := by
  show Cond.fieldLink y.1.cls 34 _ _ _ ∈ gtb
  rw [h]
  exact gt_of 321 (by decide +kernel) rfl
theorem fl_RX9_41 {y : Yt} (h : y.1.cls = RX9) : lnk y 41 9 5 := by
  show Cond.fieldLink y.1.cls 41 _ _ _ ∈ gtb
  rw [h]
  exact gt_of 322 (by decide +kernel) rfl
theorem fl_RX9_45 {y : Yt} (h : y.1.cls = RX9) : lnk y 45 9 6 := by
  show Cond.fieldLink y.1.cls 45 _ _ _ ∈ gtb
  rw [h]
  exact gt_of 323 (by decide +kernel) rfl
theorem fl_RX9_51 {y : Yt} (h : y.1.cls = RX9) : lnk y 51 9 7 := by
  show Cond.fieldLink y.1.cls 51 _ _ _ ∈ gtb
  rw [h]
  exact gt_of 324 (by decide +kernel) rfl
theorem fl_RX9_58 {y : Yt} (h : y.1.cls = RX9) : lnk y 58 9 8 := by
  show Cond.fieldLink y.1.cls 58 _ _ _ ∈ gtb
  rw [h]
  exact gt_of 325 (by decide +kernel) rfl
theorem fl_RX9_65 {y : Yt} (h : y.1.cls = RX9) : lnk y 65 9 9 := by
  show Cond.fieldLink y.1.cls 65 _ _ _ ∈ gtb
  rw [h]
  exact gt_of 326 (by decide +kernel) rfl
theorem fl_RX9_72 {y : Yt} (h : y.1.cls = RX9) : lnk y 72 9 10 := by
  show Cond.fieldLink y.1.cls 72 _ _ _ ∈ gtb
  rw [h]
  exact gt_of 327 (by decide +kernel) rfl
theorem fl_RX9_79 {y : Yt} (h : y.1.cls = RX9) : lnk y 79 9 11 := by
  show Cond.fieldLink y.1.cls 79 _ _ _ ∈ gtb
  rw [h]
  exact gt_of 328 (by decide +kernel) rfl
theorem fl_RX10_84 {y : Yt} (h : y.1.cls = RX10) : lnk y 84 10 0 := by
  show Cond.fieldLink y.1.cls 84 _ _ _ ∈ gtb
  rw [h]
  exact gt_of 868 (by decide +kernel) rfl
theorem fl_RX10_9 {y : Yt} (h : y.1.cls = RX10) : lnk y 9 10 1 := by
  show Cond.fieldLink y.1.cls 9 _ _ _ ∈ gtb
  rw [h]
  exact gt_of 869 (by decide +kernel) rfl
theorem fl_RX10_88 {y : Yt} (h : y.1.cls = RX10) : lnk y 88 10 2 := by
  show Cond.fieldLink y.1.cls 88 _ _ _ ∈ gtb
  rw [h]
  exact gt_of 870 (by decide +kernel) rfl
theorem fl_RX10_99 {y : Yt} (h : y.1.cls = RX10) : lnk y 99 10 3 := by
  show Cond.fieldLink y.1.cls 99 _ _ _ ∈ gtb
  rw [h]
  exact gt_of 871 (by decide +kernel) rfl
theorem fl_RX10_106 {y : Yt} (h : y.1.cls = RX10) : lnk y 106 10 4 := by
  show Cond.fieldLink y.1.cls 106 _ _ _ ∈ gtb
  rw [h]
  exact gt_of 872 (by decide +kernel) rfl
theorem fl_RX10_120 {y : Yt} (h : y.1.cls = RX10) : lnk y 120 10 5 := by
  show Cond.fieldLink y.1.cls 120 _ _ _ ∈ gtb
  rw [h]
  exact gt_of 873 (by decide +kernel) rfl
theorem fl_RX10_13 {y : Yt} (h : y.1.cls = RX10) : lnk y 13 10 6 := by
  show Cond.fieldLink y.1.cls 13 _ _ _ ∈ gtb
  rw [h]
  exact gt_of 874 (by decide +kernel) rfl
theorem fl_RX10_17 {y : Yt} (h : y.1.cls = RX10) : lnk y 17 10 7 := by
  show Cond.fieldLink y.1.cls 17 _ _ _ ∈ gtb
  rw [h]
  exact gt_of 875 (by decide +kernel) rfl
theorem fl_RX10_20 {y : Yt} (h : y.1.cls = RX10) : lnk y 20 10 8 := by
  show Cond.fieldLink y.1.cls 20 _ _ _ ∈ gtb
  rw [h]
  exact gt_of 876 (by decide +kernel) rfl
theorem fl_RX10_23 {y : Yt} (h : y.1.cls = RX10) : lnk y 23 10 9 := by
  show Cond.fieldLink y.1.cls 23 _ _ _ ∈ gtb
  rw [h]
  exact gt_of 877 (by decide +kernel) rfl
theorem fl_RX10_26 {y : Yt} (h : y.1.cls = RX10) : lnk y 26 10 10 := by
  show Cond.fieldLink y.1.cls 26 _ _ _ ∈ gtb
  rw [h]
  exact gt_of 878 (by decide +kernel) rfl
theorem fl_RX10_29 {y : Yt} (h : y.1.cls = RX10) : lnk y 29 10 11 := by
  show Cond.fieldLink y.1.cls 29 _ _ _ ∈ gtb
  rw [h]
  exact gt_of 879 (by decide +kernel) rfl
theorem fl_RX10_32 {y : Yt} (h : y.1.cls = RX10) : lnk y 32 10 12 := by
  show Cond.fieldLink y.1.cls 32 _ _ _ ∈ gtb
  rw [h]
  exact gt_of 880 (by decide +kernel) rfl
theorem fl_RX10_35 {y : Yt} (h : y.1.cls = RX10) : lnk y 35 10 13 := by
  show Cond.fieldLink y.1.cls 35 _ _ _ ∈ gtb
  rw [h]
  exact gt_of 881 (by decide +kernel) rfl
theorem fl_RX10_38 {y : Yt} (h : y.1.cls = RX10) : lnk y 38 10 14 := by
  show Cond.fieldLink y.1.cls 38 _ _ _ ∈ gtb
  rw [h]
  exact gt_of 882 (by decide +kernel) rfl
theorem fl_RX10_41 {y : Yt} (h : y.1.cls = RX10) : lnk y 41 10 15 := by
  show Cond.fieldLink y.1.cls 41 _ _ _ ∈ gtb
  rw [h]
  exact gt_of 883 (by decide +kernel) rfl
theorem fl_RX10_44 {y : Yt} (h : y.1.cls = RX10) : lnk y 44 10 16 := by
  show Cond.fieldLink y.1.cls 44 _ _ _ ∈ gtb
  rw [h]
  exact gt_of 884 (by decide +kernel) rfl
theorem fl_RX10_47 {y : Yt} (h : y.1.cls = RX10) : lnk y 47 10 17 := by
  show Cond.fieldLink y.1.cls 47 _ _ _ ∈ gtb
  rw [h]
  exact gt_of 885 (by decide +kernel) rfl
theorem fl_RX10_50 {y : Yt} (h : y.1.cls = RX10) : lnk y 50 10 18 := by
  show Cond.fieldLink y.1.cls 50 _ _ _ ∈ gtb
  rw [h]
  exact gt_of 886 (by decide +kernel) rfl
theorem fl_RX10_54 {y : Yt} (h : y.1.cls = RX10) : lnk y 54 10 19 := by
  show Cond.fieldLink y.1.cls 54 _ _ _ ∈ gtb
  rw [h]
  exact gt_of 887 (by decide +kernel) rfl
theorem fl_RX10_139 {y : Yt} (h : y.1.cls = RX10) : lnk y 139 10 20 := by
  show Cond.fieldLink y.1.cls 139 _ _ _ ∈ gtb
  rw [h]
  exact gt_of 888 (by decide +kernel) rfl
theorem fl_RX10_175 {y : Yt} (h : y.1.cls = RX10) : lnk y 175 10 21 := by
  show Cond.fieldLink y.1.cls 175 _ _ _ ∈ gtb
  rw [h]
  exact gt_of 889 (by decide +kernel) rfl
theorem fl_RX10_178 {y : Yt} (h : y.1.cls = RX10) : lnk y 178 10 22 := by
  show Cond.fieldLink y.1.cls 178 _ _ _ ∈ gtb
  rw [h]
  exact gt_of 890 (by decide +kernel) rfl
theorem fl_RX10_181 {y : Yt} (h : y.1.cls = RX10) : lnk y 181 10 23 := by
  show Cond.fieldLink y.1.cls 181 _ _ _ ∈ gtb
  rw [h]
  exact gt_of 891 (by decide +kernel) rfl
theorem fl_RX10_184 {y : Yt} (h : y.1.cls = RX10) : lnk y 184 10 24 := by
  show Cond.fieldLink y.1.cls 184 _ _ _ ∈ gtb
  rw [h]
  exact gt_of 892 (by decide +kernel) rfl
theorem fl_RX10_188 {y : Yt} (h : y.1.cls = RX10) : lnk y 188 10 25 := by
  show Cond.fieldLink y.1.cls 188 _ _ _ ∈ gtb
  rw [h]
  exact gt_of 893 (by decide +kernel) rfl
theorem fl_RX10_57 {y : Yt} (h : y.1.cls = RX10) : lnk y 57 10 26 := by
  show Cond.fieldLink y.1.cls 57 _ _ _ ∈ gtb
  rw [h]
  exact gt_of 894 (by decide +kernel) rfl
theorem fl_RX10_60 {y : Yt} (h : y.1.cls = RX10) : lnk y 60 10 27 := by
  show Cond.fieldLink y.1.cls 60 _ _ _ ∈ gtb
  rw [h]
  exact gt_of 895 (by decide +kernel) rfl
theorem fl_RX10_63 {y : Yt} (h : y.1.cls = RX10) : lnk y 63 10 28 := by
  show Cond.fieldLink y.1.cls 63 _ _ _ ∈ gtb
  rw [h]
  exact gt_of 896 (by decide +kernel) rfl
theorem fl_RX10_66 {y : Yt} (h : y.1.cls = RX10) : lnk y 66 10 29 := by
  show Cond.fieldLink y.1.cls 66 _ _ _ ∈ gtb
  rw [h]
  exact gt_of 897 (by decide +kernel) rfl
theorem fl_RX10_69 {y : Yt} (h : y.1.cls = RX10) : lnk y 69 10 30 := by
  show Cond.fieldLink y.1.cls 69 _ _ _ ∈ gtb
  rw [h]
  exact gt_of 898 (by decide +kernel) rfl
theorem fl_RX10_264 {y : Yt} (h : y.1.cls = RX10) : lnk y 264 10 31 := by
  show Cond.fieldLink y.1.cls 264 _ _ _ ∈ gtb
  rw [h]
  exact gt_of 899 (by decide +kernel) rfl
theorem fl_RX10_267 {y : Yt} (h : y.1.cls = RX10) : lnk y 267 10 32 := by
  show Cond.fieldLink y.1.cls 267 _ _ _ ∈ gtb
  rw [h]
  exact gt_of 900 (by decide +kernel) rfl
theorem fl_RX10_72 {y : Yt} (h : y.1.cls = RX10) : lnk y 72 10 33 := by
  show Cond.fieldLink y.1.cls 72 _ _ _ ∈ gtb
  rw [h]
  exact gt_of 901 (by decide +kernel) rfl
theorem fl_RX10_75 {y : Yt} (h : y.1.cls = RX10) : lnk y 75 10 34 := by
  show Cond.fieldLink y.1.cls 75 _ _ _ ∈ gtb
  rw [h]
  exact gt_of 902 (by decide +kernel) rfl
theorem fl_RX10_78 {y : Yt} (h : y.1.cls = RX10) : lnk y 78 10 35 := by
  show Cond.fieldLink y.1.cls 78 _ _ _ ∈ gtb
  rw [h]
  exact gt_of 903 (by decide +kernel) rfl
theorem fl_RX10_81 {y : Yt} (h : y.1.cls = RX10) : lnk y 81 10 36 := by
  show Cond.fieldLink y.1.cls 81 _ _ _ ∈ gtb
  rw [h]
  exact gt_of 904 (by decide +kernel) rfl
theorem fl_RX10_296 {y : Yt} (h : y.1.cls = RX10) : lnk y 296 10 37 := by
  show Cond.fieldLink y.1.cls 296 _ _ _ ∈ gtb
  rw [h]
  exact gt_of 905 (by decide +kernel) rfl
theorem ml_RL_15 {y : Yt} (h : y.1.cls = RL) : Cond.methodLink y.1.cls 15 yX9_init ∈ gtb := by
  rw [h]
  exact gt_of 19 (by decide +kernel) rfl
theorem mo_RX9_3 {y : Yt} (h : y.1.cls = RX9) : Cond.methodLink y.1.cls 3 Lib.objectInit ∈ gtb := by
  rw [h]
  exact gt_of 22 (by decide +kernel) rfl
theorem mo_RX6_3 {y : Yt} (h : y.1.cls = RX6) : Cond.methodLink y.1.cls 3 Lib.objectInit ∈ gtb := by
  rw [h]
  exact gt_of 30 (by decide +kernel) rfl
theorem mo_RX8_3 {y : Yt} (h : y.1.cls = RX8) : Cond.methodLink y.1.cls 3 Lib.objectInit ∈ gtb := by
  rw [h]
  exact gt_of 52 (by decide +kernel) rfl
theorem mo_RX7_3 {y : Yt} (h : y.1.cls = RX7) : Cond.methodLink y.1.cls 3 Lib.objectInit ∈ gtb := by
  rw [h]
  exact gt_of 60 (by decide +kernel) rfl
theorem mo_RX5_3 {y : Yt} (h : y.1.cls = RX5) : Cond.methodLink y.1.cls 3 Lib.objectInit ∈ gtb := by
  rw [h]
  exact gt_of 177 (by decide +kernel) rfl
theorem mo_RX2_3 {y : Yt} (h : y.1.cls = RX2) : Cond.methodLink y.1.cls 3 Lib.objectInit ∈ gtb := by
  rw [h]
  exact gt_of 232 (by decide +kernel) rfl
theorem mo_RX3_3 {y : Yt} (h : y.1.cls = RX3) : Cond.methodLink y.1.cls 3 Lib.objectInit ∈ gtb := by
  rw [h]
  exact gt_of 242 (by decide +kernel) rfl
theorem mo_RX1_3 {y : Yt} (h : y.1.cls = RX1) : Cond.methodLink y.1.cls 3 Lib.objectInit ∈ gtb := by
  rw [h]
  exact gt_of 263 (by decide +kernel) rfl
theorem mo_RX4_3 {y : Yt} (h : y.1.cls = RX4) : Cond.methodLink y.1.cls 3 Lib.objectInit ∈ gtb := by
  rw [h]
  exact gt_of 288 (by decide +kernel) rfl
theorem mo_RX0_3 {y : Yt} (h : y.1.cls = RX0) : Cond.methodLink y.1.cls 3 Lib.objectInit ∈ gtb := by
  rw [h]
  exact gt_of 302 (by decide +kernel) rfl
theorem ml_RL_19 {y : Yt} (h : y.1.cls = RL) : Cond.methodLink y.1.cls 19 yX9_feed ∈ gtb := by
  rw [h]
  exact gt_of 354 (by decide +kernel) rfl
theorem ml_RX9_83 {y : Yt} (h : y.1.cls = RX9) : Cond.methodLink y.1.cls 83 yX6_bytesIn ∈ gtb := by
  rw [h]
  exact gt_of 358 (by decide +kernel) rfl
theorem ml_RX9_90 {y : Yt} (h : y.1.cls = RX9) : Cond.methodLink y.1.cls 90 yX6_put ∈ gtb := by
  rw [h]
  exact gt_of 361 (by decide +kernel) rfl
theorem ml_RL_24 {y : Yt} (h : y.1.cls = RL) : Cond.methodLink y.1.cls 24 yX9_end ∈ gtb := by
  rw [h]
  exact gt_of 365 (by decide +kernel) rfl
theorem ml_RL_29 {y : Yt} (h : y.1.cls = RL) : Cond.methodLink y.1.cls 29 yX9_fault ∈ gtb := by
  rw [h]
  exact gt_of 369 (by decide +kernel) rfl
theorem ml_RX9_94 {y : Yt} (h : y.1.cls = RX9) : Cond.methodLink y.1.cls 94 yX6_read ∈ gtb := by
  rw [h]
  exact gt_of 373 (by decide +kernel) rfl
theorem ml_RX6_25 {y : Yt} (h : y.1.cls = RX6) : Cond.methodLink y.1.cls 25 yX8_empty ∈ gtb := by
  rw [h]
  exact gt_of 377 (by decide +kernel) rfl
theorem ml_RX6_30 {y : Yt} (h : y.1.cls = RX6) : Cond.methodLink y.1.cls 30 yX6_readStatement ∈ gtb := by
  rw [h]
  exact gt_of 381 (by decide +kernel) rfl
theorem ml_RX6_34 {y : Yt} (h : y.1.cls = RX6) : Cond.methodLink y.1.cls 34 yX6_skipBlanks ∈ gtb := by
  rw [h]
  exact gt_of 385 (by decide +kernel) rfl
theorem ml_RX6_37 {y : Yt} (h : y.1.cls = RX6) : Cond.methodLink y.1.cls 37 yX6_readNumber ∈ gtb := by
  rw [h]
  exact gt_of 389 (by decide +kernel) rfl
theorem ml_RX6_77 {y : Yt} (h : y.1.cls = RX6) : Cond.methodLink y.1.cls 77 yX6_isDigit ∈ gtb := by
  rw [h]
  exact gt_of 393 (by decide +kernel) rfl
theorem ml_RX6_44 {y : Yt} (h : y.1.cls = RX6) : Cond.methodLink y.1.cls 44 yX6_readCost ∈ gtb := by
  rw [h]
  exact gt_of 397 (by decide +kernel) rfl
theorem ml_RX6_48 {y : Yt} (h : y.1.cls = RX6) : Cond.methodLink y.1.cls 48 yX6_readSource ∈ gtb := by
  rw [h]
  exact gt_of 401 (by decide +kernel) rfl
theorem ml_RX6_63 {y : Yt} (h : y.1.cls = RX6) : Cond.methodLink y.1.cls 63 yX8_addSource ∈ gtb := by
  rw [h]
  exact gt_of 405 (by decide +kernel) rfl
theorem ml_RX6_51 {y : Yt} (h : y.1.cls = RX6) : Cond.methodLink y.1.cls 51 yX6_readLot ∈ gtb := by
  rw [h]
  exact gt_of 409 (by decide +kernel) rfl
theorem ml_RX6_70 {y : Yt} (h : y.1.cls = RX6) : Cond.methodLink y.1.cls 70 yX8_addLot ∈ gtb := by
  rw [h]
  exact gt_of 413 (by decide +kernel) rfl
theorem ml_RX6_54 {y : Yt} (h : y.1.cls = RX6) : Cond.methodLink y.1.cls 54 yX6_readElse ∈ gtb := by
  rw [h]
  exact gt_of 417 (by decide +kernel) rfl
theorem ml_RL_34 {y : Yt} (h : y.1.cls = RL) : Cond.methodLink y.1.cls 34 yX9_trade ∈ gtb := by
  rw [h]
  exact gt_of 421 (by decide +kernel) rfl
theorem ml_RL_47 {y : Yt} (h : y.1.cls = RL) : Cond.methodLink y.1.cls 47 yX9_houses ∈ gtb := by
  rw [h]
  exact gt_of 425 (by decide +kernel) rfl
theorem ml_RX9_98 {y : Yt} (h : y.1.cls = RX9) : Cond.methodLink y.1.cls 98 yX9_find ∈ gtb := by
  rw [h]
  exact gt_of 429 (by decide +kernel) rfl
theorem ml_RL_52 {y : Yt} (h : y.1.cls = RL) : Cond.methodLink y.1.cls 52 yX9_want ∈ gtb := by
  rw [h]
  exact gt_of 433 (by decide +kernel) rfl
theorem ml_RX9_126 {y : Yt} (h : y.1.cls = RX9) : Cond.methodLink y.1.cls 126 yX8_isShop ∈ gtb := by
  rw [h]
  exact gt_of 437 (by decide +kernel) rfl
theorem ml_RX8_59 {y : Yt} (h : y.1.cls = RX8) : Cond.methodLink y.1.cls 59 yX8_holds ∈ gtb := by
  rw [h]
  exact gt_of 441 (by decide +kernel) rfl
theorem ml_RX9_136 {y : Yt} (h : y.1.cls = RX9) : Cond.methodLink y.1.cls 136 yX9_isPrice ∈ gtb := by
  rw [h]
  exact gt_of 445 (by decide +kernel) rfl
theorem ml_RL_56 {y : Yt} (h : y.1.cls = RL) : Cond.methodLink y.1.cls 56 yX9_join ∈ gtb := by
  rw [h]
  exact gt_of 448 (by decide +kernel) rfl
theorem ml_RX9_139 {y : Yt} (h : y.1.cls = RX9) : Cond.methodLink y.1.cls 139 yX8_allHouses ∈ gtb := by
  rw [h]
  exact gt_of 452 (by decide +kernel) rfl
theorem ml_RL_61 {y : Yt} (h : y.1.cls = RL) : Cond.methodLink y.1.cls 61 yX9_law ∈ gtb := by
  rw [h]
  exact gt_of 456 (by decide +kernel) rfl
theorem ml_RL_66 {y : Yt} (h : y.1.cls = RL) : Cond.methodLink y.1.cls 66 yX9_halve ∈ gtb := by
  rw [h]
  exact gt_of 460 (by decide +kernel) rfl
theorem ml_RL_71 {y : Yt} (h : y.1.cls = RL) : Cond.methodLink y.1.cls 71 yX9_ask ∈ gtb := by
  rw [h]
  exact gt_of 464 (by decide +kernel) rfl
theorem ml_RX9_162 {y : Yt} (h : y.1.cls = RX9) : Cond.methodLink y.1.cls 162 yX9_bestPrice ∈ gtb := by
  rw [h]
  exact gt_of 468 (by decide +kernel) rfl
theorem ml_RL_75 {y : Yt} (h : y.1.cls = RL) : Cond.methodLink y.1.cls 75 yX9_take ∈ gtb := by
  rw [h]
  exact gt_of 471 (by decide +kernel) rfl
theorem ml_RX9_102 {y : Yt} (h : y.1.cls = RX9) : Cond.methodLink y.1.cls 102 yX8_holds ∈ gtb := by
  rw [h]
  exact gt_of 475 (by decide +kernel) rfl
theorem ml_RX9_166 {y : Yt} (h : y.1.cls = RX9) : Cond.methodLink y.1.cls 166 yX5_settle ∈ gtb := by
  rw [h]
  exact gt_of 476 (by decide +kernel) rfl
theorem ml_RX5_55 {y : Yt} (h : y.1.cls = RX5) : Cond.methodLink y.1.cls 55 yX7_same ∈ gtb := by
  rw [h]
  exact gt_of 480 (by decide +kernel) rfl
theorem ml_RX7_31 {y : Yt} (h : y.1.cls = RX7) : Cond.methodLink y.1.cls 31 yX7_sameButJoined ∈ gtb := by
  rw [h]
  exact gt_of 484 (by decide +kernel) rfl
theorem ml_RX5_59 {y : Yt} (h : y.1.cls = RX5) : Cond.methodLink y.1.cls 59 yX5_lastStale ∈ gtb := by
  rw [h]
  exact gt_of 488 (by decide +kernel) rfl
theorem ml_RX5_99 {y : Yt} (h : y.1.cls = RX5) : Cond.methodLink y.1.cls 99 yX7_sameButJoined ∈ gtb := by
  rw [h]
  exact gt_of 492 (by decide +kernel) rfl
theorem ml_RX5_102 {y : Yt} (h : y.1.cls = RX5) : Cond.methodLink y.1.cls 102 yX7_joins ∈ gtb := by
  rw [h]
  exact gt_of 493 (by decide +kernel) rfl
theorem ml_RX5_63 {y : Yt} (h : y.1.cls = RX5) : Cond.methodLink y.1.cls 63 yX7_copy ∈ gtb := by
  rw [h]
  exact gt_of 497 (by decide +kernel) rfl
theorem ml_RX5_80 {y : Yt} (h : y.1.cls = RX5) : Cond.methodLink y.1.cls 80 yX5_lastRow ∈ gtb := by
  rw [h]
  exact gt_of 501 (by decide +kernel) rfl
theorem ml_RX5_88 {y : Yt} (h : y.1.cls = RX5) : Cond.methodLink y.1.cls 88 yX5_reckon ∈ gtb := by
  rw [h]
  exact gt_of 508 (by decide +kernel) rfl
theorem ml_RX5_109 {y : Yt} (h : y.1.cls = RX5) : Cond.methodLink y.1.cls 109 yX8_isShop ∈ gtb := by
  rw [h]
  exact gt_of 512 (by decide +kernel) rfl
theorem ml_RX5_129 {y : Yt} (h : y.1.cls = RX5) : Cond.methodLink y.1.cls 129 yX5_commonPrice ∈ gtb := by
  rw [h]
  exact gt_of 514 (by decide +kernel) rfl
theorem ml_RX5_140 {y : Yt} (h : y.1.cls = RX5) : Cond.methodLink y.1.cls 140 yX5_takesAt ∈ gtb := by
  rw [h]
  exact gt_of 518 (by decide +kernel) rfl
theorem ml_RX5_133 {y : Yt} (h : y.1.cls = RX5) : Cond.methodLink y.1.cls 133 yX5_halvedPrice ∈ gtb := by
  rw [h]
  exact gt_of 522 (by decide +kernel) rfl
theorem ml_RX5_137 {y : Yt} (h : y.1.cls = RX5) : Cond.methodLink y.1.cls 137 yX5_ownPrice ∈ gtb := by
  rw [h]
  exact gt_of 526 (by decide +kernel) rfl
theorem ml_RX5_92 {y : Yt} (h : y.1.cls = RX5) : Cond.methodLink y.1.cls 92 yX5_trace ∈ gtb := by
  rw [h]
  exact gt_of 530 (by decide +kernel) rfl
theorem ml_RX5_96 {y : Yt} (h : y.1.cls = RX5) : Cond.methodLink y.1.cls 96 yX5_earnedBy ∈ gtb := by
  rw [h]
  exact gt_of 534 (by decide +kernel) rfl
theorem ml_RX9_170 {y : Yt} (h : y.1.cls = RX9) : Cond.methodLink y.1.cls 170 yX5_takenAt ∈ gtb := by
  rw [h]
  exact gt_of 538 (by decide +kernel) rfl
theorem ml_RL_79 {y : Yt} (h : y.1.cls = RL) : Cond.methodLink y.1.cls 79 yX9_outcome ∈ gtb := by
  rw [h]
  exact gt_of 542 (by decide +kernel) rfl
theorem ml_RL_83 {y : Yt} (h : y.1.cls = RL) : Cond.methodLink y.1.cls 83 yX9_sum ∈ gtb := by
  rw [h]
  exact gt_of 547 (by decide +kernel) rfl
theorem ml_RX9_187 {y : Yt} (h : y.1.cls = RX9) : Cond.methodLink y.1.cls 187 yX5_allEarned ∈ gtb := by
  rw [h]
  exact gt_of 551 (by decide +kernel) rfl
theorem ml_RX9_190 {y : Yt} (h : y.1.cls = RX9) : Cond.methodLink y.1.cls 190 yX5_saved ∈ gtb := by
  rw [h]
  exact gt_of 555 (by decide +kernel) rfl
theorem ml_RX9_193 {y : Yt} (h : y.1.cls = RX9) : Cond.methodLink y.1.cls 193 yX9_settleTogether ∈ gtb := by
  rw [h]
  exact gt_of 559 (by decide +kernel) rfl
theorem ml_RX9_304 {y : Yt} (h : y.1.cls = RX9) : Cond.methodLink y.1.cls 304 yX7_reset ∈ gtb := by
  rw [h]
  exact gt_of 563 (by decide +kernel) rfl
theorem ml_RL_88 {y : Yt} (h : y.1.cls = RL) : Cond.methodLink y.1.cls 88 yX9_passed ∈ gtb := by
  rw [h]
  exact gt_of 567 (by decide +kernel) rfl
theorem ml_RX9_197 {y : Yt} (h : y.1.cls = RX9) : Cond.methodLink y.1.cls 197 yX7_copy ∈ gtb := by
  rw [h]
  exact gt_of 571 (by decide +kernel) rfl
theorem ml_RL_93 {y : Yt} (h : y.1.cls = RL) : Cond.methodLink y.1.cls 93 yX9_gain ∈ gtb := by
  rw [h]
  exact gt_of 572 (by decide +kernel) rfl
theorem ml_RL_97 {y : Yt} (h : y.1.cls = RL) : Cond.methodLink y.1.cls 97 yX9_tell ∈ gtb := by
  rw [h]
  exact gt_of 576 (by decide +kernel) rfl
theorem ml_RL_102 {y : Yt} (h : y.1.cls = RL) : Cond.methodLink y.1.cls 102 yX9_given ∈ gtb := by
  rw [h]
  exact gt_of 580 (by decide +kernel) rfl
theorem ml_RX9_213 {y : Yt} (h : y.1.cls = RX9) : Cond.methodLink y.1.cls 213 yX2_follow ∈ gtb := by
  rw [h]
  exact gt_of 584 (by decide +kernel) rfl
theorem ml_RX2_21 {y : Yt} (h : y.1.cls = RX2) : Cond.methodLink y.1.cls 21 yX8_isShop ∈ gtb := by
  rw [h]
  exact gt_of 588 (by decide +kernel) rfl
theorem ml_RX9_217 {y : Yt} (h : y.1.cls = RX9) : Cond.methodLink y.1.cls 217 yX2_earnedBy ∈ gtb := by
  rw [h]
  exact gt_of 589 (by decide +kernel) rfl
theorem ml_RX2_35 {y : Yt} (h : y.1.cls = RX2) : Cond.methodLink y.1.cls 35 yX2_spentBy ∈ gtb := by
  rw [h]
  exact gt_of 593 (by decide +kernel) rfl
theorem ml_RX2_39 {y : Yt} (h : y.1.cls = RX2) : Cond.methodLink y.1.cls 39 yX2_earnedFrom ∈ gtb := by
  rw [h]
  exact gt_of 597 (by decide +kernel) rfl
theorem ml_RL_106 {y : Yt} (h : y.1.cls = RL) : Cond.methodLink y.1.cls 106 yX9_doers ∈ gtb := by
  rw [h]
  exact gt_of 601 (by decide +kernel) rfl
theorem ml_RX9_221 {y : Yt} (h : y.1.cls = RX9) : Cond.methodLink y.1.cls 221 yX9_settleFree ∈ gtb := by
  rw [h]
  exact gt_of 605 (by decide +kernel) rfl
theorem ml_RX9_224 {y : Yt} (h : y.1.cls = RX9) : Cond.methodLink y.1.cls 224 yX2_wouldDiffer ∈ gtb := by
  rw [h]
  exact gt_of 609 (by decide +kernel) rfl
theorem ml_RX2_49 {y : Yt} (h : y.1.cls = RX2) : Cond.methodLink y.1.cls 49 yX2_shopWould ∈ gtb := by
  rw [h]
  exact gt_of 613 (by decide +kernel) rfl
theorem ml_RX2_61 {y : Yt} (h : y.1.cls = RX2) : Cond.methodLink y.1.cls 61 yX2_earnedBy ∈ gtb := by
  rw [h]
  exact gt_of 618 (by decide +kernel) rfl
theorem ml_RX2_53 {y : Yt} (h : y.1.cls = RX2) : Cond.methodLink y.1.cls 53 yX2_anyPriceWould ∈ gtb := by
  rw [h]
  exact gt_of 619 (by decide +kernel) rfl
theorem ml_RX2_64 {y : Yt} (h : y.1.cls = RX2) : Cond.methodLink y.1.cls 64 yX2_priceWould ∈ gtb := by
  rw [h]
  exact gt_of 623 (by decide +kernel) rfl
theorem ml_RX2_68 {y : Yt} (h : y.1.cls = RX2) : Cond.methodLink y.1.cls 68 yX5_takesAt ∈ gtb := by
  rw [h]
  exact gt_of 627 (by decide +kernel) rfl
theorem ml_RL_110 {y : Yt} (h : y.1.cls = RL) : Cond.methodLink y.1.cls 110 yX9_fee ∈ gtb := by
  rw [h]
  exact gt_of 628 (by decide +kernel) rfl
theorem ml_RX9_228 {y : Yt} (h : y.1.cls = RX9) : Cond.methodLink y.1.cls 228 yX3_mostFee ∈ gtb := by
  rw [h]
  exact gt_of 632 (by decide +kernel) rfl
theorem ml_RX3_31 {y : Yt} (h : y.1.cls = RX3) : Cond.methodLink y.1.cls 31 yX8_isBelow ∈ gtb := by
  rw [h]
  exact gt_of 636 (by decide +kernel) rfl
theorem ml_RX9_232 {y : Yt} (h : y.1.cls = RX9) : Cond.methodLink y.1.cls 232 yX3_heals ∈ gtb := by
  rw [h]
  exact gt_of 640 (by decide +kernel) rfl
theorem ml_RL_114 {y : Yt} (h : y.1.cls = RL) : Cond.methodLink y.1.cls 114 yX9_parts ∈ gtb := by
  rw [h]
  exact gt_of 644 (by decide +kernel) rfl
theorem ml_RX9_236 {y : Yt} (h : y.1.cls = RX9) : Cond.methodLink y.1.cls 236 yX9_findParted ∈ gtb := by
  rw [h]
  exact gt_of 648 (by decide +kernel) rfl
theorem ml_RX9_240 {y : Yt} (h : y.1.cls = RX9) : Cond.methodLink y.1.cls 240 yX3_findPairs ∈ gtb := by
  rw [h]
  exact gt_of 652 (by decide +kernel) rfl
theorem ml_RX3_50 {y : Yt} (h : y.1.cls = RX3) : Cond.methodLink y.1.cls 50 yX3_isBest ∈ gtb := by
  rw [h]
  exact gt_of 656 (by decide +kernel) rfl
theorem ml_RL_118 {y : Yt} (h : y.1.cls = RL) : Cond.methodLink y.1.cls 118 yX9_takings ∈ gtb := by
  rw [h]
  exact gt_of 660 (by decide +kernel) rfl
theorem ml_RX9_250 {y : Yt} (h : y.1.cls = RX9) : Cond.methodLink y.1.cls 250 yX3_shareOf ∈ gtb := by
  rw [h]
  exact gt_of 664 (by decide +kernel) rfl
theorem ml_RL_122 {y : Yt} (h : y.1.cls = RL) : Cond.methodLink y.1.cls 122 yX9_rivals ∈ gtb := by
  rw [h]
  exact gt_of 670 (by decide +kernel) rfl
theorem ml_RX9_254 {y : Yt} (h : y.1.cls = RX9) : Cond.methodLink y.1.cls 254 yX1_setShops ∈ gtb := by
  rw [h]
  exact gt_of 674 (by decide +kernel) rfl
theorem ml_RX9_258 {y : Yt} (h : y.1.cls = RX9) : Cond.methodLink y.1.cls 258 yX1_restAt ∈ gtb := by
  rw [h]
  exact gt_of 678 (by decide +kernel) rfl
theorem ml_RX1_43 {y : Yt} (h : y.1.cls = RX1) : Cond.methodLink y.1.cls 43 yX1_bestAgainst ∈ gtb := by
  rw [h]
  exact gt_of 682 (by decide +kernel) rfl
theorem ml_RX1_51 {y : Yt} (h : y.1.cls = RX1) : Cond.methodLink y.1.cls 51 yX1_gained ∈ gtb := by
  rw [h]
  exact gt_of 686 (by decide +kernel) rfl
theorem ml_RX1_47 {y : Yt} (h : y.1.cls = RX1) : Cond.methodLink y.1.cls 47 yX1_isRest ∈ gtb := by
  rw [h]
  exact gt_of 690 (by decide +kernel) rfl
theorem ml_RL_127 {y : Yt} (h : y.1.cls = RL) : Cond.methodLink y.1.cls 127 yX9_makers ∈ gtb := by
  rw [h]
  exact gt_of 694 (by decide +kernel) rfl
theorem ml_RX9_261 {y : Yt} (h : y.1.cls = RX9) : Cond.methodLink y.1.cls 261 yX1_setMakers ∈ gtb := by
  rw [h]
  exact gt_of 698 (by decide +kernel) rfl
theorem ml_RL_131 {y : Yt} (h : y.1.cls = RL) : Cond.methodLink y.1.cls 131 yX9_chance ∈ gtb := by
  rw [h]
  exact gt_of 703 (by decide +kernel) rfl
theorem ml_RX9_265 {y : Yt} (h : y.1.cls = RX9) : Cond.methodLink y.1.cls 265 yX0_more ∈ gtb := by
  rw [h]
  exact gt_of 707 (by decide +kernel) rfl
theorem ml_RL_135 {y : Yt} (h : y.1.cls = RL) : Cond.methodLink y.1.cls 135 yX9_clear ∈ gtb := by
  rw [h]
  exact gt_of 711 (by decide +kernel) rfl
theorem ml_RX9_269 {y : Yt} (h : y.1.cls = RX9) : Cond.methodLink y.1.cls 269 yX0_forget ∈ gtb := by
  rw [h]
  exact gt_of 715 (by decide +kernel) rfl
theorem ml_RL_139 {y : Yt} (h : y.1.cls = RL) : Cond.methodLink y.1.cls 139 yX9_expects ∈ gtb := by
  rw [h]
  exact gt_of 719 (by decide +kernel) rfl
theorem ml_RX9_273 {y : Yt} (h : y.1.cls = RX9) : Cond.methodLink y.1.cls 273 yX0_expected ∈ gtb := by
  rw [h]
  exact gt_of 723 (by decide +kernel) rfl
theorem ml_RX0_31 {y : Yt} (h : y.1.cls = RX0) : Cond.methodLink y.1.cls 31 yX0_leftOf ∈ gtb := by
  rw [h]
  exact gt_of 727 (by decide +kernel) rfl
theorem mm_RX0_25 {y : Yt} (h : y.1.cls = RX0) : Cond.methodLink y.1.cls 25 Lib.Math.max.name ∈ gtb := by
  rw [h]
  exact gt_of 731 (by decide +kernel) rfl
theorem ml_RL_143 {y : Yt} (h : y.1.cls = RL) : Cond.methodLink y.1.cls 143 yX9_stock ∈ gtb := by
  rw [h]
  exact gt_of 734 (by decide +kernel) rfl
theorem ml_RX9_277 {y : Yt} (h : y.1.cls = RX9) : Cond.methodLink y.1.cls 277 yX0_bestStock ∈ gtb := by
  rw [h]
  exact gt_of 738 (by decide +kernel) rfl
theorem ml_RX0_35 {y : Yt} (h : y.1.cls = RX0) : Cond.methodLink y.1.cls 35 yX0_expected ∈ gtb := by
  rw [h]
  exact gt_of 742 (by decide +kernel) rfl
theorem ml_RL_147 {y : Yt} (h : y.1.cls = RL) : Cond.methodLink y.1.cls 147 yX9_seller ∈ gtb := by
  rw [h]
  exact gt_of 743 (by decide +kernel) rfl
theorem ml_RX9_281 {y : Yt} (h : y.1.cls = RX9) : Cond.methodLink y.1.cls 281 yX0_bestBack ∈ gtb := by
  rw [h]
  exact gt_of 747 (by decide +kernel) rfl
theorem ml_RX0_43 {y : Yt} (h : y.1.cls = RX0) : Cond.methodLink y.1.cls 43 yX0_sellerExpects ∈ gtb := by
  rw [h]
  exact gt_of 751 (by decide +kernel) rfl
theorem ml_RX0_39 {y : Yt} (h : y.1.cls = RX0) : Cond.methodLink y.1.cls 39 yX0_bestStock ∈ gtb := by
  rw [h]
  exact gt_of 755 (by decide +kernel) rfl
theorem ml_RX9_284 {y : Yt} (h : y.1.cls = RX9) : Cond.methodLink y.1.cls 284 yX0_sellerExpects ∈ gtb := by
  rw [h]
  exact gt_of 756 (by decide +kernel) rfl
theorem ml_RL_151 {y : Yt} (h : y.1.cls = RL) : Cond.methodLink y.1.cls 151 yX9_rather ∈ gtb := by
  rw [h]
  exact gt_of 757 (by decide +kernel) rfl
theorem ml_RX9_287 {y : Yt} (h : y.1.cls = RX9) : Cond.methodLink y.1.cls 287 yX7_joins ∈ gtb := by
  rw [h]
  exact gt_of 761 (by decide +kernel) rfl
theorem ml_RX9_290 {y : Yt} (h : y.1.cls = RX9) : Cond.methodLink y.1.cls 290 yX4_better ∈ gtb := by
  rw [h]
  exact gt_of 762 (by decide +kernel) rfl
theorem ml_RL_155 {y : Yt} (h : y.1.cls = RL) : Cond.methodLink y.1.cls 155 yX9_rests ∈ gtb := by
  rw [h]
  exact gt_of 766 (by decide +kernel) rfl
theorem ml_RX9_294 {y : Yt} (h : y.1.cls = RX9) : Cond.methodLink y.1.cls 294 yX4_findRests ∈ gtb := by
  rw [h]
  exact gt_of 770 (by decide +kernel) rfl
theorem ml_RX4_29 {y : Yt} (h : y.1.cls = RX4) : Cond.methodLink y.1.cls 29 yX4_buyingHouses ∈ gtb := by
  rw [h]
  exact gt_of 774 (by decide +kernel) rfl
theorem ml_RX4_38 {y : Yt} (h : y.1.cls = RX4) : Cond.methodLink y.1.cls 38 yX5_settle ∈ gtb := by
  rw [h]
  exact gt_of 778 (by decide +kernel) rfl
theorem ml_RX4_49 {y : Yt} (h : y.1.cls = RX4) : Cond.methodLink y.1.cls 49 yX4_isAtRest ∈ gtb := by
  rw [h]
  exact gt_of 779 (by decide +kernel) rfl
theorem ml_RX4_60 {y : Yt} (h : y.1.cls = RX4) : Cond.methodLink y.1.cls 60 yX4_better ∈ gtb := by
  rw [h]
  exact gt_of 783 (by decide +kernel) rfl
theorem ml_RL_159 {y : Yt} (h : y.1.cls = RL) : Cond.methodLink y.1.cls 159 yX9_count ∈ gtb := by
  rw [h]
  exact gt_of 784 (by decide +kernel) rfl
theorem ml_RL_38 {y : Yt} (h : y.1.cls = RL) : Cond.methodLink y.1.cls 38 yL_house ∈ gtb := by
  rw [h]
  exact gt_of 788 (by decide +kernel) rfl
theorem ml_RL_7 {y : Yt} (h : y.1.cls = RL) : Cond.methodLink y.1.cls 7 yX9_house ∈ gtb := by
  rw [h]
  exact gt_of 792 (by decide +kernel) rfl
theorem ml_RL_18 {y : Yt} (h : y.1.cls = RL) : Cond.methodLink y.1.cls 18 yX10_init ∈ gtb := by
  rw [h]
  exact gt_of 864 (by decide +kernel) rfl
theorem mo_RX10_1 {y : Yt} (h : y.1.cls = RX10) : Cond.methodLink y.1.cls 1 Lib.objectInit ∈ gtb := by
  rw [h]
  exact gt_of 867 (by decide +kernel) rfl
theorem ml_RL_44 {y : Yt} (h : y.1.cls = RL) : Cond.methodLink y.1.cls 44 yX10_thrown ∈ gtb := by
  rw [h]
  exact gt_of 984 (by decide +kernel) rfl
theorem ml_RL_23 {y : Yt} (h : y.1.cls = RL) : Cond.methodLink y.1.cls 23 yX10_feed ∈ gtb := by
  rw [h]
  exact gt_of 988 (by decide +kernel) rfl
theorem ml_RX10_91 {y : Yt} (h : y.1.cls = RX10) : Cond.methodLink y.1.cls 91 yX10_bytesIn ∈ gtb := by
  rw [h]
  exact gt_of 992 (by decide +kernel) rfl
theorem ml_RX10_95 {y : Yt} (h : y.1.cls = RX10) : Cond.methodLink y.1.cls 95 yX10_put ∈ gtb := by
  rw [h]
  exact gt_of 995 (by decide +kernel) rfl
theorem ml_RL_28 {y : Yt} (h : y.1.cls = RL) : Cond.methodLink y.1.cls 28 yX10_end ∈ gtb := by
  rw [h]
  exact gt_of 999 (by decide +kernel) rfl
theorem ml_RL_33 {y : Yt} (h : y.1.cls = RL) : Cond.methodLink y.1.cls 33 yX10_fault ∈ gtb := by
  rw [h]
  exact gt_of 1003 (by decide +kernel) rfl
theorem ml_RX10_145 {y : Yt} (h : y.1.cls = RX10) : Cond.methodLink y.1.cls 145 yX10_readTrade ∈ gtb := by
  rw [h]
  exact gt_of 1007 (by decide +kernel) rfl
theorem ml_RX10_113 {y : Yt} (h : y.1.cls = RX10) : Cond.methodLink y.1.cls 113 yX10_look ∈ gtb := by
  rw [h]
  exact gt_of 1011 (by decide +kernel) rfl
theorem ml_RX10_102 {y : Yt} (h : y.1.cls = RX10) : Cond.methodLink y.1.cls 102 yX10_here ∈ gtb := by
  rw [h]
  exact gt_of 1015 (by decide +kernel) rfl
theorem ml_RX10_109 {y : Yt} (h : y.1.cls = RX10) : Cond.methodLink y.1.cls 109 yX10_fails ∈ gtb := by
  rw [h]
  exact gt_of 1019 (by decide +kernel) rfl
theorem ml_RX10_127 {y : Yt} (h : y.1.cls = RX10) : Cond.methodLink y.1.cls 127 yX10_number ∈ gtb := by
  rw [h]
  exact gt_of 1023 (by decide +kernel) rfl
theorem ml_RX10_116 {y : Yt} (h : y.1.cls = RX10) : Cond.methodLink y.1.cls 116 yX10_isDigit ∈ gtb := by
  rw [h]
  exact gt_of 1027 (by decide +kernel) rfl
theorem ml_RX10_123 {y : Yt} (h : y.1.cls = RX10) : Cond.methodLink y.1.cls 123 yX10_isIn ∈ gtb := by
  rw [h]
  exact gt_of 1031 (by decide +kernel) rfl
theorem ml_RX10_142 {y : Yt} (h : y.1.cls = RX10) : Cond.methodLink y.1.cls 142 yX10_statement ∈ gtb := by
  rw [h]
  exact gt_of 1034 (by decide +kernel) rfl
theorem ml_RX10_129 {y : Yt} (h : y.1.cls = RX10) : Cond.methodLink y.1.cls 129 yX10_readTold ∈ gtb := by
  rw [h]
  exact gt_of 1038 (by decide +kernel) rfl
theorem ml_RX10_133 {y : Yt} (h : y.1.cls = RX10) : Cond.methodLink y.1.cls 133 yX10_readBuys ∈ gtb := by
  rw [h]
  exact gt_of 1042 (by decide +kernel) rfl
theorem ml_RX10_136 {y : Yt} (h : y.1.cls = RX10) : Cond.methodLink y.1.cls 136 yX10_readWant ∈ gtb := by
  rw [h]
  exact gt_of 1046 (by decide +kernel) rfl
theorem ml_RL_37 {y : Yt} (h : y.1.cls = RL) : Cond.methodLink y.1.cls 37 yX10_trade ∈ gtb := by
  rw [h]
  exact gt_of 1050 (by decide +kernel) rfl
theorem ml_RL_43 {y : Yt} (h : y.1.cls = RL) : Cond.methodLink y.1.cls 43 yX10_house ∈ gtb := by
  rw [h]
  exact gt_of 1054 (by decide +kernel) rfl
theorem ml_RX10_154 {y : Yt} (h : y.1.cls = RX10) : Cond.methodLink y.1.cls 154 yX10_isHouse ∈ gtb := by
  rw [h]
  exact gt_of 1058 (by decide +kernel) rfl
theorem ml_RX10_148 {y : Yt} (h : y.1.cls = RX10) : Cond.methodLink y.1.cls 148 yX10_isTrade ∈ gtb := by
  rw [h]
  exact gt_of 1062 (by decide +kernel) rfl
theorem ml_RX10_162 {y : Yt} (h : y.1.cls = RX10) : Cond.methodLink y.1.cls 162 yX10_costOf ∈ gtb := by
  rw [h]
  exact gt_of 1066 (by decide +kernel) rfl
theorem ml_RX10_158 {y : Yt} (h : y.1.cls = RX10) : Cond.methodLink y.1.cls 158 yX10_buyers ∈ gtb := by
  rw [h]
  exact gt_of 1070 (by decide +kernel) rfl
theorem ml_RX10_151 {y : Yt} (h : y.1.cls = RX10) : Cond.methodLink y.1.cls 151 yX10_buys ∈ gtb := by
  rw [h]
  exact gt_of 1074 (by decide +kernel) rfl
theorem ml_RX10_165 {y : Yt} (h : y.1.cls = RX10) : Cond.methodLink y.1.cls 165 yX10_isShop ∈ gtb := by
  rw [h]
  exact gt_of 1078 (by decide +kernel) rfl
theorem ml_RX10_168 {y : Yt} (h : y.1.cls = RX10) : Cond.methodLink y.1.cls 168 yX10_wanted ∈ gtb := by
  rw [h]
  exact gt_of 1082 (by decide +kernel) rfl
theorem ml_RL_51 {y : Yt} (h : y.1.cls = RL) : Cond.methodLink y.1.cls 51 yX10_houses ∈ gtb := by
  rw [h]
  exact gt_of 1086 (by decide +kernel) rfl
theorem ml_RL_55 {y : Yt} (h : y.1.cls = RL) : Cond.methodLink y.1.cls 55 yX10_want ∈ gtb := by
  rw [h]
  exact gt_of 1090 (by decide +kernel) rfl
theorem ml_RX10_172 {y : Yt} (h : y.1.cls = RX10) : Cond.methodLink y.1.cls 172 yX10_isPrice ∈ gtb := by
  rw [h]
  exact gt_of 1094 (by decide +kernel) rfl
theorem ml_RL_60 {y : Yt} (h : y.1.cls = RL) : Cond.methodLink y.1.cls 60 yX10_join ∈ gtb := by
  rw [h]
  exact gt_of 1097 (by decide +kernel) rfl
theorem ml_RL_65 {y : Yt} (h : y.1.cls = RL) : Cond.methodLink y.1.cls 65 yX10_law ∈ gtb := by
  rw [h]
  exact gt_of 1101 (by decide +kernel) rfl
theorem ml_RL_70 {y : Yt} (h : y.1.cls = RL) : Cond.methodLink y.1.cls 70 yX10_halve ∈ gtb := by
  rw [h]
  exact gt_of 1105 (by decide +kernel) rfl
theorem ml_RL_74 {y : Yt} (h : y.1.cls = RL) : Cond.methodLink y.1.cls 74 yX10_ask ∈ gtb := by
  rw [h]
  exact gt_of 1109 (by decide +kernel) rfl
theorem ml_RX10_223 {y : Yt} (h : y.1.cls = RX10) : Cond.methodLink y.1.cls 223 yX10_termsOf ∈ gtb := by
  rw [h]
  exact gt_of 1113 (by decide +kernel) rfl
theorem ml_RX10_191 {y : Yt} (h : y.1.cls = RX10) : Cond.methodLink y.1.cls 191 yX10_terms ∈ gtb := by
  rw [h]
  exact gt_of 1117 (by decide +kernel) rfl
theorem ml_RX10_213 {y : Yt} (h : y.1.cls = RX10) : Cond.methodLink y.1.cls 213 yX10_askBy ∈ gtb := by
  rw [h]
  exact gt_of 1121 (by decide +kernel) rfl
theorem ml_RL_78 {y : Yt} (h : y.1.cls = RL) : Cond.methodLink y.1.cls 78 yX10_take ∈ gtb := by
  rw [h]
  exact gt_of 1125 (by decide +kernel) rfl
theorem ml_RX10_204 {y : Yt} (h : y.1.cls = RX10) : Cond.methodLink y.1.cls 204 yX10_takeBy ∈ gtb := by
  rw [h]
  exact gt_of 1129 (by decide +kernel) rfl
theorem ml_RX10_219 {y : Yt} (h : y.1.cls = RX10) : Cond.methodLink y.1.cls 219 yX10_would ∈ gtb := by
  rw [h]
  exact gt_of 1133 (by decide +kernel) rfl
theorem ml_RX10_207 {y : Yt} (h : y.1.cls = RX10) : Cond.methodLink y.1.cls 207 yX10_isJoined ∈ gtb := by
  rw [h]
  exact gt_of 1137 (by decide +kernel) rfl
theorem ml_RX10_216 {y : Yt} (h : y.1.cls = RX10) : Cond.methodLink y.1.cls 216 yX10_priceTo ∈ gtb := by
  rw [h]
  exact gt_of 1141 (by decide +kernel) rfl
theorem ml_RX10_195 {y : Yt} (h : y.1.cls = RX10) : Cond.methodLink y.1.cls 195 yX10_halvedPrice ∈ gtb := by
  rw [h]
  exact gt_of 1145 (by decide +kernel) rfl
theorem ml_RX10_210 {y : Yt} (h : y.1.cls = RX10) : Cond.methodLink y.1.cls 210 yX10_earnBy ∈ gtb := by
  rw [h]
  exact gt_of 1149 (by decide +kernel) rfl
theorem ml_RX10_198 {y : Yt} (h : y.1.cls = RX10) : Cond.methodLink y.1.cls 198 yX10_alikePrice ∈ gtb := by
  rw [h]
  exact gt_of 1153 (by decide +kernel) rfl
theorem ml_RX10_201 {y : Yt} (h : y.1.cls = RX10) : Cond.methodLink y.1.cls 201 yX10_bestPrice ∈ gtb := by
  rw [h]
  exact gt_of 1157 (by decide +kernel) rfl
theorem ml_RL_82 {y : Yt} (h : y.1.cls = RL) : Cond.methodLink y.1.cls 82 yX10_outcome ∈ gtb := by
  rw [h]
  exact gt_of 1161 (by decide +kernel) rfl
theorem ml_RX10_227 {y : Yt} (h : y.1.cls = RX10) : Cond.methodLink y.1.cls 227 yX10_layOutcome ∈ gtb := by
  rw [h]
  exact gt_of 1166 (by decide +kernel) rfl
theorem ml_RX10_230 {y : Yt} (h : y.1.cls = RX10) : Cond.methodLink y.1.cls 230 yX10_earnsOf ∈ gtb := by
  rw [h]
  exact gt_of 1170 (by decide +kernel) rfl
theorem ml_RL_87 {y : Yt} (h : y.1.cls = RL) : Cond.methodLink y.1.cls 87 yX10_sum ∈ gtb := by
  rw [h]
  exact gt_of 1174 (by decide +kernel) rfl
theorem ml_RX10_233 {y : Yt} (h : y.1.cls = RX10) : Cond.methodLink y.1.cls 233 yX10_saving ∈ gtb := by
  rw [h]
  exact gt_of 1178 (by decide +kernel) rfl
theorem ml_RX10_236 {y : Yt} (h : y.1.cls = RX10) : Cond.methodLink y.1.cls 236 yX10_allEarn ∈ gtb := by
  rw [h]
  exact gt_of 1182 (by decide +kernel) rfl
theorem ml_RX10_239 {y : Yt} (h : y.1.cls = RX10) : Cond.methodLink y.1.cls 239 yX10_everybody ∈ gtb := by
  rw [h]
  exact gt_of 1186 (by decide +kernel) rfl
theorem ml_RL_92 {y : Yt} (h : y.1.cls = RL) : Cond.methodLink y.1.cls 92 yX10_passed ∈ gtb := by
  rw [h]
  exact gt_of 1190 (by decide +kernel) rfl
theorem ml_RL_96 {y : Yt} (h : y.1.cls = RL) : Cond.methodLink y.1.cls 96 yX10_gain ∈ gtb := by
  rw [h]
  exact gt_of 1194 (by decide +kernel) rfl
theorem ml_RL_101 {y : Yt} (h : y.1.cls = RL) : Cond.methodLink y.1.cls 101 yX10_tell ∈ gtb := by
  rw [h]
  exact gt_of 1198 (by decide +kernel) rfl
theorem ml_RL_105 {y : Yt} (h : y.1.cls = RL) : Cond.methodLink y.1.cls 105 yX10_given ∈ gtb := by
  rw [h]
  exact gt_of 1202 (by decide +kernel) rfl
theorem ml_RX10_245 {y : Yt} (h : y.1.cls = RX10) : Cond.methodLink y.1.cls 245 yX10_toldUnit ∈ gtb := by
  rw [h]
  exact gt_of 1206 (by decide +kernel) rfl
theorem ml_RX10_242 {y : Yt} (h : y.1.cls = RX10) : Cond.methodLink y.1.cls 242 yX10_toldTake ∈ gtb := by
  rw [h]
  exact gt_of 1210 (by decide +kernel) rfl
theorem ml_RL_109 {y : Yt} (h : y.1.cls = RL) : Cond.methodLink y.1.cls 109 yX10_doers ∈ gtb := by
  rw [h]
  exact gt_of 1214 (by decide +kernel) rfl
theorem ml_RX10_248 {y : Yt} (h : y.1.cls = RX10) : Cond.methodLink y.1.cls 248 yX10_wouldElse ∈ gtb := by
  rw [h]
  exact gt_of 1218 (by decide +kernel) rfl
theorem ml_RL_113 {y : Yt} (h : y.1.cls = RL) : Cond.methodLink y.1.cls 113 yX10_fee ∈ gtb := by
  rw [h]
  exact gt_of 1222 (by decide +kernel) rfl
theorem ml_RX10_254 {y : Yt} (h : y.1.cls = RX10) : Cond.methodLink y.1.cls 254 yX10_isBehind ∈ gtb := by
  rw [h]
  exact gt_of 1226 (by decide +kernel) rfl
theorem ml_RX10_257 {y : Yt} (h : y.1.cls = RX10) : Cond.methodLink y.1.cls 257 yX10_freely ∈ gtb := by
  rw [h]
  exact gt_of 1230 (by decide +kernel) rfl
theorem ml_RX10_251 {y : Yt} (h : y.1.cls = RX10) : Cond.methodLink y.1.cls 251 yX10_chainCost ∈ gtb := by
  rw [h]
  exact gt_of 1234 (by decide +kernel) rfl
theorem ml_RL_117 {y : Yt} (h : y.1.cls = RL) : Cond.methodLink y.1.cls 117 yX10_parts ∈ gtb := by
  rw [h]
  exact gt_of 1238 (by decide +kernel) rfl
theorem ml_RX10_277 {y : Yt} (h : y.1.cls = RX10) : Cond.methodLink y.1.cls 277 yX10_isPartner ∈ gtb := by
  rw [h]
  exact gt_of 1242 (by decide +kernel) rfl
theorem ml_RX10_274 {y : Yt} (h : y.1.cls = RX10) : Cond.methodLink y.1.cls 274 yX10_isMaker ∈ gtb := by
  rw [h]
  exact gt_of 1246 (by decide +kernel) rfl
theorem ml_RX10_280 {y : Yt} (h : y.1.cls = RX10) : Cond.methodLink y.1.cls 280 yX10_layPairs ∈ gtb := by
  rw [h]
  exact gt_of 1250 (by decide +kernel) rfl
theorem ml_RX10_270 {y : Yt} (h : y.1.cls = RX10) : Cond.methodLink y.1.cls 270 yX10_isPair ∈ gtb := by
  rw [h]
  exact gt_of 1254 (by decide +kernel) rfl
theorem ml_RX10_260 {y : Yt} (h : y.1.cls = RX10) : Cond.methodLink y.1.cls 260 yX10_bracket ∈ gtb := by
  rw [h]
  exact gt_of 1258 (by decide +kernel) rfl
theorem ml_RL_121 {y : Yt} (h : y.1.cls = RL) : Cond.methodLink y.1.cls 121 yX10_takings ∈ gtb := by
  rw [h]
  exact gt_of 1262 (by decide +kernel) rfl
theorem ml_RL_126 {y : Yt} (h : y.1.cls = RL) : Cond.methodLink y.1.cls 126 yX10_rivals ∈ gtb := by
  rw [h]
  exact gt_of 1268 (by decide +kernel) rfl
theorem ml_RX10_288 {y : Yt} (h : y.1.cls = RX10) : Cond.methodLink y.1.cls 288 yX10_restsOf ∈ gtb := by
  rw [h]
  exact gt_of 1272 (by decide +kernel) rfl
theorem ml_RL_130 {y : Yt} (h : y.1.cls = RL) : Cond.methodLink y.1.cls 130 yX10_makers ∈ gtb := by
  rw [h]
  exact gt_of 1276 (by decide +kernel) rfl
theorem mm_RX10_291 {y : Yt} (h : y.1.cls = RX10) : Cond.methodLink y.1.cls 291 Lib.Math.min.name ∈ gtb := by
  rw [h]
  exact gt_of 1280 (by decide +kernel) rfl
theorem ml_RL_134 {y : Yt} (h : y.1.cls = RL) : Cond.methodLink y.1.cls 134 yX10_chance ∈ gtb := by
  rw [h]
  exact gt_of 1283 (by decide +kernel) rfl
theorem ml_RL_138 {y : Yt} (h : y.1.cls = RL) : Cond.methodLink y.1.cls 138 yX10_clear ∈ gtb := by
  rw [h]
  exact gt_of 1287 (by decide +kernel) rfl
theorem ml_RL_142 {y : Yt} (h : y.1.cls = RL) : Cond.methodLink y.1.cls 142 yX10_expects ∈ gtb := by
  rw [h]
  exact gt_of 1291 (by decide +kernel) rfl
theorem ml_RX10_299 {y : Yt} (h : y.1.cls = RX10) : Cond.methodLink y.1.cls 299 yX10_isAsked ∈ gtb := by
  rw [h]
  exact gt_of 1295 (by decide +kernel) rfl
theorem ml_RX10_302 {y : Yt} (h : y.1.cls = RX10) : Cond.methodLink y.1.cls 302 yX10_expected ∈ gtb := by
  rw [h]
  exact gt_of 1299 (by decide +kernel) rfl
theorem ml_RL_146 {y : Yt} (h : y.1.cls = RL) : Cond.methodLink y.1.cls 146 yX10_stock ∈ gtb := by
  rw [h]
  exact gt_of 1303 (by decide +kernel) rfl
theorem ml_RX10_306 {y : Yt} (h : y.1.cls = RX10) : Cond.methodLink y.1.cls 306 yX10_bestStock ∈ gtb := by
  rw [h]
  exact gt_of 1307 (by decide +kernel) rfl
theorem ml_RL_150 {y : Yt} (h : y.1.cls = RL) : Cond.methodLink y.1.cls 150 yX10_seller ∈ gtb := by
  rw [h]
  exact gt_of 1311 (by decide +kernel) rfl
theorem ml_RX10_309 {y : Yt} (h : y.1.cls = RX10) : Cond.methodLink y.1.cls 309 yX10_sellerExpects ∈ gtb := by
  rw [h]
  exact gt_of 1315 (by decide +kernel) rfl
theorem ml_RL_154 {y : Yt} (h : y.1.cls = RL) : Cond.methodLink y.1.cls 154 yX10_rather ∈ gtb := by
  rw [h]
  exact gt_of 1319 (by decide +kernel) rfl
theorem ml_RX10_318 {y : Yt} (h : y.1.cls = RX10) : Cond.methodLink y.1.cls 318 yX10_ratherBy ∈ gtb := by
  rw [h]
  exact gt_of 1323 (by decide +kernel) rfl
theorem ml_RX10_312 {y : Yt} (h : y.1.cls = RX10) : Cond.methodLink y.1.cls 312 yX10_oneWith ∈ gtb := by
  rw [h]
  exact gt_of 1327 (by decide +kernel) rfl
theorem ml_RX10_315 {y : Yt} (h : y.1.cls = RX10) : Cond.methodLink y.1.cls 315 yX10_earnTogether ∈ gtb := by
  rw [h]
  exact gt_of 1331 (by decide +kernel) rfl
theorem ml_RL_158 {y : Yt} (h : y.1.cls = RL) : Cond.methodLink y.1.cls 158 yX10_rests ∈ gtb := by
  rw [h]
  exact gt_of 1335 (by decide +kernel) rfl
theorem ml_RL_162 {y : Yt} (h : y.1.cls = RL) : Cond.methodLink y.1.cls 162 yX10_count ∈ gtb := by
  rw [h]
  exact gt_of 1339 (by decide +kernel) rfl
theorem nl_RX9_11 {y : Yt} (h : y.1.cls = RX9) : (y.1.cls, 11, yX6_init) ∈ nlk := by
  rw [h]
  decide +kernel
theorem nl_RX9_26 {y : Yt} (h : y.1.cls = RX9) : (y.1.cls, 26, yX8_init) ∈ nlk := by
  rw [h]
  decide +kernel
theorem nl_RX8_38 {y : Yt} (h : y.1.cls = RX8) : (y.1.cls, 38, yX7_init) ∈ nlk := by
  rw [h]
  decide +kernel
theorem nl_RX9_33 {y : Yt} (h : y.1.cls = RX9) : (y.1.cls, 33, yX7_init) ∈ nlk := by
  rw [h]
  decide +kernel
theorem nl_RX9_40 {y : Yt} (h : y.1.cls = RX9) : (y.1.cls, 40, yX5_init) ∈ nlk := by
  rw [h]
  decide +kernel
theorem nl_RX5_17 {y : Yt} (h : y.1.cls = RX5) : (y.1.cls, 17, yX7_init) ∈ nlk := by
  rw [h]
  decide +kernel
theorem nl_RX9_50 {y : Yt} (h : y.1.cls = RX9) : (y.1.cls, 50, yX2_init) ∈ nlk := by
  rw [h]
  decide +kernel
theorem nl_RX9_57 {y : Yt} (h : y.1.cls = RX9) : (y.1.cls, 57, yX3_init) ∈ nlk := by
  rw [h]
  decide +kernel
theorem nl_RX9_64 {y : Yt} (h : y.1.cls = RX9) : (y.1.cls, 64, yX1_init) ∈ nlk := by
  rw [h]
  decide +kernel
theorem nl_RX9_71 {y : Yt} (h : y.1.cls = RX9) : (y.1.cls, 71, yX4_init) ∈ nlk := by
  rw [h]
  decide +kernel
theorem nl_RX9_78 {y : Yt} (h : y.1.cls = RX9) : (y.1.cls, 78, yX0_init) ∈ nlk := by
  rw [h]
  decide +kernel
theorem nl_RX5_84 {y : Yt} (h : y.1.cls = RX5) : (y.1.cls, 84, yX9_row) ∈ nlk := by
  rw [h]
  decide +kernel
theorem nl_RX5_118 {y : Yt} (h : y.1.cls = RX5) : (y.1.cls, 118, yX9_bestPrice) ∈ nlk := by
  rw [h]
  decide +kernel
theorem nl_RX2_57 {y : Yt} (h : y.1.cls = RX2) : (y.1.cls, 57, yX9_bestPrice) ∈ nlk := by
  rw [h]
  decide +kernel
theorem nl_RX1_39 {y : Yt} (h : y.1.cls = RX1) : (y.1.cls, 39, yX9_bestPrice) ∈ nlk := by
  rw [h]
  decide +kernel
theorem cl_RL_8 {y : Yt} (h : y.1.cls = RL) : Cond.classLink y.1.cls 8 (Cof 9) ∈ gtb := by
  rw [h]
  exact gt_of 17 (by decide +kernel) rfl
theorem cl_RX9_9 {y : Yt} (h : y.1.cls = RX9) : Cond.classLink y.1.cls 9 (Cof 6) ∈ gtb := by
  rw [h]
  exact gt_of 25 (by decide +kernel) rfl
theorem cl_RX9_16 {y : Yt} (h : y.1.cls = RX9) : Cond.classLink y.1.cls 16 (Cof 8) ∈ gtb := by
  rw [h]
  exact gt_of 46 (by decide +kernel) rfl
theorem cl_RX8_31 {y : Yt} (h : y.1.cls = RX8) : Cond.classLink y.1.cls 31 "[[I" ∈ gtb := by
  rw [h]
  exact gt_of 53 (by decide +kernel) rfl
theorem cl_RX8_36 {y : Yt} (h : y.1.cls = RX8) : Cond.classLink y.1.cls 36 (Cof 7) ∈ gtb := by
  rw [h]
  exact gt_of 55 (by decide +kernel) rfl
theorem cl_RX9_31 {y : Yt} (h : y.1.cls = RX9) : Cond.classLink y.1.cls 31 (Cof 7) ∈ gtb := by
  rw [h]
  exact gt_of 170 (by decide +kernel) rfl
theorem cl_RX9_38 {y : Yt} (h : y.1.cls = RX9) : Cond.classLink y.1.cls 38 (Cof 5) ∈ gtb := by
  rw [h]
  exact gt_of 172 (by decide +kernel) rfl
theorem cl_RX5_15 {y : Yt} (h : y.1.cls = RX5) : Cond.classLink y.1.cls 15 (Cof 7) ∈ gtb := by
  rw [h]
  exact gt_of 178 (by decide +kernel) rfl
theorem cl_RX5_26 {y : Yt} (h : y.1.cls = RX5) : Cond.classLink y.1.cls 26 "[[I" ∈ gtb := by
  rw [h]
  exact gt_of 180 (by decide +kernel) rfl
theorem cl_RX9_48 {y : Yt} (h : y.1.cls = RX9) : Cond.classLink y.1.cls 48 (Cof 2) ∈ gtb := by
  rw [h]
  exact gt_of 227 (by decide +kernel) rfl
theorem cl_RX9_55 {y : Yt} (h : y.1.cls = RX9) : Cond.classLink y.1.cls 55 (Cof 3) ∈ gtb := by
  rw [h]
  exact gt_of 237 (by decide +kernel) rfl
theorem cl_RX9_62 {y : Yt} (h : y.1.cls = RX9) : Cond.classLink y.1.cls 62 (Cof 1) ∈ gtb := by
  rw [h]
  exact gt_of 258 (by decide +kernel) rfl
theorem cl_RX9_69 {y : Yt} (h : y.1.cls = RX9) : Cond.classLink y.1.cls 69 (Cof 4) ∈ gtb := by
  rw [h]
  exact gt_of 283 (by decide +kernel) rfl
theorem cl_RX4_15 {y : Yt} (h : y.1.cls = RX4) : Cond.classLink y.1.cls 15 "[[I" ∈ gtb := by
  rw [h]
  exact gt_of 289 (by decide +kernel) rfl
theorem cl_RX9_76 {y : Yt} (h : y.1.cls = RX9) : Cond.classLink y.1.cls 76 (Cof 0) ∈ gtb := by
  rw [h]
  exact gt_of 297 (by decide +kernel) rfl
theorem cl_RL_16 {y : Yt} (h : y.1.cls = RL) : Cond.classLink y.1.cls 16 (Cof 10) ∈ gtb := by
  rw [h]
  exact gt_of 862 (by decide +kernel) rfl
theorem kc_RX9_174 {y : Yt} (h : y.1.cls = RX9) : Cond.constant y.1.cls 174 (-100000000) ∈ gtb := by
  rw [h]
  exact gt_of 546 (by decide +kernel) rfl
theorem kc_RX10_226 {y : Yt} (h : y.1.cls = RX10) : Cond.constant y.1.cls 226 (-100000000) ∈ gtb := by
  rw [h]
  exact gt_of 1165 (by decide +kernel) rfl
theorem kl_RX3_60 {y : Yt} (h : y.1.cls = RX3) : Cond.constantLong y.1.cls 60 (100) ∈ gtb := by
  rw [h]
  exact gt_of 668 (by decide +kernel) rfl
theorem kl_RX3_65 {y : Yt} (h : y.1.cls = RX3) : Cond.constantLong y.1.cls 65 (10000) ∈ gtb := by
  rw [h]
  exact gt_of 669 (by decide +kernel) rfl
theorem kl_RX10_284 {y : Yt} (h : y.1.cls = RX10) : Cond.constantLong y.1.cls 284 (100) ∈ gtb := by
  rw [h]
  exact gt_of 1266 (by decide +kernel) rfl
theorem kl_RX10_286 {y : Yt} (h : y.1.cls = RX10) : Cond.constantLong y.1.cls 286 (10000) ∈ gtb := by
  rw [h]
  exact gt_of 1267 (by decide +kernel) rfl
theorem in_X0 : Cond.initialized RX0 ∈ gtb := gt_of 10 (by decide +kernel) rfl
theorem it_X0 : Cond.instantiable (Cof 0) (nfl 0) ∈ gtb := gt_of 298 (by decide +kernel) rfl
theorem in_X1 : Cond.initialized RX1 ∈ gtb := gt_of 8 (by decide +kernel) rfl
theorem it_X1 : Cond.instantiable (Cof 1) (nfl 1) ∈ gtb := gt_of 259 (by decide +kernel) rfl
theorem in_X2 : Cond.initialized RX2 ∈ gtb := gt_of 6 (by decide +kernel) rfl
theorem it_X2 : Cond.instantiable (Cof 2) (nfl 2) ∈ gtb := gt_of 228 (by decide +kernel) rfl
theorem in_X3 : Cond.initialized RX3 ∈ gtb := gt_of 7 (by decide +kernel) rfl
theorem it_X3 : Cond.instantiable (Cof 3) (nfl 3) ∈ gtb := gt_of 238 (by decide +kernel) rfl
theorem in_X4 : Cond.initialized RX4 ∈ gtb := gt_of 9 (by decide +kernel) rfl
theorem it_X4 : Cond.instantiable (Cof 4) (nfl 4) ∈ gtb := gt_of 284 (by decide +kernel) rfl
theorem in_X5 : Cond.initialized RX5 ∈ gtb := gt_of 5 (by decide +kernel) rfl
theorem it_X5 : Cond.instantiable (Cof 5) (nfl 5) ∈ gtb := gt_of 173 (by decide +kernel) rfl
theorem in_X6 : Cond.initialized RX6 ∈ gtb := gt_of 2 (by decide +kernel) rfl
theorem it_X6 : Cond.instantiable (Cof 6) (nfl 6) ∈ gtb := gt_of 26 (by decide +kernel) rfl
theorem in_X7 : Cond.initialized RX7 ∈ gtb := gt_of 4 (by decide +kernel) rfl
theorem it_X7 : Cond.instantiable (Cof 7) (nfl 7) ∈ gtb := gt_of 56 (by decide +kernel) rfl
theorem in_X8 : Cond.initialized RX8 ∈ gtb := gt_of 3 (by decide +kernel) rfl
theorem it_X8 : Cond.instantiable (Cof 8) (nfl 8) ∈ gtb := gt_of 48 (by decide +kernel) rfl
theorem in_X9 : Cond.initialized RX9 ∈ gtb := gt_of 1 (by decide +kernel) rfl
theorem it_X9 : Cond.instantiable (Cof 9) (nfl 9) ∈ gtb := gt_of 18 (by decide +kernel) rfl
theorem in_X10 : Cond.initialized RX10 ∈ gtb := gt_of 11 (by decide +kernel) rfl
theorem it_X10 : Cond.instantiable (Cof 10) (nfl 10) ∈ gtb := gt_of 863 (by decide +kernel) rfl
theorem oi_in : Cond.instanceMethod Lib.objectInit ∈ gtb := gt_of 23 (by decide +kernel) rfl
theorem oi_cd : Cond.code Lib.objectInit ⟨#[0xb1]⟩ 1 none ∈ gtb := gt_of 24 (by decide +kernel) rfl
theorem mt_max_s : Cond.static Lib.Math.max.name ∈ gtb := gt_of 732 (by decide +kernel) rfl
theorem mt_max_c : Cond.code Lib.Math.max.name Lib.Math.max.code 2 (some .int) ∈ gtb := gt_of 733 (by decide +kernel) rfl
theorem mt_min_s : Cond.static Lib.Math.min.name ∈ gtb := gt_of 1281 (by decide +kernel) rfl
theorem mt_min_c : Cond.code Lib.Math.min.name Lib.Math.min.code 2 (some .int) ∈ gtb := gt_of 1282 (by decide +kernel) rfl
theorem mt_i : Cond.initialized "java/lang/Math" ∈ gtb := gt_of 16 (by decide +kernel) rfl
theorem lk_X10_isPrice : lkB YX10_isPrice 1 := ⟨gt_of 1096 (by decide +kernel) rfl, in_X10, ⟨by decide, by decide, by decide +kernel⟩, by decide⟩
theorem sm_X10_isPrice : Cond.static yX10_isPrice ∈ gtb := gt_of 1095 (by decide +kernel) rfl
theorem lk_X1_setMakers : lkB YX1_setMakers 4 := ⟨gt_of 701 (by decide +kernel) rfl, in_X1, ⟨by decide, by decide, by decide +kernel⟩, by decide⟩
theorem im_X1_setMakers : Cond.instanceMethod yX1_setMakers ∈ gtb := gt_of 699 (by decide +kernel) rfl
theorem se_X1_setMakers : Cond.selects (Cof 1) yX1_setMakers yX1_setMakers ∈ gtb := gt_of 700 (by decide +kernel) rfl
theorem lk_X10_isHouse : lkB YX10_isHouse 2 := ⟨gt_of 1061 (by decide +kernel) rfl, in_X10, ⟨by decide, by decide, by decide +kernel⟩, by decide⟩
theorem im_X10_isHouse : Cond.instanceMethod yX10_isHouse ∈ gtb := gt_of 1060 (by decide +kernel) rfl
theorem se_X10_isHouse : Cond.selects (Cof 10) yX10_isHouse yX10_isHouse ∈ gtb := gt_sel 44 (by decide +kernel) rfl
theorem lk_X9_want : lkB YX9_want 3 := ⟨gt_of 436 (by decide +kernel) rfl, in_X9, ⟨by decide, by decide, by decide +kernel⟩, by decide⟩
theorem im_X9_want : Cond.instanceMethod yX9_want ∈ gtb := gt_of 434 (by decide +kernel) rfl
theorem se_X9_want : Cond.selects (Cof 9) yX9_want yX9_want ∈ gtb := gt_of 435 (by decide +kernel) rfl
theorem lk_X5_halvedPrice : lkB YX5_halvedPrice 2 := ⟨gt_of 525 (by decide +kernel) rfl, in_X5, ⟨by decide, by decide, by decide +kernel⟩, by decide⟩
theorem im_X5_halvedPrice : Cond.instanceMethod yX5_halvedPrice ∈ gtb := gt_of 524 (by decide +kernel) rfl
theorem se_X5_halvedPrice : Cond.selects (Cof 5) yX5_halvedPrice yX5_halvedPrice ∈ gtb := gt_sel 13 (by decide +kernel) rfl
theorem lk_X10_bestPrice : lkB YX10_bestPrice 2 := ⟨gt_of 1160 (by decide +kernel) rfl, in_X10, ⟨by decide, by decide, by decide +kernel⟩, by decide⟩
theorem im_X10_bestPrice : Cond.instanceMethod yX10_bestPrice ∈ gtb := gt_of 1159 (by decide +kernel) rfl
theorem se_X10_bestPrice : Cond.selects (Cof 10) yX10_bestPrice yX10_bestPrice ∈ gtb := gt_sel 61 (by decide +kernel) rfl
theorem lk_X0_expected : lkB YX0_expected 4 := ⟨gt_of 726 (by decide +kernel) rfl, in_X0, ⟨by decide, by decide, by decide +kernel⟩, by decide⟩
theorem im_X0_expected : Cond.instanceMethod yX0_expected ∈ gtb := gt_of 724 (by decide +kernel) rfl
theorem se_X0_expected : Cond.selects (Cof 0) yX0_expected yX0_expected ∈ gtb := gt_of 725 (by decide +kernel) rfl
theorem lk_X5_settle : lkB YX5_settle 2 := ⟨gt_of 479 (by decide +kernel) rfl, in_X5, ⟨by decide, by decide, by decide +kernel⟩, by decide⟩
theorem im_X5_settle : Cond.instanceMethod yX5_settle ∈ gtb := gt_of 477 (by decide +kernel) rfl
theorem se_X5_settle : Cond.selects (Cof 5) yX5_settle yX5_settle ∈ gtb := gt_of 478 (by decide +kernel) rfl
theorem lk_X10_number : lkB YX10_number 3 := ⟨gt_of 1026 (by decide +kernel) rfl, in_X10, ⟨by decide, by decide, by decide +kernel⟩, by decide⟩
theorem im_X10_number : Cond.instanceMethod yX10_number ∈ gtb := gt_of 1025 (by decide +kernel) rfl
theorem se_X10_number : Cond.selects (Cof 10) yX10_number yX10_number ∈ gtb := gt_sel 38 (by decide +kernel) rfl
theorem lk_X10_gain : lkB YX10_gain 2 := ⟨gt_of 1197 (by decide +kernel) rfl, in_X10, ⟨by decide, by decide, by decide +kernel⟩, by decide⟩
theorem im_X10_gain : Cond.instanceMethod yX10_gain ∈ gtb := gt_of 1195 (by decide +kernel) rfl
theorem se_X10_gain : Cond.selects (Cof 10) yX10_gain yX10_gain ∈ gtb := gt_of 1196 (by decide +kernel) rfl
theorem lk_X1_restAt : lkB YX1_restAt 1 := ⟨gt_of 681 (by decide +kernel) rfl, in_X1, ⟨by decide, by decide, by decide +kernel⟩, by decide⟩
theorem im_X1_restAt : Cond.instanceMethod yX1_restAt ∈ gtb := gt_of 679 (by decide +kernel) rfl
theorem se_X1_restAt : Cond.selects (Cof 1) yX1_restAt yX1_restAt ∈ gtb := gt_of 680 (by decide +kernel) rfl
theorem lk_X10_house : lkB YX10_house 3 := ⟨gt_of 1057 (by decide +kernel) rfl, in_X10, ⟨by decide, by decide, by decide +kernel⟩, by decide⟩
theorem im_X10_house : Cond.instanceMethod yX10_house ∈ gtb := gt_of 1055 (by decide +kernel) rfl
theorem se_X10_house : Cond.selects (Cof 10) yX10_house yX10_house ∈ gtb := gt_of 1056 (by decide +kernel) rfl
theorem lk_X10_sellerExpects : lkB YX10_sellerExpects 4 := ⟨gt_of 1318 (by decide +kernel) rfl, in_X10, ⟨by decide, by decide, by decide +kernel⟩, by decide⟩
theorem im_X10_sellerExpects : Cond.instanceMethod yX10_sellerExpects ∈ gtb := gt_of 1317 (by decide +kernel) rfl
theorem se_X10_sellerExpects : Cond.selects (Cof 10) yX10_sellerExpects yX10_sellerExpects ∈ gtb := gt_sel 82 (by decide +kernel) rfl
theorem lk_X7_sameButJoined : lkB YX7_sameButJoined 1 := ⟨gt_of 487 (by decide +kernel) rfl, in_X7, ⟨by decide, by decide, by decide +kernel⟩, by decide⟩
theorem im_X7_sameButJoined : Cond.instanceMethod yX7_sameButJoined ∈ gtb := gt_of 485 (by decide +kernel) rfl
theorem se_X7_sameButJoined : Cond.selects (Cof 7) yX7_sameButJoined yX7_sameButJoined ∈ gtb := gt_of 486 (by decide +kernel) rfl
theorem lk_X9_fault : lkB YX9_fault 0 := ⟨gt_of 372 (by decide +kernel) rfl, in_X9, ⟨by decide, by decide, by decide +kernel⟩, by decide⟩
theorem im_X9_fault : Cond.instanceMethod yX9_fault ∈ gtb := gt_of 370 (by decide +kernel) rfl
theorem se_X9_fault : Cond.selects (Cof 9) yX9_fault yX9_fault ∈ gtb := gt_of 371 (by decide +kernel) rfl
theorem lk_X10_look : lkB YX10_look 0 := ⟨gt_of 1014 (by decide +kernel) rfl, in_X10, ⟨by decide, by decide, by decide +kernel⟩, by decide⟩
theorem im_X10_look : Cond.instanceMethod yX10_look ∈ gtb := gt_of 1013 (by decide +kernel) rfl
theorem se_X10_look : Cond.selects (Cof 10) yX10_look yX10_look ∈ gtb := gt_sel 35 (by decide +kernel) rfl
theorem lk_X10_priceTo : lkB YX10_priceTo 3 := ⟨gt_of 1144 (by decide +kernel) rfl, in_X10, ⟨by decide, by decide, by decide +kernel⟩, by decide⟩
theorem im_X10_priceTo : Cond.instanceMethod yX10_priceTo ∈ gtb := gt_of 1143 (by decide +kernel) rfl
theorem se_X10_priceTo : Cond.selects (Cof 10) yX10_priceTo yX10_priceTo ∈ gtb := gt_sel 57 (by decide +kernel) rfl
theorem lk_X10_bracket : lkB YX10_bracket 5 := ⟨gt_of 1261 (by decide +kernel) rfl, in_X10, ⟨by decide, by decide, by decide +kernel⟩, by decide⟩
theorem im_X10_bracket : Cond.instanceMethod yX10_bracket ∈ gtb := gt_of 1260 (by decide +kernel) rfl
theorem se_X10_bracket : Cond.selects (Cof 10) yX10_bracket yX10_bracket ∈ gtb := gt_sel 77 (by decide +kernel) rfl
theorem lk_X10_chance : lkB YX10_chance 2 := ⟨gt_of 1286 (by decide +kernel) rfl, in_X10, ⟨by decide, by decide, by decide +kernel⟩, by decide⟩
theorem im_X10_chance : Cond.instanceMethod yX10_chance ∈ gtb := gt_of 1284 (by decide +kernel) rfl
theorem se_X10_chance : Cond.selects (Cof 10) yX10_chance yX10_chance ∈ gtb := gt_of 1285 (by decide +kernel) rfl
theorem lk_X10_bestStock : lkB YX10_bestStock 3 := ⟨gt_of 1310 (by decide +kernel) rfl, in_X10, ⟨by decide, by decide, by decide +kernel⟩, by decide⟩
theorem im_X10_bestStock : Cond.instanceMethod yX10_bestStock ∈ gtb := gt_of 1309 (by decide +kernel) rfl
theorem se_X10_bestStock : Cond.selects (Cof 10) yX10_bestStock yX10_bestStock ∈ gtb := gt_sel 81 (by decide +kernel) rfl
theorem lk_X6_readLot : lkB YX6_readLot 1 := ⟨gt_of 412 (by decide +kernel) rfl, in_X6, ⟨by decide, by decide, by decide +kernel⟩, by decide⟩
theorem im_X6_readLot : Cond.instanceMethod yX6_readLot ∈ gtb := gt_of 411 (by decide +kernel) rfl
theorem se_X6_readLot : Cond.selects (Cof 6) yX6_readLot yX6_readLot ∈ gtb := gt_sel 6 (by decide +kernel) rfl
theorem lk_X1_setShops : lkB YX1_setShops 4 := ⟨gt_of 677 (by decide +kernel) rfl, in_X1, ⟨by decide, by decide, by decide +kernel⟩, by decide⟩
theorem im_X1_setShops : Cond.instanceMethod yX1_setShops ∈ gtb := gt_of 675 (by decide +kernel) rfl
theorem se_X1_setShops : Cond.selects (Cof 1) yX1_setShops yX1_setShops ∈ gtb := gt_of 676 (by decide +kernel) rfl
theorem lk_X9_end : lkB YX9_end 1 := ⟨gt_of 368 (by decide +kernel) rfl, in_X9, ⟨by decide, by decide, by decide +kernel⟩, by decide⟩
theorem im_X9_end : Cond.instanceMethod yX9_end ∈ gtb := gt_of 366 (by decide +kernel) rfl
theorem se_X9_end : Cond.selects (Cof 9) yX9_end yX9_end ∈ gtb := gt_of 367 (by decide +kernel) rfl
theorem lk_X8_isBelow : lkB YX8_isBelow 2 := ⟨gt_of 639 (by decide +kernel) rfl, in_X8, ⟨by decide, by decide, by decide +kernel⟩, by decide⟩
theorem im_X8_isBelow : Cond.instanceMethod yX8_isBelow ∈ gtb := gt_of 637 (by decide +kernel) rfl
theorem se_X8_isBelow : Cond.selects (Cof 8) yX8_isBelow yX8_isBelow ∈ gtb := gt_of 638 (by decide +kernel) rfl
theorem lk_X10_wanted : lkB YX10_wanted 3 := ⟨gt_of 1085 (by decide +kernel) rfl, in_X10, ⟨by decide, by decide, by decide +kernel⟩, by decide⟩
theorem im_X10_wanted : Cond.instanceMethod yX10_wanted ∈ gtb := gt_of 1084 (by decide +kernel) rfl
theorem se_X10_wanted : Cond.selects (Cof 10) yX10_wanted yX10_wanted ∈ gtb := gt_sel 50 (by decide +kernel) rfl
theorem lk_X9_take : lkB YX9_take 3 := ⟨gt_of 474 (by decide +kernel) rfl, in_X9, ⟨by decide, by decide, by decide +kernel⟩, by decide⟩
theorem im_X9_take : Cond.instanceMethod yX9_take ∈ gtb := gt_of 472 (by decide +kernel) rfl
theorem se_X9_take : Cond.selects (Cof 9) yX9_take yX9_take ∈ gtb := gt_of 473 (by decide +kernel) rfl
theorem lk_X10_seller : lkB YX10_seller 4 := ⟨gt_of 1314 (by decide +kernel) rfl, in_X10, ⟨by decide, by decide, by decide +kernel⟩, by decide⟩
theorem im_X10_seller : Cond.instanceMethod yX10_seller ∈ gtb := gt_of 1312 (by decide +kernel) rfl
theorem se_X10_seller : Cond.selects (Cof 10) yX10_seller yX10_seller ∈ gtb := gt_of 1313 (by decide +kernel) rfl
theorem lk_X10_freely : lkB YX10_freely 2 := ⟨gt_of 1233 (by decide +kernel) rfl, in_X10, ⟨by decide, by decide, by decide +kernel⟩, by decide⟩
theorem im_X10_freely : Cond.instanceMethod yX10_freely ∈ gtb := gt_of 1232 (by decide +kernel) rfl
theorem se_X10_freely : Cond.selects (Cof 10) yX10_freely yX10_freely ∈ gtb := gt_sel 71 (by decide +kernel) rfl
theorem lk_X9_rests : lkB YX9_rests 2 := ⟨gt_of 769 (by decide +kernel) rfl, in_X9, ⟨by decide, by decide, by decide +kernel⟩, by decide⟩
theorem im_X9_rests : Cond.instanceMethod yX9_rests ∈ gtb := gt_of 767 (by decide +kernel) rfl
theorem se_X9_rests : Cond.selects (Cof 9) yX9_rests yX9_rests ∈ gtb := gt_of 768 (by decide +kernel) rfl
theorem lk_X2_init : lkB YX2_init 0 := ⟨gt_of 231 (by decide +kernel) rfl, in_X2, ⟨by decide, by decide, by decide +kernel⟩, by decide⟩
theorem im_X2_init : Cond.instanceMethod yX2_init ∈ gtb := gt_of 230 (by decide +kernel) rfl
theorem lk_X3_init : lkB YX3_init 0 := ⟨gt_of 241 (by decide +kernel) rfl, in_X3, ⟨by decide, by decide, by decide +kernel⟩, by decide⟩
theorem im_X3_init : Cond.instanceMethod yX3_init ∈ gtb := gt_of 240 (by decide +kernel) rfl
theorem lk_X10_want : lkB YX10_want 3 := ⟨gt_of 1093 (by decide +kernel) rfl, in_X10, ⟨by decide, by decide, by decide +kernel⟩, by decide⟩
theorem im_X10_want : Cond.instanceMethod yX10_want ∈ gtb := gt_of 1091 (by decide +kernel) rfl
theorem se_X10_want : Cond.selects (Cof 10) yX10_want yX10_want ∈ gtb := gt_of 1092 (by decide +kernel) rfl
theorem lk_X5_saved : lkB YX5_saved 1 := ⟨gt_of 558 (by decide +kernel) rfl, in_X5, ⟨by decide, by decide, by decide +kernel⟩, by decide⟩
theorem im_X5_saved : Cond.instanceMethod yX5_saved ∈ gtb := gt_of 556 (by decide +kernel) rfl
theorem se_X5_saved : Cond.selects (Cof 5) yX5_saved yX5_saved ∈ gtb := gt_of 557 (by decide +kernel) rfl
theorem lk_X5_takenAt : lkB YX5_takenAt 3 := ⟨gt_of 541 (by decide +kernel) rfl, in_X5, ⟨by decide, by decide, by decide +kernel⟩, by decide⟩
theorem im_X5_takenAt : Cond.instanceMethod yX5_takenAt ∈ gtb := gt_of 539 (by decide +kernel) rfl
theorem se_X5_takenAt : Cond.selects (Cof 5) yX5_takenAt yX5_takenAt ∈ gtb := gt_of 540 (by decide +kernel) rfl
theorem lk_X0_bestStock : lkB YX0_bestStock 3 := ⟨gt_of 741 (by decide +kernel) rfl, in_X0, ⟨by decide, by decide, by decide +kernel⟩, by decide⟩
theorem im_X0_bestStock : Cond.instanceMethod yX0_bestStock ∈ gtb := gt_of 739 (by decide +kernel) rfl
theorem se_X0_bestStock : Cond.selects (Cof 0) yX0_bestStock yX0_bestStock ∈ gtb := gt_of 740 (by decide +kernel) rfl
theorem lk_X10_statement : lkB YX10_statement 1 := ⟨gt_of 1037 (by decide +kernel) rfl, in_X10, ⟨by decide, by decide, by decide +kernel⟩, by decide⟩
theorem im_X10_statement : Cond.instanceMethod yX10_statement ∈ gtb := gt_of 1036 (by decide +kernel) rfl
theorem se_X10_statement : Cond.selects (Cof 10) yX10_statement yX10_statement ∈ gtb := gt_sel 40 (by decide +kernel) rfl
theorem lk_X8_isShop : lkB YX8_isShop 1 := ⟨gt_of 440 (by decide +kernel) rfl, in_X8, ⟨by decide, by decide, by decide +kernel⟩, by decide⟩
theorem im_X8_isShop : Cond.instanceMethod yX8_isShop ∈ gtb := gt_of 438 (by decide +kernel) rfl
theorem se_X8_isShop : Cond.selects (Cof 8) yX8_isShop yX8_isShop ∈ gtb := gt_of 439 (by decide +kernel) rfl
theorem lk_X10_expected : lkB YX10_expected 4 := ⟨gt_of 1302 (by decide +kernel) rfl, in_X10, ⟨by decide, by decide, by decide +kernel⟩, by decide⟩
theorem im_X10_expected : Cond.instanceMethod yX10_expected ∈ gtb := gt_of 1301 (by decide +kernel) rfl
theorem se_X10_expected : Cond.selects (Cof 10) yX10_expected yX10_expected ∈ gtb := gt_sel 80 (by decide +kernel) rfl
theorem lk_X5_lastRow : lkB YX5_lastRow 2 := ⟨gt_of 504 (by decide +kernel) rfl, in_X5, ⟨by decide, by decide, by decide +kernel⟩, by decide⟩
theorem im_X5_lastRow : Cond.instanceMethod yX5_lastRow ∈ gtb := gt_of 503 (by decide +kernel) rfl
theorem se_X5_lastRow : Cond.selects (Cof 5) yX5_lastRow yX5_lastRow ∈ gtb := gt_sel 10 (by decide +kernel) rfl
theorem lk_X10_join : lkB YX10_join 2 := ⟨gt_of 1100 (by decide +kernel) rfl, in_X10, ⟨by decide, by decide, by decide +kernel⟩, by decide⟩
theorem im_X10_join : Cond.instanceMethod yX10_join ∈ gtb := gt_of 1098 (by decide +kernel) rfl
theorem se_X10_join : Cond.selects (Cof 10) yX10_join yX10_join ∈ gtb := gt_of 1099 (by decide +kernel) rfl
theorem lk_X10_take : lkB YX10_take 3 := ⟨gt_of 1128 (by decide +kernel) rfl, in_X10, ⟨by decide, by decide, by decide +kernel⟩, by decide⟩
theorem im_X10_take : Cond.instanceMethod yX10_take ∈ gtb := gt_of 1126 (by decide +kernel) rfl
theorem se_X10_take : Cond.selects (Cof 10) yX10_take yX10_take ∈ gtb := gt_of 1127 (by decide +kernel) rfl
theorem lk_X6_skipBlanks : lkB YX6_skipBlanks 0 := ⟨gt_of 388 (by decide +kernel) rfl, in_X6, ⟨by decide, by decide, by decide +kernel⟩, by decide⟩
theorem im_X6_skipBlanks : Cond.instanceMethod yX6_skipBlanks ∈ gtb := gt_of 387 (by decide +kernel) rfl
theorem se_X6_skipBlanks : Cond.selects (Cof 6) yX6_skipBlanks yX6_skipBlanks ∈ gtb := gt_sel 1 (by decide +kernel) rfl
theorem lk_X9_rather : lkB YX9_rather 2 := ⟨gt_of 760 (by decide +kernel) rfl, in_X9, ⟨by decide, by decide, by decide +kernel⟩, by decide⟩
theorem im_X9_rather : Cond.instanceMethod yX9_rather ∈ gtb := gt_of 758 (by decide +kernel) rfl
theorem se_X9_rather : Cond.selects (Cof 9) yX9_rather yX9_rather ∈ gtb := gt_of 759 (by decide +kernel) rfl
theorem lk_X9_takings : lkB YX9_takings 3 := ⟨gt_of 663 (by decide +kernel) rfl, in_X9, ⟨by decide, by decide, by decide +kernel⟩, by decide⟩
theorem im_X9_takings : Cond.instanceMethod yX9_takings ∈ gtb := gt_of 661 (by decide +kernel) rfl
theorem se_X9_takings : Cond.selects (Cof 9) yX9_takings yX9_takings ∈ gtb := gt_of 662 (by decide +kernel) rfl
theorem lk_X9_feed : lkB YX9_feed 5 := ⟨gt_of 357 (by decide +kernel) rfl, in_X9, ⟨by decide, by decide, by decide +kernel⟩, by decide⟩
theorem im_X9_feed : Cond.instanceMethod yX9_feed ∈ gtb := gt_of 355 (by decide +kernel) rfl
theorem se_X9_feed : Cond.selects (Cof 9) yX9_feed yX9_feed ∈ gtb := gt_of 356 (by decide +kernel) rfl
theorem lk_X2_earnedBy : lkB YX2_earnedBy 2 := ⟨gt_of 592 (by decide +kernel) rfl, in_X2, ⟨by decide, by decide, by decide +kernel⟩, by decide⟩
theorem im_X2_earnedBy : Cond.instanceMethod yX2_earnedBy ∈ gtb := gt_of 590 (by decide +kernel) rfl
theorem se_X2_earnedBy : Cond.selects (Cof 2) yX2_earnedBy yX2_earnedBy ∈ gtb := gt_of 591 (by decide +kernel) rfl
theorem lk_X2_follow : lkB YX2_follow 1 := ⟨gt_of 587 (by decide +kernel) rfl, in_X2, ⟨by decide, by decide, by decide +kernel⟩, by decide⟩
theorem im_X2_follow : Cond.instanceMethod yX2_follow ∈ gtb := gt_of 585 (by decide +kernel) rfl
theorem se_X2_follow : Cond.selects (Cof 2) yX2_follow yX2_follow ∈ gtb := gt_of 586 (by decide +kernel) rfl
theorem lk_X10_put : lkB YX10_put 1 := ⟨gt_of 998 (by decide +kernel) rfl, in_X10, ⟨by decide, by decide, by decide +kernel⟩, by decide⟩
theorem im_X10_put : Cond.instanceMethod yX10_put ∈ gtb := gt_of 997 (by decide +kernel) rfl
theorem se_X10_put : Cond.selects (Cof 10) yX10_put yX10_put ∈ gtb := gt_sel 33 (by decide +kernel) rfl
theorem lk_X10_isPartner : lkB YX10_isPartner 2 := ⟨gt_of 1245 (by decide +kernel) rfl, in_X10, ⟨by decide, by decide, by decide +kernel⟩, by decide⟩
theorem im_X10_isPartner : Cond.instanceMethod yX10_isPartner ∈ gtb := gt_of 1244 (by decide +kernel) rfl
theorem se_X10_isPartner : Cond.selects (Cof 10) yX10_isPartner yX10_isPartner ∈ gtb := gt_sel 73 (by decide +kernel) rfl
theorem lk_X10_readBuys : lkB YX10_readBuys 1 := ⟨gt_of 1045 (by decide +kernel) rfl, in_X10, ⟨by decide, by decide, by decide +kernel⟩, by decide⟩
theorem im_X10_readBuys : Cond.instanceMethod yX10_readBuys ∈ gtb := gt_of 1044 (by decide +kernel) rfl
theorem se_X10_readBuys : Cond.selects (Cof 10) yX10_readBuys yX10_readBuys ∈ gtb := gt_sel 42 (by decide +kernel) rfl
theorem lk_X4_init : lkB YX4_init 0 := ⟨gt_of 287 (by decide +kernel) rfl, in_X4, ⟨by decide, by decide, by decide +kernel⟩, by decide⟩
theorem im_X4_init : Cond.instanceMethod yX4_init ∈ gtb := gt_of 286 (by decide +kernel) rfl
theorem lk_X10_rather : lkB YX10_rather 2 := ⟨gt_of 1322 (by decide +kernel) rfl, in_X10, ⟨by decide, by decide, by decide +kernel⟩, by decide⟩
theorem im_X10_rather : Cond.instanceMethod yX10_rather ∈ gtb := gt_of 1320 (by decide +kernel) rfl
theorem se_X10_rather : Cond.selects (Cof 10) yX10_rather yX10_rather ∈ gtb := gt_of 1321 (by decide +kernel) rfl
theorem lk_X9_seller : lkB YX9_seller 4 := ⟨gt_of 746 (by decide +kernel) rfl, in_X9, ⟨by decide, by decide, by decide +kernel⟩, by decide⟩
theorem im_X9_seller : Cond.instanceMethod yX9_seller ∈ gtb := gt_of 744 (by decide +kernel) rfl
theorem se_X9_seller : Cond.selects (Cof 9) yX9_seller yX9_seller ∈ gtb := gt_of 745 (by decide +kernel) rfl
theorem lk_X10_passed : lkB YX10_passed 4 := ⟨gt_of 1193 (by decide +kernel) rfl, in_X10, ⟨by decide, by decide, by decide +kernel⟩, by decide⟩
theorem im_X10_passed : Cond.instanceMethod yX10_passed ∈ gtb := gt_of 1191 (by decide +kernel) rfl
theorem se_X10_passed : Cond.selects (Cof 10) yX10_passed yX10_passed ∈ gtb := gt_of 1192 (by decide +kernel) rfl
theorem lk_X9_parts : lkB YX9_parts 3 := ⟨gt_of 647 (by decide +kernel) rfl, in_X9, ⟨by decide, by decide, by decide +kernel⟩, by decide⟩
theorem im_X9_parts : Cond.instanceMethod yX9_parts ∈ gtb := gt_of 645 (by decide +kernel) rfl
theorem se_X9_parts : Cond.selects (Cof 9) yX9_parts yX9_parts ∈ gtb := gt_of 646 (by decide +kernel) rfl
theorem lk_X10_sum : lkB YX10_sum 2 := ⟨gt_of 1177 (by decide +kernel) rfl, in_X10, ⟨by decide, by decide, by decide +kernel⟩, by decide⟩
theorem im_X10_sum : Cond.instanceMethod yX10_sum ∈ gtb := gt_of 1175 (by decide +kernel) rfl
theorem se_X10_sum : Cond.selects (Cof 10) yX10_sum yX10_sum ∈ gtb := gt_of 1176 (by decide +kernel) rfl
theorem lk_X10_earnBy : lkB YX10_earnBy 2 := ⟨gt_of 1152 (by decide +kernel) rfl, in_X10, ⟨by decide, by decide, by decide +kernel⟩, by decide⟩
theorem im_X10_earnBy : Cond.instanceMethod yX10_earnBy ∈ gtb := gt_of 1151 (by decide +kernel) rfl
theorem se_X10_earnBy : Cond.selects (Cof 10) yX10_earnBy yX10_earnBy ∈ gtb := gt_sel 59 (by decide +kernel) rfl
theorem lk_X8_empty : lkB YX8_empty 0 := ⟨gt_of 380 (by decide +kernel) rfl, in_X8, ⟨by decide, by decide, by decide +kernel⟩, by decide⟩
theorem im_X8_empty : Cond.instanceMethod yX8_empty ∈ gtb := gt_of 378 (by decide +kernel) rfl
theorem se_X8_empty : Cond.selects (Cof 8) yX8_empty yX8_empty ∈ gtb := gt_of 379 (by decide +kernel) rfl
theorem lk_X10_takings : lkB YX10_takings 3 := ⟨gt_of 1265 (by decide +kernel) rfl, in_X10, ⟨by decide, by decide, by decide +kernel⟩, by decide⟩
theorem im_X10_takings : Cond.instanceMethod yX10_takings ∈ gtb := gt_of 1263 (by decide +kernel) rfl
theorem se_X10_takings : Cond.selects (Cof 10) yX10_takings yX10_takings ∈ gtb := gt_of 1264 (by decide +kernel) rfl
theorem lk_X5_allEarned : lkB YX5_allEarned 1 := ⟨gt_of 554 (by decide +kernel) rfl, in_X5, ⟨by decide, by decide, by decide +kernel⟩, by decide⟩
theorem im_X5_allEarned : Cond.instanceMethod yX5_allEarned ∈ gtb := gt_of 552 (by decide +kernel) rfl
theorem se_X5_allEarned : Cond.selects (Cof 5) yX5_allEarned yX5_allEarned ∈ gtb := gt_of 553 (by decide +kernel) rfl
theorem lk_X9_ask : lkB YX9_ask 3 := ⟨gt_of 467 (by decide +kernel) rfl, in_X9, ⟨by decide, by decide, by decide +kernel⟩, by decide⟩
theorem im_X9_ask : Cond.instanceMethod yX9_ask ∈ gtb := gt_of 465 (by decide +kernel) rfl
theorem se_X9_ask : Cond.selects (Cof 9) yX9_ask yX9_ask ∈ gtb := gt_of 466 (by decide +kernel) rfl
theorem lk_X10_buyers : lkB YX10_buyers 2 := ⟨gt_of 1073 (by decide +kernel) rfl, in_X10, ⟨by decide, by decide, by decide +kernel⟩, by decide⟩
theorem im_X10_buyers : Cond.instanceMethod yX10_buyers ∈ gtb := gt_of 1072 (by decide +kernel) rfl
theorem se_X10_buyers : Cond.selects (Cof 10) yX10_buyers yX10_buyers ∈ gtb := gt_sel 47 (by decide +kernel) rfl
theorem lk_X9_clear : lkB YX9_clear 0 := ⟨gt_of 714 (by decide +kernel) rfl, in_X9, ⟨by decide, by decide, by decide +kernel⟩, by decide⟩
theorem im_X9_clear : Cond.instanceMethod yX9_clear ∈ gtb := gt_of 712 (by decide +kernel) rfl
theorem se_X9_clear : Cond.selects (Cof 9) yX9_clear yX9_clear ∈ gtb := gt_of 713 (by decide +kernel) rfl
theorem lk_X9_rivals : lkB YX9_rivals 6 := ⟨gt_of 673 (by decide +kernel) rfl, in_X9, ⟨by decide, by decide, by decide +kernel⟩, by decide⟩
theorem im_X9_rivals : Cond.instanceMethod yX9_rivals ∈ gtb := gt_of 671 (by decide +kernel) rfl
theorem se_X9_rivals : Cond.selects (Cof 9) yX9_rivals yX9_rivals ∈ gtb := gt_of 672 (by decide +kernel) rfl
theorem lk_X9_stock : lkB YX9_stock 3 := ⟨gt_of 737 (by decide +kernel) rfl, in_X9, ⟨by decide, by decide, by decide +kernel⟩, by decide⟩
theorem im_X9_stock : Cond.instanceMethod yX9_stock ∈ gtb := gt_of 735 (by decide +kernel) rfl
theorem se_X9_stock : Cond.selects (Cof 9) yX9_stock yX9_stock ∈ gtb := gt_of 736 (by decide +kernel) rfl
theorem lk_X8_holds : lkB YX8_holds 1 := ⟨gt_of 444 (by decide +kernel) rfl, in_X8, ⟨by decide, by decide, by decide +kernel⟩, by decide⟩
theorem im_X8_holds : Cond.instanceMethod yX8_holds ∈ gtb := gt_of 442 (by decide +kernel) rfl
theorem se_X8_holds : Cond.selects (Cof 8) yX8_holds yX8_holds ∈ gtb := gt_of 443 (by decide +kernel) rfl
theorem lk_X9_row : lkB YX9_row 1 := ⟨gt_of 507 (by decide +kernel) rfl, in_X9, ⟨by decide, by decide, by decide +kernel⟩, by decide⟩
theorem sm_X9_row : Cond.static yX9_row ∈ gtb := gt_of 506 (by decide +kernel) rfl
theorem lk_X10_everybody : lkB YX10_everybody 1 := ⟨gt_of 1189 (by decide +kernel) rfl, in_X10, ⟨by decide, by decide, by decide +kernel⟩, by decide⟩
theorem im_X10_everybody : Cond.instanceMethod yX10_everybody ∈ gtb := gt_of 1188 (by decide +kernel) rfl
theorem se_X10_everybody : Cond.selects (Cof 10) yX10_everybody yX10_everybody ∈ gtb := gt_sel 66 (by decide +kernel) rfl
theorem lk_X6_readCost : lkB YX6_readCost 1 := ⟨gt_of 400 (by decide +kernel) rfl, in_X6, ⟨by decide, by decide, by decide +kernel⟩, by decide⟩
theorem im_X6_readCost : Cond.instanceMethod yX6_readCost ∈ gtb := gt_of 399 (by decide +kernel) rfl
theorem se_X6_readCost : Cond.selects (Cof 6) yX6_readCost yX6_readCost ∈ gtb := gt_sel 4 (by decide +kernel) rfl
theorem lk_X10_chainCost : lkB YX10_chainCost 2 := ⟨gt_of 1237 (by decide +kernel) rfl, in_X10, ⟨by decide, by decide, by decide +kernel⟩, by decide⟩
theorem im_X10_chainCost : Cond.instanceMethod yX10_chainCost ∈ gtb := gt_of 1236 (by decide +kernel) rfl
theorem se_X10_chainCost : Cond.selects (Cof 10) yX10_chainCost yX10_chainCost ∈ gtb := gt_sel 72 (by decide +kernel) rfl
theorem lk_X9_join : lkB YX9_join 2 := ⟨gt_of 451 (by decide +kernel) rfl, in_X9, ⟨by decide, by decide, by decide +kernel⟩, by decide⟩
theorem im_X9_join : Cond.instanceMethod yX9_join ∈ gtb := gt_of 449 (by decide +kernel) rfl
theorem se_X9_join : Cond.selects (Cof 9) yX9_join yX9_join ∈ gtb := gt_of 450 (by decide +kernel) rfl
theorem lk_X10_ask : lkB YX10_ask 3 := ⟨gt_of 1112 (by decide +kernel) rfl, in_X10, ⟨by decide, by decide, by decide +kernel⟩, by decide⟩
theorem im_X10_ask : Cond.instanceMethod yX10_ask ∈ gtb := gt_of 1110 (by decide +kernel) rfl
theorem se_X10_ask : Cond.selects (Cof 10) yX10_ask yX10_ask ∈ gtb := gt_of 1111 (by decide +kernel) rfl
theorem lk_X10_rivals : lkB YX10_rivals 6 := ⟨gt_of 1271 (by decide +kernel) rfl, in_X10, ⟨by decide, by decide, by decide +kernel⟩, by decide⟩
theorem im_X10_rivals : Cond.instanceMethod yX10_rivals ∈ gtb := gt_of 1269 (by decide +kernel) rfl
theorem se_X10_rivals : Cond.selects (Cof 10) yX10_rivals yX10_rivals ∈ gtb := gt_of 1270 (by decide +kernel) rfl
theorem lk_X5_takesAt : lkB YX5_takesAt 2 := ⟨gt_of 521 (by decide +kernel) rfl, in_X5, ⟨by decide, by decide, by decide +kernel⟩, by decide⟩
theorem im_X5_takesAt : Cond.instanceMethod yX5_takesAt ∈ gtb := gt_of 519 (by decide +kernel) rfl
theorem se_X5_takesAt : Cond.selects (Cof 5) yX5_takesAt yX5_takesAt ∈ gtb := gt_of 520 (by decide +kernel) rfl
theorem lk_X9_findParted : lkB YX9_findParted 2 := ⟨gt_of 651 (by decide +kernel) rfl, in_X9, ⟨by decide, by decide, by decide +kernel⟩, by decide⟩
theorem im_X9_findParted : Cond.instanceMethod yX9_findParted ∈ gtb := gt_of 650 (by decide +kernel) rfl
theorem se_X9_findParted : Cond.selects (Cof 9) yX9_findParted yX9_findParted ∈ gtb := gt_sel 24 (by decide +kernel) rfl
theorem lk_X10_parts : lkB YX10_parts 3 := ⟨gt_of 1241 (by decide +kernel) rfl, in_X10, ⟨by decide, by decide, by decide +kernel⟩, by decide⟩
theorem im_X10_parts : Cond.instanceMethod yX10_parts ∈ gtb := gt_of 1239 (by decide +kernel) rfl
theorem se_X10_parts : Cond.selects (Cof 10) yX10_parts yX10_parts ∈ gtb := gt_of 1240 (by decide +kernel) rfl
theorem lk_X6_readStatement : lkB YX6_readStatement 2 := ⟨gt_of 384 (by decide +kernel) rfl, in_X6, ⟨by decide, by decide, by decide +kernel⟩, by decide⟩
theorem im_X6_readStatement : Cond.instanceMethod yX6_readStatement ∈ gtb := gt_of 383 (by decide +kernel) rfl
theorem se_X6_readStatement : Cond.selects (Cof 6) yX6_readStatement yX6_readStatement ∈ gtb := gt_sel 0 (by decide +kernel) rfl
theorem lk_X10_earnTogether : lkB YX10_earnTogether 3 := ⟨gt_of 1334 (by decide +kernel) rfl, in_X10, ⟨by decide, by decide, by decide +kernel⟩, by decide⟩
theorem im_X10_earnTogether : Cond.instanceMethod yX10_earnTogether ∈ gtb := gt_of 1333 (by decide +kernel) rfl
theorem se_X10_earnTogether : Cond.selects (Cof 10) yX10_earnTogether yX10_earnTogether ∈ gtb := gt_sel 85 (by decide +kernel) rfl
theorem lk_X10_clear : lkB YX10_clear 0 := ⟨gt_of 1290 (by decide +kernel) rfl, in_X10, ⟨by decide, by decide, by decide +kernel⟩, by decide⟩
theorem im_X10_clear : Cond.instanceMethod yX10_clear ∈ gtb := gt_of 1288 (by decide +kernel) rfl
theorem se_X10_clear : Cond.selects (Cof 10) yX10_clear yX10_clear ∈ gtb := gt_of 1289 (by decide +kernel) rfl
theorem lk_X10_isBehind : lkB YX10_isBehind 3 := ⟨gt_of 1229 (by decide +kernel) rfl, in_X10, ⟨by decide, by decide, by decide +kernel⟩, by decide⟩
theorem im_X10_isBehind : Cond.instanceMethod yX10_isBehind ∈ gtb := gt_of 1228 (by decide +kernel) rfl
theorem se_X10_isBehind : Cond.selects (Cof 10) yX10_isBehind yX10_isBehind ∈ gtb := gt_sel 70 (by decide +kernel) rfl
theorem lk_X2_earnedFrom : lkB YX2_earnedFrom 3 := ⟨gt_of 600 (by decide +kernel) rfl, in_X2, ⟨by decide, by decide, by decide +kernel⟩, by decide⟩
theorem im_X2_earnedFrom : Cond.instanceMethod yX2_earnedFrom ∈ gtb := gt_of 599 (by decide +kernel) rfl
theorem se_X2_earnedFrom : Cond.selects (Cof 2) yX2_earnedFrom yX2_earnedFrom ∈ gtb := gt_sel 19 (by decide +kernel) rfl
theorem lk_X5_commonPrice : lkB YX5_commonPrice 3 := ⟨gt_of 517 (by decide +kernel) rfl, in_X5, ⟨by decide, by decide, by decide +kernel⟩, by decide⟩
theorem im_X5_commonPrice : Cond.instanceMethod yX5_commonPrice ∈ gtb := gt_of 516 (by decide +kernel) rfl
theorem se_X5_commonPrice : Cond.selects (Cof 5) yX5_commonPrice yX5_commonPrice ∈ gtb := gt_sel 12 (by decide +kernel) rfl
theorem lk_X4_buyingHouses : lkB YX4_buyingHouses 1 := ⟨gt_of 777 (by decide +kernel) rfl, in_X4, ⟨by decide, by decide, by decide +kernel⟩, by decide⟩
theorem im_X4_buyingHouses : Cond.instanceMethod yX4_buyingHouses ∈ gtb := gt_of 776 (by decide +kernel) rfl
theorem se_X4_buyingHouses : Cond.selects (Cof 4) yX4_buyingHouses yX4_buyingHouses ∈ gtb := gt_sel 30 (by decide +kernel) rfl
theorem lk_X10_fails : lkB YX10_fails 1 := ⟨gt_of 1022 (by decide +kernel) rfl, in_X10, ⟨by decide, by decide, by decide +kernel⟩, by decide⟩
theorem im_X10_fails : Cond.instanceMethod yX10_fails ∈ gtb := gt_of 1021 (by decide +kernel) rfl
theorem se_X10_fails : Cond.selects (Cof 10) yX10_fails yX10_fails ∈ gtb := gt_sel 37 (by decide +kernel) rfl
theorem lk_X10_restsOf : lkB YX10_restsOf 1 := ⟨gt_of 1275 (by decide +kernel) rfl, in_X10, ⟨by decide, by decide, by decide +kernel⟩, by decide⟩
theorem im_X10_restsOf : Cond.instanceMethod yX10_restsOf ∈ gtb := gt_of 1274 (by decide +kernel) rfl
theorem se_X10_restsOf : Cond.selects (Cof 10) yX10_restsOf yX10_restsOf ∈ gtb := gt_sel 78 (by decide +kernel) rfl
theorem lk_X10_halvedPrice : lkB YX10_halvedPrice 2 := ⟨gt_of 1148 (by decide +kernel) rfl, in_X10, ⟨by decide, by decide, by decide +kernel⟩, by decide⟩
theorem im_X10_halvedPrice : Cond.instanceMethod yX10_halvedPrice ∈ gtb := gt_of 1147 (by decide +kernel) rfl
theorem se_X10_halvedPrice : Cond.selects (Cof 10) yX10_halvedPrice yX10_halvedPrice ∈ gtb := gt_sel 58 (by decide +kernel) rfl
theorem lk_X10_toldUnit : lkB YX10_toldUnit 2 := ⟨gt_of 1209 (by decide +kernel) rfl, in_X10, ⟨by decide, by decide, by decide +kernel⟩, by decide⟩
theorem im_X10_toldUnit : Cond.instanceMethod yX10_toldUnit ∈ gtb := gt_of 1208 (by decide +kernel) rfl
theorem se_X10_toldUnit : Cond.selects (Cof 10) yX10_toldUnit yX10_toldUnit ∈ gtb := gt_sel 67 (by decide +kernel) rfl
theorem lk_X10_terms : lkB YX10_terms 5 := ⟨gt_of 1120 (by decide +kernel) rfl, in_X10, ⟨by decide, by decide, by decide +kernel⟩, by decide⟩
theorem im_X10_terms : Cond.instanceMethod yX10_terms ∈ gtb := gt_of 1119 (by decide +kernel) rfl
theorem se_X10_terms : Cond.selects (Cof 10) yX10_terms yX10_terms ∈ gtb := gt_sel 52 (by decide +kernel) rfl
theorem lk_X5_lastStale : lkB YX5_lastStale 2 := ⟨gt_of 491 (by decide +kernel) rfl, in_X5, ⟨by decide, by decide, by decide +kernel⟩, by decide⟩
theorem im_X5_lastStale : Cond.instanceMethod yX5_lastStale ∈ gtb := gt_of 490 (by decide +kernel) rfl
theorem se_X5_lastStale : Cond.selects (Cof 5) yX5_lastStale yX5_lastStale ∈ gtb := gt_sel 9 (by decide +kernel) rfl
theorem lk_X6_readElse : lkB YX6_readElse 1 := ⟨gt_of 420 (by decide +kernel) rfl, in_X6, ⟨by decide, by decide, by decide +kernel⟩, by decide⟩
theorem im_X6_readElse : Cond.instanceMethod yX6_readElse ∈ gtb := gt_of 419 (by decide +kernel) rfl
theorem se_X6_readElse : Cond.selects (Cof 6) yX6_readElse yX6_readElse ∈ gtb := gt_sel 7 (by decide +kernel) rfl
theorem lk_X3_mostFee : lkB YX3_mostFee 3 := ⟨gt_of 635 (by decide +kernel) rfl, in_X3, ⟨by decide, by decide, by decide +kernel⟩, by decide⟩
theorem im_X3_mostFee : Cond.instanceMethod yX3_mostFee ∈ gtb := gt_of 633 (by decide +kernel) rfl
theorem se_X3_mostFee : Cond.selects (Cof 3) yX3_mostFee yX3_mostFee ∈ gtb := gt_of 634 (by decide +kernel) rfl
theorem lk_X10_houses : lkB YX10_houses 1 := ⟨gt_of 1089 (by decide +kernel) rfl, in_X10, ⟨by decide, by decide, by decide +kernel⟩, by decide⟩
theorem im_X10_houses : Cond.instanceMethod yX10_houses ∈ gtb := gt_of 1087 (by decide +kernel) rfl
theorem se_X10_houses : Cond.selects (Cof 10) yX10_houses yX10_houses ∈ gtb := gt_of 1088 (by decide +kernel) rfl
theorem lk_X2_spentBy : lkB YX2_spentBy 2 := ⟨gt_of 596 (by decide +kernel) rfl, in_X2, ⟨by decide, by decide, by decide +kernel⟩, by decide⟩
theorem im_X2_spentBy : Cond.instanceMethod yX2_spentBy ∈ gtb := gt_of 595 (by decide +kernel) rfl
theorem se_X2_spentBy : Cond.selects (Cof 2) yX2_spentBy yX2_spentBy ∈ gtb := gt_sel 18 (by decide +kernel) rfl
theorem lk_X10_askBy : lkB YX10_askBy 2 := ⟨gt_of 1124 (by decide +kernel) rfl, in_X10, ⟨by decide, by decide, by decide +kernel⟩, by decide⟩
theorem im_X10_askBy : Cond.instanceMethod yX10_askBy ∈ gtb := gt_of 1123 (by decide +kernel) rfl
theorem se_X10_askBy : Cond.selects (Cof 10) yX10_askBy yX10_askBy ∈ gtb := gt_sel 53 (by decide +kernel) rfl
theorem lk_X5_init : lkB YX5_init 0 := ⟨gt_of 176 (by decide +kernel) rfl, in_X5, ⟨by decide, by decide, by decide +kernel⟩, by decide⟩
theorem im_X5_init : Cond.instanceMethod yX5_init ∈ gtb := gt_of 175 (by decide +kernel) rfl
theorem lk_X10_readTrade : lkB YX10_readTrade 0 := ⟨gt_of 1010 (by decide +kernel) rfl, in_X10, ⟨by decide, by decide, by decide +kernel⟩, by decide⟩
theorem im_X10_readTrade : Cond.instanceMethod yX10_readTrade ∈ gtb := gt_of 1009 (by decide +kernel) rfl
theorem se_X10_readTrade : Cond.selects (Cof 10) yX10_readTrade yX10_readTrade ∈ gtb := gt_sel 34 (by decide +kernel) rfl
theorem lk_X10_isIn : lkB YX10_isIn 3 := ⟨gt_of 1033 (by decide +kernel) rfl, in_X10, ⟨by decide, by decide, by decide +kernel⟩, by decide⟩
theorem sm_X10_isIn : Cond.static yX10_isIn ∈ gtb := gt_of 1032 (by decide +kernel) rfl
theorem lk_X2_priceWould : lkB YX2_priceWould 4 := ⟨gt_of 626 (by decide +kernel) rfl, in_X2, ⟨by decide, by decide, by decide +kernel⟩, by decide⟩
theorem im_X2_priceWould : Cond.instanceMethod yX2_priceWould ∈ gtb := gt_of 625 (by decide +kernel) rfl
theorem se_X2_priceWould : Cond.selects (Cof 2) yX2_priceWould yX2_priceWould ∈ gtb := gt_sel 23 (by decide +kernel) rfl
theorem lk_X10_readWant : lkB YX10_readWant 1 := ⟨gt_of 1049 (by decide +kernel) rfl, in_X10, ⟨by decide, by decide, by decide +kernel⟩, by decide⟩
theorem im_X10_readWant : Cond.instanceMethod yX10_readWant ∈ gtb := gt_of 1048 (by decide +kernel) rfl
theorem se_X10_readWant : Cond.selects (Cof 10) yX10_readWant yX10_readWant ∈ gtb := gt_sel 43 (by decide +kernel) rfl
theorem lk_X9_settleTogether : lkB YX9_settleTogether 2 := ⟨gt_of 562 (by decide +kernel) rfl, in_X9, ⟨by decide, by decide, by decide +kernel⟩, by decide⟩
theorem im_X9_settleTogether : Cond.instanceMethod yX9_settleTogether ∈ gtb := gt_of 561 (by decide +kernel) rfl
theorem se_X9_settleTogether : Cond.selects (Cof 9) yX9_settleTogether yX9_settleTogether ∈ gtb := gt_sel 17 (by decide +kernel) rfl
theorem lk_X10_oneWith : lkB YX10_oneWith 3 := ⟨gt_of 1330 (by decide +kernel) rfl, in_X10, ⟨by decide, by decide, by decide +kernel⟩, by decide⟩
theorem im_X10_oneWith : Cond.instanceMethod yX10_oneWith ∈ gtb := gt_of 1329 (by decide +kernel) rfl
theorem se_X10_oneWith : Cond.selects (Cof 10) yX10_oneWith yX10_oneWith ∈ gtb := gt_sel 84 (by decide +kernel) rfl
theorem lk_X9_tell : lkB YX9_tell 4 := ⟨gt_of 579 (by decide +kernel) rfl, in_X9, ⟨by decide, by decide, by decide +kernel⟩, by decide⟩
theorem im_X9_tell : Cond.instanceMethod yX9_tell ∈ gtb := gt_of 577 (by decide +kernel) rfl
theorem se_X9_tell : Cond.selects (Cof 9) yX9_tell yX9_tell ∈ gtb := gt_of 578 (by decide +kernel) rfl
theorem lk_X3_heals : lkB YX3_heals 2 := ⟨gt_of 643 (by decide +kernel) rfl, in_X3, ⟨by decide, by decide, by decide +kernel⟩, by decide⟩
theorem im_X3_heals : Cond.instanceMethod yX3_heals ∈ gtb := gt_of 641 (by decide +kernel) rfl
theorem se_X3_heals : Cond.selects (Cof 3) yX3_heals yX3_heals ∈ gtb := gt_of 642 (by decide +kernel) rfl
theorem lk_X9_chance : lkB YX9_chance 2 := ⟨gt_of 706 (by decide +kernel) rfl, in_X9, ⟨by decide, by decide, by decide +kernel⟩, by decide⟩
theorem im_X9_chance : Cond.instanceMethod yX9_chance ∈ gtb := gt_of 704 (by decide +kernel) rfl
theorem se_X9_chance : Cond.selects (Cof 9) yX9_chance yX9_chance ∈ gtb := gt_of 705 (by decide +kernel) rfl
theorem lk_X9_count : lkB YX9_count 1 := ⟨gt_of 787 (by decide +kernel) rfl, in_X9, ⟨by decide, by decide, by decide +kernel⟩, by decide⟩
theorem im_X9_count : Cond.instanceMethod yX9_count ∈ gtb := gt_of 785 (by decide +kernel) rfl
theorem se_X9_count : Cond.selects (Cof 9) yX9_count yX9_count ∈ gtb := gt_of 786 (by decide +kernel) rfl
theorem lk_X10_earnsOf : lkB YX10_earnsOf 1 := ⟨gt_of 1173 (by decide +kernel) rfl, in_X10, ⟨by decide, by decide, by decide +kernel⟩, by decide⟩
theorem im_X10_earnsOf : Cond.instanceMethod yX10_earnsOf ∈ gtb := gt_of 1172 (by decide +kernel) rfl
theorem se_X10_earnsOf : Cond.selects (Cof 10) yX10_earnsOf yX10_earnsOf ∈ gtb := gt_sel 63 (by decide +kernel) rfl
theorem lk_X10_count : lkB YX10_count 1 := ⟨gt_of 1342 (by decide +kernel) rfl, in_X10, ⟨by decide, by decide, by decide +kernel⟩, by decide⟩
theorem im_X10_count : Cond.instanceMethod yX10_count ∈ gtb := gt_of 1340 (by decide +kernel) rfl
theorem se_X10_count : Cond.selects (Cof 10) yX10_count yX10_count ∈ gtb := gt_of 1341 (by decide +kernel) rfl
theorem lk_X10_isShop : lkB YX10_isShop 2 := ⟨gt_of 1081 (by decide +kernel) rfl, in_X10, ⟨by decide, by decide, by decide +kernel⟩, by decide⟩
theorem im_X10_isShop : Cond.instanceMethod yX10_isShop ∈ gtb := gt_of 1080 (by decide +kernel) rfl
theorem se_X10_isShop : Cond.selects (Cof 10) yX10_isShop yX10_isShop ∈ gtb := gt_sel 49 (by decide +kernel) rfl
theorem lk_X6_readSource : lkB YX6_readSource 1 := ⟨gt_of 404 (by decide +kernel) rfl, in_X6, ⟨by decide, by decide, by decide +kernel⟩, by decide⟩
theorem im_X6_readSource : Cond.instanceMethod yX6_readSource ∈ gtb := gt_of 403 (by decide +kernel) rfl
theorem se_X6_readSource : Cond.selects (Cof 6) yX6_readSource yX6_readSource ∈ gtb := gt_sel 5 (by decide +kernel) rfl
theorem lk_X0_bestBack : lkB YX0_bestBack 3 := ⟨gt_of 750 (by decide +kernel) rfl, in_X0, ⟨by decide, by decide, by decide +kernel⟩, by decide⟩
theorem im_X0_bestBack : Cond.instanceMethod yX0_bestBack ∈ gtb := gt_of 748 (by decide +kernel) rfl
theorem se_X0_bestBack : Cond.selects (Cof 0) yX0_bestBack yX0_bestBack ∈ gtb := gt_of 749 (by decide +kernel) rfl
theorem lk_X9_find : lkB YX9_find 1 := ⟨gt_of 432 (by decide +kernel) rfl, in_X9, ⟨by decide, by decide, by decide +kernel⟩, by decide⟩
theorem im_X9_find : Cond.instanceMethod yX9_find ∈ gtb := gt_of 431 (by decide +kernel) rfl
theorem se_X9_find : Cond.selects (Cof 9) yX9_find yX9_find ∈ gtb := gt_sel 8 (by decide +kernel) rfl
theorem lk_X7_same : lkB YX7_same 1 := ⟨gt_of 483 (by decide +kernel) rfl, in_X7, ⟨by decide, by decide, by decide +kernel⟩, by decide⟩
theorem im_X7_same : Cond.instanceMethod yX7_same ∈ gtb := gt_of 481 (by decide +kernel) rfl
theorem se_X7_same : Cond.selects (Cof 7) yX7_same yX7_same ∈ gtb := gt_of 482 (by decide +kernel) rfl
theorem lk_X1_isRest : lkB YX1_isRest 2 := ⟨gt_of 693 (by decide +kernel) rfl, in_X1, ⟨by decide, by decide, by decide +kernel⟩, by decide⟩
theorem im_X1_isRest : Cond.instanceMethod yX1_isRest ∈ gtb := gt_of 692 (by decide +kernel) rfl
theorem se_X1_isRest : Cond.selects (Cof 1) yX1_isRest yX1_isRest ∈ gtb := gt_sel 28 (by decide +kernel) rfl
theorem lk_X5_earnedBy : lkB YX5_earnedBy 2 := ⟨gt_of 537 (by decide +kernel) rfl, in_X5, ⟨by decide, by decide, by decide +kernel⟩, by decide⟩
theorem im_X5_earnedBy : Cond.instanceMethod yX5_earnedBy ∈ gtb := gt_of 536 (by decide +kernel) rfl
theorem se_X5_earnedBy : Cond.selects (Cof 5) yX5_earnedBy yX5_earnedBy ∈ gtb := gt_sel 16 (by decide +kernel) rfl
theorem lk_X8_addSource : lkB YX8_addSource 2 := ⟨gt_of 408 (by decide +kernel) rfl, in_X8, ⟨by decide, by decide, by decide +kernel⟩, by decide⟩
theorem im_X8_addSource : Cond.instanceMethod yX8_addSource ∈ gtb := gt_of 406 (by decide +kernel) rfl
theorem se_X8_addSource : Cond.selects (Cof 8) yX8_addSource yX8_addSource ∈ gtb := gt_of 407 (by decide +kernel) rfl
theorem lk_X9_settleFree : lkB YX9_settleFree 1 := ⟨gt_of 608 (by decide +kernel) rfl, in_X9, ⟨by decide, by decide, by decide +kernel⟩, by decide⟩
theorem im_X9_settleFree : Cond.instanceMethod yX9_settleFree ∈ gtb := gt_of 607 (by decide +kernel) rfl
theorem se_X9_settleFree : Cond.selects (Cof 9) yX9_settleFree yX9_settleFree ∈ gtb := gt_sel 20 (by decide +kernel) rfl
theorem lk_X10_thrown : lkB YX10_thrown 0 := ⟨gt_of 987 (by decide +kernel) rfl, in_X10, ⟨by decide, by decide, by decide +kernel⟩, by decide⟩
theorem im_X10_thrown : Cond.instanceMethod yX10_thrown ∈ gtb := gt_of 985 (by decide +kernel) rfl
theorem se_X10_thrown : Cond.selects (Cof 10) yX10_thrown yX10_thrown ∈ gtb := gt_of 986 (by decide +kernel) rfl
theorem lk_X6_bytesIn : lkB YX6_bytesIn 1 := ⟨gt_of 360 (by decide +kernel) rfl, in_X6, ⟨by decide, by decide, by decide +kernel⟩, by decide⟩
theorem sm_X6_bytesIn : Cond.static yX6_bytesIn ∈ gtb := gt_of 359 (by decide +kernel) rfl
theorem lk_X10_tell : lkB YX10_tell 4 := ⟨gt_of 1201 (by decide +kernel) rfl, in_X10, ⟨by decide, by decide, by decide +kernel⟩, by decide⟩
theorem im_X10_tell : Cond.instanceMethod yX10_tell ∈ gtb := gt_of 1199 (by decide +kernel) rfl
theorem se_X10_tell : Cond.selects (Cof 10) yX10_tell yX10_tell ∈ gtb := gt_of 1200 (by decide +kernel) rfl
theorem lk_X10_isJoined : lkB YX10_isJoined 1 := ⟨gt_of 1140 (by decide +kernel) rfl, in_X10, ⟨by decide, by decide, by decide +kernel⟩, by decide⟩
theorem im_X10_isJoined : Cond.instanceMethod yX10_isJoined ∈ gtb := gt_of 1139 (by decide +kernel) rfl
theorem se_X10_isJoined : Cond.selects (Cof 10) yX10_isJoined yX10_isJoined ∈ gtb := gt_sel 56 (by decide +kernel) rfl
theorem lk_X10_stock : lkB YX10_stock 3 := ⟨gt_of 1306 (by decide +kernel) rfl, in_X10, ⟨by decide, by decide, by decide +kernel⟩, by decide⟩
theorem im_X10_stock : Cond.instanceMethod yX10_stock ∈ gtb := gt_of 1304 (by decide +kernel) rfl
theorem se_X10_stock : Cond.selects (Cof 10) yX10_stock yX10_stock ∈ gtb := gt_of 1305 (by decide +kernel) rfl
theorem lk_X10_given : lkB YX10_given 2 := ⟨gt_of 1205 (by decide +kernel) rfl, in_X10, ⟨by decide, by decide, by decide +kernel⟩, by decide⟩
theorem im_X10_given : Cond.instanceMethod yX10_given ∈ gtb := gt_of 1203 (by decide +kernel) rfl
theorem se_X10_given : Cond.selects (Cof 10) yX10_given yX10_given ∈ gtb := gt_of 1204 (by decide +kernel) rfl
theorem lk_X0_forget : lkB YX0_forget 0 := ⟨gt_of 718 (by decide +kernel) rfl, in_X0, ⟨by decide, by decide, by decide +kernel⟩, by decide⟩
theorem im_X0_forget : Cond.instanceMethod yX0_forget ∈ gtb := gt_of 716 (by decide +kernel) rfl
theorem se_X0_forget : Cond.selects (Cof 0) yX0_forget yX0_forget ∈ gtb := gt_of 717 (by decide +kernel) rfl
theorem lk_X5_reckon : lkB YX5_reckon 3 := ⟨gt_of 511 (by decide +kernel) rfl, in_X5, ⟨by decide, by decide, by decide +kernel⟩, by decide⟩
theorem im_X5_reckon : Cond.instanceMethod yX5_reckon ∈ gtb := gt_of 510 (by decide +kernel) rfl
theorem se_X5_reckon : Cond.selects (Cof 5) yX5_reckon yX5_reckon ∈ gtb := gt_sel 11 (by decide +kernel) rfl
theorem lk_X10_readTold : lkB YX10_readTold 3 := ⟨gt_of 1041 (by decide +kernel) rfl, in_X10, ⟨by decide, by decide, by decide +kernel⟩, by decide⟩
theorem im_X10_readTold : Cond.instanceMethod yX10_readTold ∈ gtb := gt_of 1040 (by decide +kernel) rfl
theorem se_X10_readTold : Cond.selects (Cof 10) yX10_readTold yX10_readTold ∈ gtb := gt_sel 41 (by decide +kernel) rfl
theorem lk_X10_toldTake : lkB YX10_toldTake 2 := ⟨gt_of 1213 (by decide +kernel) rfl, in_X10, ⟨by decide, by decide, by decide +kernel⟩, by decide⟩
theorem im_X10_toldTake : Cond.instanceMethod yX10_toldTake ∈ gtb := gt_of 1212 (by decide +kernel) rfl
theorem se_X10_toldTake : Cond.selects (Cof 10) yX10_toldTake yX10_toldTake ∈ gtb := gt_sel 68 (by decide +kernel) rfl
theorem lk_X3_isBest : lkB YX3_isBest 4 := ⟨gt_of 659 (by decide +kernel) rfl, in_X3, ⟨by decide, by decide, by decide +kernel⟩, by decide⟩
theorem im_X3_isBest : Cond.instanceMethod yX3_isBest ∈ gtb := gt_of 658 (by decide +kernel) rfl
theorem se_X3_isBest : Cond.selects (Cof 3) yX3_isBest yX3_isBest ∈ gtb := gt_sel 25 (by decide +kernel) rfl
theorem lk_X8_addLot : lkB YX8_addLot 3 := ⟨gt_of 416 (by decide +kernel) rfl, in_X8, ⟨by decide, by decide, by decide +kernel⟩, by decide⟩
theorem im_X8_addLot : Cond.instanceMethod yX8_addLot ∈ gtb := gt_of 414 (by decide +kernel) rfl
theorem se_X8_addLot : Cond.selects (Cof 8) yX8_addLot yX8_addLot ∈ gtb := gt_of 415 (by decide +kernel) rfl
theorem lk_X3_findPairs : lkB YX3_findPairs 3 := ⟨gt_of 655 (by decide +kernel) rfl, in_X3, ⟨by decide, by decide, by decide +kernel⟩, by decide⟩
theorem im_X3_findPairs : Cond.instanceMethod yX3_findPairs ∈ gtb := gt_of 653 (by decide +kernel) rfl
theorem se_X3_findPairs : Cond.selects (Cof 3) yX3_findPairs yX3_findPairs ∈ gtb := gt_of 654 (by decide +kernel) rfl
theorem lk_X10_here : lkB YX10_here 0 := ⟨gt_of 1018 (by decide +kernel) rfl, in_X10, ⟨by decide, by decide, by decide +kernel⟩, by decide⟩
theorem im_X10_here : Cond.instanceMethod yX10_here ∈ gtb := gt_of 1017 (by decide +kernel) rfl
theorem se_X10_here : Cond.selects (Cof 10) yX10_here yX10_here ∈ gtb := gt_sel 36 (by decide +kernel) rfl
theorem lk_X9_fee : lkB YX9_fee 3 := ⟨gt_of 631 (by decide +kernel) rfl, in_X9, ⟨by decide, by decide, by decide +kernel⟩, by decide⟩
theorem im_X9_fee : Cond.instanceMethod yX9_fee ∈ gtb := gt_of 629 (by decide +kernel) rfl
theorem se_X9_fee : Cond.selects (Cof 9) yX9_fee yX9_fee ∈ gtb := gt_of 630 (by decide +kernel) rfl
theorem lk_X1_bestAgainst : lkB YX1_bestAgainst 3 := ⟨gt_of 685 (by decide +kernel) rfl, in_X1, ⟨by decide, by decide, by decide +kernel⟩, by decide⟩
theorem im_X1_bestAgainst : Cond.instanceMethod yX1_bestAgainst ∈ gtb := gt_of 684 (by decide +kernel) rfl
theorem se_X1_bestAgainst : Cond.selects (Cof 1) yX1_bestAgainst yX1_bestAgainst ∈ gtb := gt_sel 26 (by decide +kernel) rfl
theorem lk_X10_costOf : lkB YX10_costOf 2 := ⟨gt_of 1069 (by decide +kernel) rfl, in_X10, ⟨by decide, by decide, by decide +kernel⟩, by decide⟩
theorem im_X10_costOf : Cond.instanceMethod yX10_costOf ∈ gtb := gt_of 1068 (by decide +kernel) rfl
theorem se_X10_costOf : Cond.selects (Cof 10) yX10_costOf yX10_costOf ∈ gtb := gt_sel 46 (by decide +kernel) rfl
theorem lk_X9_law : lkB YX9_law 3 := ⟨gt_of 459 (by decide +kernel) rfl, in_X9, ⟨by decide, by decide, by decide +kernel⟩, by decide⟩
theorem im_X9_law : Cond.instanceMethod yX9_law ∈ gtb := gt_of 457 (by decide +kernel) rfl
theorem se_X9_law : Cond.selects (Cof 9) yX9_law yX9_law ∈ gtb := gt_of 458 (by decide +kernel) rfl
theorem lk_X7_joins : lkB YX7_joins 1 := ⟨gt_of 496 (by decide +kernel) rfl, in_X7, ⟨by decide, by decide, by decide +kernel⟩, by decide⟩
theorem im_X7_joins : Cond.instanceMethod yX7_joins ∈ gtb := gt_of 494 (by decide +kernel) rfl
theorem se_X7_joins : Cond.selects (Cof 7) yX7_joins yX7_joins ∈ gtb := gt_of 495 (by decide +kernel) rfl
theorem lk_X9_sum : lkB YX9_sum 2 := ⟨gt_of 550 (by decide +kernel) rfl, in_X9, ⟨by decide, by decide, by decide +kernel⟩, by decide⟩
theorem im_X9_sum : Cond.instanceMethod yX9_sum ∈ gtb := gt_of 548 (by decide +kernel) rfl
theorem se_X9_sum : Cond.selects (Cof 9) yX9_sum yX9_sum ∈ gtb := gt_of 549 (by decide +kernel) rfl
theorem lk_X10_ratherBy : lkB YX10_ratherBy 3 := ⟨gt_of 1326 (by decide +kernel) rfl, in_X10, ⟨by decide, by decide, by decide +kernel⟩, by decide⟩
theorem im_X10_ratherBy : Cond.instanceMethod yX10_ratherBy ∈ gtb := gt_of 1325 (by decide +kernel) rfl
theorem se_X10_ratherBy : Cond.selects (Cof 10) yX10_ratherBy yX10_ratherBy ∈ gtb := gt_sel 83 (by decide +kernel) rfl
theorem lk_X10_buys : lkB YX10_buys 3 := ⟨gt_of 1077 (by decide +kernel) rfl, in_X10, ⟨by decide, by decide, by decide +kernel⟩, by decide⟩
theorem im_X10_buys : Cond.instanceMethod yX10_buys ∈ gtb := gt_of 1076 (by decide +kernel) rfl
theorem se_X10_buys : Cond.selects (Cof 10) yX10_buys yX10_buys ∈ gtb := gt_sel 48 (by decide +kernel) rfl
theorem lk_X9_bestPrice : lkB YX9_bestPrice 3 := ⟨gt_of 470 (by decide +kernel) rfl, in_X9, ⟨by decide, by decide, by decide +kernel⟩, by decide⟩
theorem sm_X9_bestPrice : Cond.static yX9_bestPrice ∈ gtb := gt_of 469 (by decide +kernel) rfl
theorem lk_X10_isPair : lkB YX10_isPair 5 := ⟨gt_of 1257 (by decide +kernel) rfl, in_X10, ⟨by decide, by decide, by decide +kernel⟩, by decide⟩
theorem im_X10_isPair : Cond.instanceMethod yX10_isPair ∈ gtb := gt_of 1256 (by decide +kernel) rfl
theorem se_X10_isPair : Cond.selects (Cof 10) yX10_isPair yX10_isPair ∈ gtb := gt_sel 76 (by decide +kernel) rfl
theorem lk_X6_isDigit : lkB YX6_isDigit 0 := ⟨gt_of 396 (by decide +kernel) rfl, in_X6, ⟨by decide, by decide, by decide +kernel⟩, by decide⟩
theorem im_X6_isDigit : Cond.instanceMethod yX6_isDigit ∈ gtb := gt_of 395 (by decide +kernel) rfl
theorem se_X6_isDigit : Cond.selects (Cof 6) yX6_isDigit yX6_isDigit ∈ gtb := gt_sel 3 (by decide +kernel) rfl
theorem lk_X10_law : lkB YX10_law 3 := ⟨gt_of 1104 (by decide +kernel) rfl, in_X10, ⟨by decide, by decide, by decide +kernel⟩, by decide⟩
theorem im_X10_law : Cond.instanceMethod yX10_law ∈ gtb := gt_of 1102 (by decide +kernel) rfl
theorem se_X10_law : Cond.selects (Cof 10) yX10_law yX10_law ∈ gtb := gt_of 1103 (by decide +kernel) rfl
theorem lk_X9_outcome : lkB YX9_outcome 3 := ⟨gt_of 545 (by decide +kernel) rfl, in_X9, ⟨by decide, by decide, by decide +kernel⟩, by decide⟩
theorem im_X9_outcome : Cond.instanceMethod yX9_outcome ∈ gtb := gt_of 543 (by decide +kernel) rfl
theorem se_X9_outcome : Cond.selects (Cof 9) yX9_outcome yX9_outcome ∈ gtb := gt_of 544 (by decide +kernel) rfl
theorem lk_X6_readNumber : lkB YX6_readNumber 2 := ⟨gt_of 392 (by decide +kernel) rfl, in_X6, ⟨by decide, by decide, by decide +kernel⟩, by decide⟩
theorem im_X6_readNumber : Cond.instanceMethod yX6_readNumber ∈ gtb := gt_of 391 (by decide +kernel) rfl
theorem se_X6_readNumber : Cond.selects (Cof 6) yX6_readNumber yX6_readNumber ∈ gtb := gt_sel 2 (by decide +kernel) rfl
theorem lk_X4_isAtRest : lkB YX4_isAtRest 3 := ⟨gt_of 782 (by decide +kernel) rfl, in_X4, ⟨by decide, by decide, by decide +kernel⟩, by decide⟩
theorem im_X4_isAtRest : Cond.instanceMethod yX4_isAtRest ∈ gtb := gt_of 781 (by decide +kernel) rfl
theorem se_X4_isAtRest : Cond.selects (Cof 4) yX4_isAtRest yX4_isAtRest ∈ gtb := gt_sel 31 (by decide +kernel) rfl
theorem lk_X10_fee : lkB YX10_fee 3 := ⟨gt_of 1225 (by decide +kernel) rfl, in_X10, ⟨by decide, by decide, by decide +kernel⟩, by decide⟩
theorem im_X10_fee : Cond.instanceMethod yX10_fee ∈ gtb := gt_of 1223 (by decide +kernel) rfl
theorem se_X10_fee : Cond.selects (Cof 10) yX10_fee yX10_fee ∈ gtb := gt_of 1224 (by decide +kernel) rfl
theorem lk_X10_isTrade : lkB YX10_isTrade 1 := ⟨gt_of 1065 (by decide +kernel) rfl, in_X10, ⟨by decide, by decide, by decide +kernel⟩, by decide⟩
theorem im_X10_isTrade : Cond.instanceMethod yX10_isTrade ∈ gtb := gt_of 1064 (by decide +kernel) rfl
theorem se_X10_isTrade : Cond.selects (Cof 10) yX10_isTrade yX10_isTrade ∈ gtb := gt_sel 45 (by decide +kernel) rfl
theorem lk_X9_trade : lkB YX9_trade 0 := ⟨gt_of 424 (by decide +kernel) rfl, in_X9, ⟨by decide, by decide, by decide +kernel⟩, by decide⟩
theorem im_X9_trade : Cond.instanceMethod yX9_trade ∈ gtb := gt_of 422 (by decide +kernel) rfl
theorem se_X9_trade : Cond.selects (Cof 9) yX9_trade yX9_trade ∈ gtb := gt_of 423 (by decide +kernel) rfl
theorem lk_X1_gained : lkB YX1_gained 4 := ⟨gt_of 689 (by decide +kernel) rfl, in_X1, ⟨by decide, by decide, by decide +kernel⟩, by decide⟩
theorem im_X1_gained : Cond.instanceMethod yX1_gained ∈ gtb := gt_of 688 (by decide +kernel) rfl
theorem se_X1_gained : Cond.selects (Cof 1) yX1_gained yX1_gained ∈ gtb := gt_sel 27 (by decide +kernel) rfl
theorem lk_X9_given : lkB YX9_given 2 := ⟨gt_of 583 (by decide +kernel) rfl, in_X9, ⟨by decide, by decide, by decide +kernel⟩, by decide⟩
theorem im_X9_given : Cond.instanceMethod yX9_given ∈ gtb := gt_of 581 (by decide +kernel) rfl
theorem se_X9_given : Cond.selects (Cof 9) yX9_given yX9_given ∈ gtb := gt_of 582 (by decide +kernel) rfl
theorem lk_X4_better : lkB YX4_better 5 := ⟨gt_of 765 (by decide +kernel) rfl, in_X4, ⟨by decide, by decide, by decide +kernel⟩, by decide⟩
theorem im_X4_better : Cond.instanceMethod yX4_better ∈ gtb := gt_of 763 (by decide +kernel) rfl
theorem se_X4_better : Cond.selects (Cof 4) yX4_better yX4_better ∈ gtb := gt_of 764 (by decide +kernel) rfl
theorem lk_X10_isDigit : lkB YX10_isDigit 0 := ⟨gt_of 1030 (by decide +kernel) rfl, in_X10, ⟨by decide, by decide, by decide +kernel⟩, by decide⟩
theorem im_X10_isDigit : Cond.instanceMethod yX10_isDigit ∈ gtb := gt_of 1029 (by decide +kernel) rfl
theorem se_X10_isDigit : Cond.selects (Cof 10) yX10_isDigit yX10_isDigit ∈ gtb := gt_sel 39 (by decide +kernel) rfl
theorem lk_X5_trace : lkB YX5_trace 2 := ⟨gt_of 533 (by decide +kernel) rfl, in_X5, ⟨by decide, by decide, by decide +kernel⟩, by decide⟩
theorem im_X5_trace : Cond.instanceMethod yX5_trace ∈ gtb := gt_of 532 (by decide +kernel) rfl
theorem se_X5_trace : Cond.selects (Cof 5) yX5_trace yX5_trace ∈ gtb := gt_sel 15 (by decide +kernel) rfl
theorem lk_X10_outcome : lkB YX10_outcome 3 := ⟨gt_of 1164 (by decide +kernel) rfl, in_X10, ⟨by decide, by decide, by decide +kernel⟩, by decide⟩
theorem im_X10_outcome : Cond.instanceMethod yX10_outcome ∈ gtb := gt_of 1162 (by decide +kernel) rfl
theorem se_X10_outcome : Cond.selects (Cof 10) yX10_outcome yX10_outcome ∈ gtb := gt_of 1163 (by decide +kernel) rfl
theorem lk_X9_init : lkB YX9_init 0 := ⟨gt_of 21 (by decide +kernel) rfl, in_X9, ⟨by decide, by decide, by decide +kernel⟩, by decide⟩
theorem im_X9_init : Cond.instanceMethod yX9_init ∈ gtb := gt_of 20 (by decide +kernel) rfl
theorem lk_X10_saving : lkB YX10_saving 0 := ⟨gt_of 1181 (by decide +kernel) rfl, in_X10, ⟨by decide, by decide, by decide +kernel⟩, by decide⟩
theorem im_X10_saving : Cond.instanceMethod yX10_saving ∈ gtb := gt_of 1180 (by decide +kernel) rfl
theorem se_X10_saving : Cond.selects (Cof 10) yX10_saving yX10_saving ∈ gtb := gt_sel 64 (by decide +kernel) rfl
theorem lk_X8_init : lkB YX8_init 0 := ⟨gt_of 51 (by decide +kernel) rfl, in_X8, ⟨by decide, by decide, by decide +kernel⟩, by decide⟩
theorem im_X8_init : Cond.instanceMethod yX8_init ∈ gtb := gt_of 50 (by decide +kernel) rfl
theorem lk_X1_init : lkB YX1_init 0 := ⟨gt_of 262 (by decide +kernel) rfl, in_X1, ⟨by decide, by decide, by decide +kernel⟩, by decide⟩
theorem im_X1_init : Cond.instanceMethod yX1_init ∈ gtb := gt_of 261 (by decide +kernel) rfl
theorem lk_X9_makers : lkB YX9_makers 5 := ⟨gt_of 697 (by decide +kernel) rfl, in_X9, ⟨by decide, by decide, by decide +kernel⟩, by decide⟩
theorem im_X9_makers : Cond.instanceMethod yX9_makers ∈ gtb := gt_of 695 (by decide +kernel) rfl
theorem se_X9_makers : Cond.selects (Cof 9) yX9_makers yX9_makers ∈ gtb := gt_of 696 (by decide +kernel) rfl
theorem lk_X10_trade : lkB YX10_trade 0 := ⟨gt_of 1053 (by decide +kernel) rfl, in_X10, ⟨by decide, by decide, by decide +kernel⟩, by decide⟩
theorem im_X10_trade : Cond.instanceMethod yX10_trade ∈ gtb := gt_of 1051 (by decide +kernel) rfl
theorem se_X10_trade : Cond.selects (Cof 10) yX10_trade yX10_trade ∈ gtb := gt_of 1052 (by decide +kernel) rfl
theorem lk_X8_allHouses : lkB YX8_allHouses 0 := ⟨gt_of 455 (by decide +kernel) rfl, in_X8, ⟨by decide, by decide, by decide +kernel⟩, by decide⟩
theorem im_X8_allHouses : Cond.instanceMethod yX8_allHouses ∈ gtb := gt_of 453 (by decide +kernel) rfl
theorem se_X8_allHouses : Cond.selects (Cof 8) yX8_allHouses yX8_allHouses ∈ gtb := gt_of 454 (by decide +kernel) rfl
theorem lk_X7_init : lkB YX7_init 0 := ⟨gt_of 59 (by decide +kernel) rfl, in_X7, ⟨by decide, by decide, by decide +kernel⟩, by decide⟩
theorem im_X7_init : Cond.instanceMethod yX7_init ∈ gtb := gt_of 58 (by decide +kernel) rfl
theorem lk_X7_reset : lkB YX7_reset 0 := ⟨gt_of 566 (by decide +kernel) rfl, in_X7, ⟨by decide, by decide, by decide +kernel⟩, by decide⟩
theorem im_X7_reset : Cond.instanceMethod yX7_reset ∈ gtb := gt_of 564 (by decide +kernel) rfl
theorem se_X7_reset : Cond.selects (Cof 7) yX7_reset yX7_reset ∈ gtb := gt_of 565 (by decide +kernel) rfl
theorem lk_X0_leftOf : lkB YX0_leftOf 1 := ⟨gt_of 730 (by decide +kernel) rfl, in_X0, ⟨by decide, by decide, by decide +kernel⟩, by decide⟩
theorem im_X0_leftOf : Cond.instanceMethod yX0_leftOf ∈ gtb := gt_of 729 (by decide +kernel) rfl
theorem se_X0_leftOf : Cond.selects (Cof 0) yX0_leftOf yX0_leftOf ∈ gtb := gt_sel 29 (by decide +kernel) rfl
theorem lk_X4_findRests : lkB YX4_findRests 3 := ⟨gt_of 773 (by decide +kernel) rfl, in_X4, ⟨by decide, by decide, by decide +kernel⟩, by decide⟩
theorem im_X4_findRests : Cond.instanceMethod yX4_findRests ∈ gtb := gt_of 771 (by decide +kernel) rfl
theorem se_X4_findRests : Cond.selects (Cof 4) yX4_findRests yX4_findRests ∈ gtb := gt_of 772 (by decide +kernel) rfl
theorem lk_X10_wouldElse : lkB YX10_wouldElse 2 := ⟨gt_of 1221 (by decide +kernel) rfl, in_X10, ⟨by decide, by decide, by decide +kernel⟩, by decide⟩
theorem im_X10_wouldElse : Cond.instanceMethod yX10_wouldElse ∈ gtb := gt_of 1220 (by decide +kernel) rfl
theorem se_X10_wouldElse : Cond.selects (Cof 10) yX10_wouldElse yX10_wouldElse ∈ gtb := gt_sel 69 (by decide +kernel) rfl
theorem lk_X9_expects : lkB YX9_expects 4 := ⟨gt_of 722 (by decide +kernel) rfl, in_X9, ⟨by decide, by decide, by decide +kernel⟩, by decide⟩
theorem im_X9_expects : Cond.instanceMethod yX9_expects ∈ gtb := gt_of 720 (by decide +kernel) rfl
theorem se_X9_expects : Cond.selects (Cof 9) yX9_expects yX9_expects ∈ gtb := gt_of 721 (by decide +kernel) rfl
theorem lk_X3_shareOf : lkB YX3_shareOf 4 := ⟨gt_of 667 (by decide +kernel) rfl, in_X3, ⟨by decide, by decide, by decide +kernel⟩, by decide⟩
theorem im_X3_shareOf : Cond.instanceMethod yX3_shareOf ∈ gtb := gt_of 665 (by decide +kernel) rfl
theorem se_X3_shareOf : Cond.selects (Cof 3) yX3_shareOf yX3_shareOf ∈ gtb := gt_of 666 (by decide +kernel) rfl
theorem lk_X10_init : lkB YX10_init 0 := ⟨gt_of 866 (by decide +kernel) rfl, in_X10, ⟨by decide, by decide, by decide +kernel⟩, by decide⟩
theorem im_X10_init : Cond.instanceMethod yX10_init ∈ gtb := gt_of 865 (by decide +kernel) rfl
theorem lk_X10_termsOf : lkB YX10_termsOf 1 := ⟨gt_of 1116 (by decide +kernel) rfl, in_X10, ⟨by decide, by decide, by decide +kernel⟩, by decide⟩
theorem im_X10_termsOf : Cond.instanceMethod yX10_termsOf ∈ gtb := gt_of 1115 (by decide +kernel) rfl
theorem se_X10_termsOf : Cond.selects (Cof 10) yX10_termsOf yX10_termsOf ∈ gtb := gt_sel 51 (by decide +kernel) rfl
theorem lk_X6_init : lkB YX6_init 0 := ⟨gt_of 29 (by decide +kernel) rfl, in_X6, ⟨by decide, by decide, by decide +kernel⟩, by decide⟩
theorem im_X6_init : Cond.instanceMethod yX6_init ∈ gtb := gt_of 28 (by decide +kernel) rfl
theorem lk_X10_fault : lkB YX10_fault 0 := ⟨gt_of 1006 (by decide +kernel) rfl, in_X10, ⟨by decide, by decide, by decide +kernel⟩, by decide⟩
theorem im_X10_fault : Cond.instanceMethod yX10_fault ∈ gtb := gt_of 1004 (by decide +kernel) rfl
theorem se_X10_fault : Cond.selects (Cof 10) yX10_fault yX10_fault ∈ gtb := gt_of 1005 (by decide +kernel) rfl
theorem lk_X10_would : lkB YX10_would 2 := ⟨gt_of 1136 (by decide +kernel) rfl, in_X10, ⟨by decide, by decide, by decide +kernel⟩, by decide⟩
theorem im_X10_would : Cond.instanceMethod yX10_would ∈ gtb := gt_of 1135 (by decide +kernel) rfl
theorem se_X10_would : Cond.selects (Cof 10) yX10_would yX10_would ∈ gtb := gt_sel 55 (by decide +kernel) rfl
theorem lk_X10_allEarn : lkB YX10_allEarn 0 := ⟨gt_of 1185 (by decide +kernel) rfl, in_X10, ⟨by decide, by decide, by decide +kernel⟩, by decide⟩
theorem im_X10_allEarn : Cond.instanceMethod yX10_allEarn ∈ gtb := gt_of 1184 (by decide +kernel) rfl
theorem se_X10_allEarn : Cond.selects (Cof 10) yX10_allEarn yX10_allEarn ∈ gtb := gt_sel 65 (by decide +kernel) rfl
theorem lk_X0_sellerExpects : lkB YX0_sellerExpects 4 := ⟨gt_of 754 (by decide +kernel) rfl, in_X0, ⟨by decide, by decide, by decide +kernel⟩, by decide⟩
theorem im_X0_sellerExpects : Cond.instanceMethod yX0_sellerExpects ∈ gtb := gt_of 752 (by decide +kernel) rfl
theorem se_X0_sellerExpects : Cond.selects (Cof 0) yX0_sellerExpects yX0_sellerExpects ∈ gtb := gt_of 753 (by decide +kernel) rfl
theorem lk_X2_shopWould : lkB YX2_shopWould 2 := ⟨gt_of 616 (by decide +kernel) rfl, in_X2, ⟨by decide, by decide, by decide +kernel⟩, by decide⟩
theorem im_X2_shopWould : Cond.instanceMethod yX2_shopWould ∈ gtb := gt_of 615 (by decide +kernel) rfl
theorem se_X2_shopWould : Cond.selects (Cof 2) yX2_shopWould yX2_shopWould ∈ gtb := gt_sel 21 (by decide +kernel) rfl
theorem lk_X10_end : lkB YX10_end 1 := ⟨gt_of 1002 (by decide +kernel) rfl, in_X10, ⟨by decide, by decide, by decide +kernel⟩, by decide⟩
theorem im_X10_end : Cond.instanceMethod yX10_end ∈ gtb := gt_of 1000 (by decide +kernel) rfl
theorem se_X10_end : Cond.selects (Cof 10) yX10_end yX10_end ∈ gtb := gt_of 1001 (by decide +kernel) rfl
theorem lk_X10_isMaker : lkB YX10_isMaker 2 := ⟨gt_of 1249 (by decide +kernel) rfl, in_X10, ⟨by decide, by decide, by decide +kernel⟩, by decide⟩
theorem im_X10_isMaker : Cond.instanceMethod yX10_isMaker ∈ gtb := gt_of 1248 (by decide +kernel) rfl
theorem se_X10_isMaker : Cond.selects (Cof 10) yX10_isMaker yX10_isMaker ∈ gtb := gt_sel 74 (by decide +kernel) rfl
theorem lk_X9_halve : lkB YX9_halve 2 := ⟨gt_of 463 (by decide +kernel) rfl, in_X9, ⟨by decide, by decide, by decide +kernel⟩, by decide⟩
theorem im_X9_halve : Cond.instanceMethod yX9_halve ∈ gtb := gt_of 461 (by decide +kernel) rfl
theorem se_X9_halve : Cond.selects (Cof 9) yX9_halve yX9_halve ∈ gtb := gt_of 462 (by decide +kernel) rfl
theorem lk_X10_makers : lkB YX10_makers 5 := ⟨gt_of 1279 (by decide +kernel) rfl, in_X10, ⟨by decide, by decide, by decide +kernel⟩, by decide⟩
theorem im_X10_makers : Cond.instanceMethod yX10_makers ∈ gtb := gt_of 1277 (by decide +kernel) rfl
theorem se_X10_makers : Cond.selects (Cof 10) yX10_makers yX10_makers ∈ gtb := gt_of 1278 (by decide +kernel) rfl
theorem lk_X7_copy : lkB YX7_copy 1 := ⟨gt_of 500 (by decide +kernel) rfl, in_X7, ⟨by decide, by decide, by decide +kernel⟩, by decide⟩
theorem im_X7_copy : Cond.instanceMethod yX7_copy ∈ gtb := gt_of 498 (by decide +kernel) rfl
theorem se_X7_copy : Cond.selects (Cof 7) yX7_copy yX7_copy ∈ gtb := gt_of 499 (by decide +kernel) rfl
theorem lk_X9_doers : lkB YX9_doers 1 := ⟨gt_of 604 (by decide +kernel) rfl, in_X9, ⟨by decide, by decide, by decide +kernel⟩, by decide⟩
theorem im_X9_doers : Cond.instanceMethod yX9_doers ∈ gtb := gt_of 602 (by decide +kernel) rfl
theorem se_X9_doers : Cond.selects (Cof 9) yX9_doers yX9_doers ∈ gtb := gt_of 603 (by decide +kernel) rfl
theorem lk_X10_layOutcome : lkB YX10_layOutcome 0 := ⟨gt_of 1169 (by decide +kernel) rfl, in_X10, ⟨by decide, by decide, by decide +kernel⟩, by decide⟩
theorem im_X10_layOutcome : Cond.instanceMethod yX10_layOutcome ∈ gtb := gt_of 1168 (by decide +kernel) rfl
theorem se_X10_layOutcome : Cond.selects (Cof 10) yX10_layOutcome yX10_layOutcome ∈ gtb := gt_sel 62 (by decide +kernel) rfl
theorem lk_X10_bytesIn : lkB YX10_bytesIn 1 := ⟨gt_of 994 (by decide +kernel) rfl, in_X10, ⟨by decide, by decide, by decide +kernel⟩, by decide⟩
theorem sm_X10_bytesIn : Cond.static yX10_bytesIn ∈ gtb := gt_of 993 (by decide +kernel) rfl
theorem lk_X10_rests : lkB YX10_rests 2 := ⟨gt_of 1338 (by decide +kernel) rfl, in_X10, ⟨by decide, by decide, by decide +kernel⟩, by decide⟩
theorem im_X10_rests : Cond.instanceMethod yX10_rests ∈ gtb := gt_of 1336 (by decide +kernel) rfl
theorem se_X10_rests : Cond.selects (Cof 10) yX10_rests yX10_rests ∈ gtb := gt_of 1337 (by decide +kernel) rfl
theorem lk_X9_gain : lkB YX9_gain 2 := ⟨gt_of 575 (by decide +kernel) rfl, in_X9, ⟨by decide, by decide, by decide +kernel⟩, by decide⟩
theorem im_X9_gain : Cond.instanceMethod yX9_gain ∈ gtb := gt_of 573 (by decide +kernel) rfl
theorem se_X9_gain : Cond.selects (Cof 9) yX9_gain yX9_gain ∈ gtb := gt_of 574 (by decide +kernel) rfl
theorem lk_X2_wouldDiffer : lkB YX2_wouldDiffer 2 := ⟨gt_of 612 (by decide +kernel) rfl, in_X2, ⟨by decide, by decide, by decide +kernel⟩, by decide⟩
theorem im_X2_wouldDiffer : Cond.instanceMethod yX2_wouldDiffer ∈ gtb := gt_of 610 (by decide +kernel) rfl
theorem se_X2_wouldDiffer : Cond.selects (Cof 2) yX2_wouldDiffer yX2_wouldDiffer ∈ gtb := gt_of 611 (by decide +kernel) rfl
theorem lk_X9_house : lkB YX9_house 3 := ⟨gt_of 795 (by decide +kernel) rfl, in_X9, ⟨by decide, by decide, by decide +kernel⟩, by decide⟩
theorem im_X9_house : Cond.instanceMethod yX9_house ∈ gtb := gt_of 793 (by decide +kernel) rfl
theorem se_X9_house : Cond.selects (Cof 9) yX9_house yX9_house ∈ gtb := gt_of 794 (by decide +kernel) rfl
theorem lk_X10_takeBy : lkB YX10_takeBy 2 := ⟨gt_of 1132 (by decide +kernel) rfl, in_X10, ⟨by decide, by decide, by decide +kernel⟩, by decide⟩
theorem im_X10_takeBy : Cond.instanceMethod yX10_takeBy ∈ gtb := gt_of 1131 (by decide +kernel) rfl
theorem se_X10_takeBy : Cond.selects (Cof 10) yX10_takeBy yX10_takeBy ∈ gtb := gt_sel 54 (by decide +kernel) rfl
theorem lk_X10_isAsked : lkB YX10_isAsked 3 := ⟨gt_of 1298 (by decide +kernel) rfl, in_X10, ⟨by decide, by decide, by decide +kernel⟩, by decide⟩
theorem im_X10_isAsked : Cond.instanceMethod yX10_isAsked ∈ gtb := gt_of 1297 (by decide +kernel) rfl
theorem se_X10_isAsked : Cond.selects (Cof 10) yX10_isAsked yX10_isAsked ∈ gtb := gt_sel 79 (by decide +kernel) rfl
theorem lk_X9_passed : lkB YX9_passed 4 := ⟨gt_of 570 (by decide +kernel) rfl, in_X9, ⟨by decide, by decide, by decide +kernel⟩, by decide⟩
theorem im_X9_passed : Cond.instanceMethod yX9_passed ∈ gtb := gt_of 568 (by decide +kernel) rfl
theorem se_X9_passed : Cond.selects (Cof 9) yX9_passed yX9_passed ∈ gtb := gt_of 569 (by decide +kernel) rfl
theorem lk_X10_layPairs : lkB YX10_layPairs 3 := ⟨gt_of 1253 (by decide +kernel) rfl, in_X10, ⟨by decide, by decide, by decide +kernel⟩, by decide⟩
theorem im_X10_layPairs : Cond.instanceMethod yX10_layPairs ∈ gtb := gt_of 1252 (by decide +kernel) rfl
theorem se_X10_layPairs : Cond.selects (Cof 10) yX10_layPairs yX10_layPairs ∈ gtb := gt_sel 75 (by decide +kernel) rfl
theorem lk_X10_expects : lkB YX10_expects 4 := ⟨gt_of 1294 (by decide +kernel) rfl, in_X10, ⟨by decide, by decide, by decide +kernel⟩, by decide⟩
theorem im_X10_expects : Cond.instanceMethod yX10_expects ∈ gtb := gt_of 1292 (by decide +kernel) rfl
theorem se_X10_expects : Cond.selects (Cof 10) yX10_expects yX10_expects ∈ gtb := gt_of 1293 (by decide +kernel) rfl
theorem lk_X9_isPrice : lkB YX9_isPrice 1 := ⟨gt_of 447 (by decide +kernel) rfl, in_X9, ⟨by decide, by decide, by decide +kernel⟩, by decide⟩
theorem sm_X9_isPrice : Cond.static yX9_isPrice ∈ gtb := gt_of 446 (by decide +kernel) rfl
theorem lk_X6_put : lkB YX6_put 1 := ⟨gt_of 364 (by decide +kernel) rfl, in_X6, ⟨by decide, by decide, by decide +kernel⟩, by decide⟩
theorem im_X6_put : Cond.instanceMethod yX6_put ∈ gtb := gt_of 362 (by decide +kernel) rfl
theorem se_X6_put : Cond.selects (Cof 6) yX6_put yX6_put ∈ gtb := gt_of 363 (by decide +kernel) rfl
theorem lk_X6_read : lkB YX6_read 1 := ⟨gt_of 376 (by decide +kernel) rfl, in_X6, ⟨by decide, by decide, by decide +kernel⟩, by decide⟩
theorem im_X6_read : Cond.instanceMethod yX6_read ∈ gtb := gt_of 374 (by decide +kernel) rfl
theorem se_X6_read : Cond.selects (Cof 6) yX6_read yX6_read ∈ gtb := gt_of 375 (by decide +kernel) rfl
theorem lk_X0_more : lkB YX0_more 2 := ⟨gt_of 710 (by decide +kernel) rfl, in_X0, ⟨by decide, by decide, by decide +kernel⟩, by decide⟩
theorem im_X0_more : Cond.instanceMethod yX0_more ∈ gtb := gt_of 708 (by decide +kernel) rfl
theorem se_X0_more : Cond.selects (Cof 0) yX0_more yX0_more ∈ gtb := gt_of 709 (by decide +kernel) rfl
theorem lk_X10_feed : lkB YX10_feed 5 := ⟨gt_of 991 (by decide +kernel) rfl, in_X10, ⟨by decide, by decide, by decide +kernel⟩, by decide⟩
theorem im_X10_feed : Cond.instanceMethod yX10_feed ∈ gtb := gt_of 989 (by decide +kernel) rfl
theorem se_X10_feed : Cond.selects (Cof 10) yX10_feed yX10_feed ∈ gtb := gt_of 990 (by decide +kernel) rfl
theorem lk_X10_halve : lkB YX10_halve 2 := ⟨gt_of 1108 (by decide +kernel) rfl, in_X10, ⟨by decide, by decide, by decide +kernel⟩, by decide⟩
theorem im_X10_halve : Cond.instanceMethod yX10_halve ∈ gtb := gt_of 1106 (by decide +kernel) rfl
theorem se_X10_halve : Cond.selects (Cof 10) yX10_halve yX10_halve ∈ gtb := gt_of 1107 (by decide +kernel) rfl
theorem lk_X9_houses : lkB YX9_houses 1 := ⟨gt_of 428 (by decide +kernel) rfl, in_X9, ⟨by decide, by decide, by decide +kernel⟩, by decide⟩
theorem im_X9_houses : Cond.instanceMethod yX9_houses ∈ gtb := gt_of 426 (by decide +kernel) rfl
theorem se_X9_houses : Cond.selects (Cof 9) yX9_houses yX9_houses ∈ gtb := gt_of 427 (by decide +kernel) rfl
theorem lk_X10_alikePrice : lkB YX10_alikePrice 2 := ⟨gt_of 1156 (by decide +kernel) rfl, in_X10, ⟨by decide, by decide, by decide +kernel⟩, by decide⟩
theorem im_X10_alikePrice : Cond.instanceMethod yX10_alikePrice ∈ gtb := gt_of 1155 (by decide +kernel) rfl
theorem se_X10_alikePrice : Cond.selects (Cof 10) yX10_alikePrice yX10_alikePrice ∈ gtb := gt_sel 60 (by decide +kernel) rfl
theorem lk_X10_doers : lkB YX10_doers 1 := ⟨gt_of 1217 (by decide +kernel) rfl, in_X10, ⟨by decide, by decide, by decide +kernel⟩, by decide⟩
theorem im_X10_doers : Cond.instanceMethod yX10_doers ∈ gtb := gt_of 1215 (by decide +kernel) rfl
theorem se_X10_doers : Cond.selects (Cof 10) yX10_doers yX10_doers ∈ gtb := gt_of 1216 (by decide +kernel) rfl
theorem lk_X0_init : lkB YX0_init 0 := ⟨gt_of 301 (by decide +kernel) rfl, in_X0, ⟨by decide, by decide, by decide +kernel⟩, by decide⟩
theorem im_X0_init : Cond.instanceMethod yX0_init ∈ gtb := gt_of 300 (by decide +kernel) rfl
theorem lk_X2_anyPriceWould : lkB YX2_anyPriceWould 3 := ⟨gt_of 622 (by decide +kernel) rfl, in_X2, ⟨by decide, by decide, by decide +kernel⟩, by decide⟩
theorem im_X2_anyPriceWould : Cond.instanceMethod yX2_anyPriceWould ∈ gtb := gt_of 621 (by decide +kernel) rfl
theorem se_X2_anyPriceWould : Cond.selects (Cof 2) yX2_anyPriceWould yX2_anyPriceWould ∈ gtb := gt_sel 22 (by decide +kernel) rfl
theorem lk_X5_ownPrice : lkB YX5_ownPrice 2 := ⟨gt_of 529 (by decide +kernel) rfl, in_X5, ⟨by decide, by decide, by decide +kernel⟩, by decide⟩
theorem im_X5_ownPrice : Cond.instanceMethod yX5_ownPrice ∈ gtb := gt_of 528 (by decide +kernel) rfl
theorem se_X5_ownPrice : Cond.selects (Cof 5) yX5_ownPrice yX5_ownPrice ∈ gtb := gt_sel 14 (by decide +kernel) rfl

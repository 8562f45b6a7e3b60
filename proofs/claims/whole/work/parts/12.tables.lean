theorem t_in0 {w : Cond} (i : Nat) (h : (k2_sels lw_privs)[i]? = some w) (hg : goodWord w = true) : w ∈ am_TB := List.mem_filter.mpr ⟨List.mem_append_left _ (List.mem_of_getElem? h), hg⟩
theorem t_in1 {w : Cond} (i : Nat) (h : tables_1_1[i]? = some w) (hg : goodWord w = true) : w ∈ am_TB := List.mem_filter.mpr ⟨List.mem_append_right _ (List.mem_append_left _ (List.mem_of_getElem? h)), hg⟩
theorem t_in2 {w : Cond} (i : Nat) (h : tables_1_2[i]? = some w) (hg : goodWord w = true) : w ∈ am_TB := List.mem_filter.mpr ⟨List.mem_append_right _ (List.mem_append_right _ (List.mem_append_left _ (List.mem_of_getElem? h))), hg⟩
theorem t_in3 {w : Cond} (i : Nat) (h : tables_1_3[i]? = some w) (hg : goodWord w = true) : w ∈ am_TB := List.mem_filter.mpr ⟨List.mem_append_right _ (List.mem_append_right _ (List.mem_append_right _ (List.mem_append_left _ (List.mem_of_getElem? h)))), hg⟩
theorem t_in4 {w : Cond} (i : Nat) (h : tables_1_4[i]? = some w) (hg : goodWord w = true) : w ∈ am_TB := List.mem_filter.mpr ⟨List.mem_append_right _ (List.mem_append_right _ (List.mem_append_right _ (List.mem_append_right _ (List.mem_append_left _ (List.mem_of_getElem? h))))), hg⟩
theorem t_in5 {w : Cond} (i : Nat) (h : tables_1_5[i]? = some w) (hg : goodWord w = true) : w ∈ am_TB := List.mem_filter.mpr ⟨List.mem_append_right _ (List.mem_append_right _ (List.mem_append_right _ (List.mem_append_right _ (List.mem_append_right _ (List.mem_of_getElem? h))))), hg⟩
abbrev mX0_lowest : am_M := (yX0_lowest, cX0_lowest, 12, (some .long), 0, 0)
abbrev mX0_power : am_M := (yX0_power, cX0_power, 6, (some .long), 0, 0)
abbrev mX0_waysOf : am_M := (yX0_waysOf, cX0_waysOf, 8, (some .long), 1, 25)
abbrev mX1_init : am_M := (yX1_init, cX1_init, 1, none, 1, 20)
abbrev mX1_begin : am_M := (yX1_begin, cX1_begin, 2, none, 1, 60)
abbrev mX1_give : am_M := (yX1_give, cX1_give, 2, none, 1, 60)
abbrev mX1_end : am_M := (yX1_end, cX1_end, 1, none, 1, 60)
abbrev mX1_timesOf : am_M := (yX1_timesOf, cX1_timesOf, 5, (some .int), 0, 0)
abbrev mX1_copy : am_M := (yX1_copy, cX1_copy, 2, none, 1, 60)
abbrev mX2_init : am_M := (yX2_init, cX2_init, 1, none, 1, 20)
abbrev mX2_cell : am_M := (yX2_cell, cX2_cell, 2, (some .int), 0, 0)
abbrev mX2_open : am_M := (yX2_open, cX2_open, 3, none, 0, 0)
abbrev mX2_obey : am_M := (yX2_obey, cX2_obey, 5, none, 1, 22)
abbrev mX2_skillOf : am_M := (yX2_skillOf, cX2_skillOf, 3, (some .int), 1, 21)
abbrev mX2_likingOf : am_M := (yX2_likingOf, cX2_likingOf, 3, (some .int), 0, 0)
abbrev mX2_isA : am_M := (yX2_isA, cX2_isA, 5, (some .boolean), 0, 0)
abbrev mX2_mayFollow : am_M := (yX2_mayFollow, cX2_mayFollow, 3, (some .boolean), 0, 0)
abbrev mX2_workOf : am_M := (yX2_workOf, cX2_workOf, 4, (some .int), 2, 43)
abbrev mX2_gladnessOf : am_M := (yX2_gladnessOf, cX2_gladnessOf, 4, (some .int), 1, 22)
abbrev mX3_fill : am_M := (yX3_fill, cX3_fill, 9, none, 0, 0)
abbrev mX3_numberOf : am_M := (yX3_numberOf, cX3_numberOf, 6, (some .int), 1, 20)
abbrev mX3_mix : am_M := (yX3_mix, cX3_mix, 7, (some .int), 0, 0)
abbrev mX4_init : am_M := (yX4_init, cX4_init, 2, none, 1, 20)
abbrev mX4_greatest : am_M := (yX4_greatest, cX4_greatest, 6, (some .int), 4, 93)
abbrev mX4_layRows : am_M := (yX4_layRows, cX4_layRows, 5, none, 3, 66)
abbrev mX4_addDay : am_M := (yX4_addDay, cX4_addDay, 4, none, 3, 70)
abbrev mX4_bestAhead : am_M := (yX4_bestAhead, cX4_bestAhead, 5, (some .int), 2, 46)
abbrev mX4_mayComeBehind : am_M := (yX4_mayComeBehind, cX4_mayComeBehind, 5, (some .boolean), 1, 22)
abbrev mX5_init : am_M := (yX5_init, cX5_init, 2, none, 1, 20)
abbrev mX5_look : am_M := (yX5_look, cX5_look, 5, none, 2, 43)
abbrev mX5_mayDo : am_M := (yX5_mayDo, cX5_mayDo, 3, (some .boolean), 0, 0)
abbrev mX5_allMayDo : am_M := (yX5_allMayDo, cX5_allMayDo, 3, (some .boolean), 1, 22)
abbrev mX5_wants : am_M := (yX5_wants, cX5_wants, 4, (some .boolean), 1, 22)
abbrev mX5_isWanted : am_M := (yX5_isWanted, cX5_isWanted, 5, (some .boolean), 2, 45)
abbrev mX5_pass : am_M := (yX5_pass, cX5_pass, 5, none, 0, 0)
abbrev mX5_find : am_M := (yX5_find, cX5_find, 6, none, 3, 71)
abbrev mX5_findThird : am_M := (yX5_findThird, cX5_findThird, 7, none, 2, 45)
abbrev mX5_note : am_M := (yX5_note, cX5_note, 4, none, 0, 0)
abbrev mX5_passFound : am_M := (yX5_passFound, cX5_passFound, 3, none, 1, 24)
abbrev mX5_passAll : am_M := (yX5_passAll, cX5_passAll, 4, (some .int), 4, 96)
abbrev mX5_bestFor : am_M := (yX5_bestFor, cX5_bestFor, 7, (some .int), 4, 96)
abbrev mX5_isBetter : am_M := (yX5_isBetter, cX5_isBetter, 5, (some .boolean), 1, 22)
abbrev mX5_giverTo : am_M := (yX5_giverTo, cX5_giverTo, 6, (some .int), 0, 0)
abbrev mX6_init : am_M := (yX6_init, cX6_init, 1, none, 1, 20)
abbrev mX6_add : am_M := (yX6_add, cX6_add, 2, none, 0, 0)
abbrev mX6_read : am_M := (yX6_read, cX6_read, 4, (some .int), 8, 174)
abbrev mX6_readLine : am_M := (yX6_readLine, cX6_readLine, 7, (some .boolean), 7, 148)
abbrev mX6_nextToken : am_M := (yX6_nextToken, cX6_nextToken, 2, none, 1, 20)
abbrev mX6_isLetter : am_M := (yX6_isLetter, cX6_isLetter, 1, (some .boolean), 0, 0)
abbrev mX6_isDigit : am_M := (yX6_isDigit, cX6_isDigit, 1, (some .boolean), 0, 0)
abbrev mX6_verbHere : am_M := (yX6_verbHere, cX6_verbHere, 1, (some .int), 6, 128)
abbrev mX6_spells : am_M := (yX6_spells, cX6_spells, 3, (some .boolean), 5, 106)
abbrev mX6_numberHere : am_M := (yX6_numberHere, cX6_numberHere, 4, (some .int), 1, 20)
abbrev mX6_numbersOf : am_M := (yX6_numbersOf, cX6_numbersOf, 1, (some .int), 0, 0)
abbrev mX6_fits : am_M := (yX6_fits, cX6_fits, 4, (some .boolean), 1, 20)
abbrev mX7_init : am_M := (yX7_init, cX7_init, 2, none, 1, 20)
abbrev mX7_from : am_M := (yX7_from, cX7_from, 5, none, 5, 120)
abbrev mX7_reach : am_M := (yX7_reach, cX7_reach, 4, none, 0, 0)
abbrev mX7_takeWaiting : am_M := (yX7_takeWaiting, cX7_takeWaiting, 3, (some .int), 2, 43)
abbrev mX7_lookAt : am_M := (yX7_lookAt, cX7_lookAt, 5, none, 4, 96)
abbrev mX7_addEnd : am_M := (yX7_addEnd, cX7_addEnd, 3, none, 2, 45)
abbrev mX8_init : am_M := (yX8_init, cX8_init, 3, none, 1, 20)
abbrev mX8_make : am_M := (yX8_make, cX8_make, 3, none, 5, 119)
abbrev mX8_addRow : am_M := (yX8_addRow, cX8_addRow, 3, none, 3, 66)
abbrev mX9_init : am_M := (yX9_init, cX9_init, 1, none, 3, 81)
abbrev mX9_write : am_M := (yX9_write, cX9_write, 5, (some .int), 1, 21)
abbrev mX9_erase : am_M := (yX9_erase, cX9_erase, 2, (some .int), 0, 0)
abbrev mX9_fault : am_M := (yX9_fault, cX9_fault, 1, (some .int), 9, 197)
abbrev mX9_hall : am_M := (yX9_hall, cX9_hall, 2, (some .int), 9, 197)
abbrev mX9_monk : am_M := (yX9_monk, cX9_monk, 4, (some .int), 2, 43)
abbrev mX9_as : am_M := (yX9_as, cX9_as, 5, (some .int), 1, 24)
abbrev mX9_lay : am_M := (yX9_lay, cX9_lay, 2, (some .int), 2, 81)
abbrev mX9_draw : am_M := (yX9_draw, cX9_draw, 4, (some .int), 2, 81)
abbrev mX9_has : am_M := (yX9_has, cX9_has, 3, (some .int), 1, 21)
abbrev mX9_trade : am_M := (yX9_trade, cX9_trade, 4, (some .int), 3, 69)
abbrev mX9_settle : am_M := (yX9_settle, cX9_settle, 1, (some .int), 5, 119)
abbrev mX9_dawn : am_M := (yX9_dawn, cX9_dawn, 1, (some .int), 4, 88)
abbrev mX9_today : am_M := (yX9_today, cX9_today, 2, (some .int), 3, 66)
abbrev mX9_ends : am_M := (yX9_ends, cX9_ends, 2, (some .int), 6, 144)
abbrev mX9_hint : am_M := (yX9_hint, cX9_hint, 2, (some .int), 5, 122)
abbrev mX9_lawful : am_M := (yX9_lawful, cX9_lawful, 1, (some .int), 7, 163)
abbrev mX9_mean : am_M := (yX9_mean, cX9_mean, 5, (some .int), 7, 163)
abbrev mX9_odds : am_M := (yX9_odds, cX9_odds, 6, (some .int), 7, 163)
abbrev mX9_week : am_M := (yX9_week, cX9_week, 2, (some .int), 5, 118)
abbrev mX9_often : am_M := (yX9_often, cX9_often, 3, (some .int), 1, 24)
abbrev mX9_tail : am_M := (yX9_tail, cX9_tail, 6, (some .long), 2, 52)
abbrev mX9_named : am_M := (yX9_named, cX9_named, 8, (some .int), 2, 52)
abbrev mX9_keep : am_M := (yX9_keep, cX9_keep, 2, (some .int), 2, 81)
abbrev mX9_back : am_M := (yX9_back, cX9_back, 2, (some .int), 4, 88)
abbrev mX9_count : am_M := (yX9_count, cX9_count, 2, (some .int), 0, 0)
abbrev mX9_isThere : am_M := (yX9_isThere, cX9_isThere, 2, (some .boolean), 0, 0)
abbrev mX9_isRing : am_M := (yX9_isRing, cX9_isRing, 1, (some .boolean), 0, 0)
abbrev mX9_isPart : am_M := (yX9_isPart, cX9_isPart, 1, (some .boolean), 0, 0)
abbrev mX9_yesterdayChanged : am_M := (yX9_yesterdayChanged, cX9_yesterdayChanged, 2, none, 3, 67)
abbrev mX9_tallyOf : am_M := (yX9_tallyOf, cX9_tallyOf, 3, (some (.object "DutiesHat$Tally")), 6, 141)
abbrev mX10_init : am_M := (yX10_init, cX10_init, 1, none, 1, 21)
abbrev mX10_in : am_M := (yX10_in, cX10_in, 3, (some .boolean), 0, 0)
abbrev mX10_isMonk : am_M := (yX10_isMonk, cX10_isMonk, 2, (some .boolean), 1, 22)
abbrev mX10_plain : am_M := (yX10_plain, cX10_plain, 2, none, 0, 0)
abbrev mX10_begin : am_M := (yX10_begin, cX10_begin, 2, none, 0, 0)
abbrev mX10_write : am_M := (yX10_write, cX10_write, 5, (some .int), 1, 22)
abbrev mX10_erase : am_M := (yX10_erase, cX10_erase, 2, (some .int), 0, 0)
abbrev mX10_nextToken : am_M := (yX10_nextToken, cX10_nextToken, 1, none, 1, 22)
abbrev mX10_fails : am_M := (yX10_fails, cX10_fails, 1, (some .boolean), 0, 0)
abbrev mX10_isNumber : am_M := (yX10_isNumber, cX10_isNumber, 4, (some .boolean), 2, 42)
abbrev mX10_isThere : am_M := (yX10_isThere, cX10_isThere, 2, (some .boolean), 3, 65)
abbrev mX10_isHall : am_M := (yX10_isHall, cX10_isHall, 2, (some .boolean), 3, 65)
abbrev mX10_isRing : am_M := (yX10_isRing, cX10_isRing, 2, (some .boolean), 3, 65)
abbrev mX10_isLine : am_M := (yX10_isLine, cX10_isLine, 4, (some .boolean), 4, 86)
abbrev mX10_isRead : am_M := (yX10_isRead, cX10_isRead, 2, (some .boolean), 5, 109)
abbrev mX10_fault : am_M := (yX10_fault, cX10_fault, 1, (some .int), 6, 130)
abbrev mX10_doLine : am_M := (yX10_doLine, cX10_doLine, 3, none, 1, 21)
abbrev mX10_hall : am_M := (yX10_hall, cX10_hall, 2, (some .int), 6, 130)
abbrev mX10_mayBehind : am_M := (yX10_mayBehind, cX10_mayBehind, 5, (some .boolean), 0, 0)
abbrev mX10_may : am_M := (yX10_may, cX10_may, 3, (some .boolean), 1, 24)
abbrev mX10_monk : am_M := (yX10_monk, cX10_monk, 4, (some .int), 2, 46)
abbrev mX10_as : am_M := (yX10_as, cX10_as, 6, (some .int), 2, 46)
abbrev mX10_draws : am_M := (yX10_draws, cX10_draws, 3, (some .int), 0, 0)
abbrev mX10_takeDraw : am_M := (yX10_takeDraw, cX10_takeDraw, 8, none, 1, 22)
abbrev mX10_numberOf : am_M := (yX10_numberOf, cX10_numberOf, 5, (some .int), 1, 22)
abbrev mX10_isLawful : am_M := (yX10_isLawful, cX10_isLawful, 3, (some .boolean), 2, 46)
abbrev mX10_putToday : am_M := (yX10_putToday, cX10_putToday, 2, none, 0, 0)
abbrev mX10_takeToday : am_M := (yX10_takeToday, cX10_takeToday, 2, none, 0, 0)
abbrev mX10_lay : am_M := (yX10_lay, cX10_lay, 2, (some .int), 3, 68)
abbrev mX10_draw : am_M := (yX10_draw, cX10_draw, 6, (some .int), 3, 68)
abbrev mX10_has : am_M := (yX10_has, cX10_has, 3, (some .int), 2, 43)
abbrev mX10_likesMore : am_M := (yX10_likesMore, cX10_likesMore, 3, (some .boolean), 2, 46)
abbrev mX10_isWanted : am_M := (yX10_isWanted, cX10_isWanted, 4, (some .boolean), 3, 68)
abbrev mX10_goRing : am_M := (yX10_goRing, cX10_goRing, 5, none, 0, 0)
abbrev mX10_workOf : am_M := (yX10_workOf, cX10_workOf, 3, (some .int), 0, 0)
abbrev mX10_gladnessOf : am_M := (yX10_gladnessOf, cX10_gladnessOf, 3, (some .int), 0, 0)
abbrev mX10_trade : am_M := (yX10_trade, cX10_trade, 4, (some .int), 4, 91)
abbrev mX10_takeRing : am_M := (yX10_takeRing, cX10_takeRing, 3, none, 0, 0)
abbrev mX10_nextWanted : am_M := (yX10_nextWanted, cX10_nextWanted, 5, (some .int), 4, 91)
abbrev mX10_settleBy : am_M := (yX10_settleBy, cX10_settleBy, 4, (some .int), 5, 115)
abbrev mX10_settle : am_M := (yX10_settle, cX10_settle, 2, (some .int), 6, 138)
abbrev mX10_dawn : am_M := (yX10_dawn, cX10_dawn, 2, (some .int), 0, 0)
abbrev mX10_today : am_M := (yX10_today, cX10_today, 2, (some .int), 2, 46)
abbrev mX10_ends : am_M := (yX10_ends, cX10_ends, 9, (some .int), 5, 115)
abbrev mX10_hint : am_M := (yX10_hint, cX10_hint, 7, (some .int), 5, 115)
abbrev mX10_lawful : am_M := (yX10_lawful, cX10_lawful, 3, (some .int), 3, 68)
abbrev mX10_divisor : am_M := (yX10_divisor, cX10_divisor, 5, (some .int), 0, 0)
abbrev mX10_isRingNumber : am_M := (yX10_isRingNumber, cX10_isRingNumber, 1, (some .boolean), 0, 0)
abbrev mX10_mean : am_M := (yX10_mean, cX10_mean, 7, (some .int), 6, 138)
abbrev mX10_odds : am_M := (yX10_odds, cX10_odds, 8, (some .int), 6, 138)
abbrev mX10_isLawfulBehind : am_M := (yX10_isLawfulBehind, cX10_isLawfulBehind, 3, (some .boolean), 1, 24)
abbrev mX10_week : am_M := (yX10_week, cX10_week, 7, (some .int), 3, 68)
abbrev mX10_oftenOf : am_M := (yX10_oftenOf, cX10_oftenOf, 5, (some .int), 0, 0)
abbrev mX10_often : am_M := (yX10_often, cX10_often, 3, (some .int), 2, 43)
abbrev mX10_tailDown : am_M := (yX10_tailDown, cX10_tailDown, 4, (some .long), 0, 0)
abbrev mX10_tailUp : am_M := (yX10_tailUp, cX10_tailUp, 10, (some .long), 1, 24)
abbrev mX10_tail : am_M := (yX10_tail, cX10_tail, 12, (some .long), 2, 53)
abbrev mX10_named : am_M := (yX10_named, cX10_named, 4, (some .int), 2, 53)
abbrev mX10_copy : am_M := (yX10_copy, cX10_copy, 5, none, 0, 0)
abbrev mX10_keep : am_M := (yX10_keep, cX10_keep, 2, (some .int), 1, 24)
abbrev mX10_back : am_M := (yX10_back, cX10_back, 2, (some .int), 1, 24)
abbrev mX10_count : am_M := (yX10_count, cX10_count, 2, (some .int), 0, 0)
abbrev mJ6_numberOfTrailingZeros_0f7a4 : am_M := (yJ6_numberOfTrailingZeros_0f7a4, cJ6_numberOfTrailingZeros_0f7a4, 2, (some .int), 0, 0)
abbrev mJ6_bitCount_0f7a4 : am_M := (yJ6_bitCount_0f7a4, cJ6_bitCount_0f7a4, 1, (some .int), 0, 0)
abbrev mJ13_numberOfTrailingZeros_95d88 : am_M := (yJ13_numberOfTrailingZeros_95d88, cJ13_numberOfTrailingZeros_95d88, 3, (some .int), 1, 21)
abbrev mJ9_max_7cf53 : am_M := (yJ9_max_7cf53, cJ9_max_7cf53, 2, (some .int), 0, 0)
abbrev mJ0_length_8abf5 : am_M := (yJ0_length_8abf5, cJ0_length_8abf5, 1, (some .int), 1, 20)
abbrev mJ0_charAt_5068e : am_M := (yJ0_charAt_5068e, cJ0_charAt_5068e, 2, (some .char), 4, 85)
abbrev mJ0_coder_7d493 : am_M := (yJ0_coder_7d493, cJ0_coder_7d493, 1, (some .byte), 0, 0)
abbrev mJ0_isLatin1_aae02 : am_M := (yJ0_isLatin1_aae02, cJ0_isLatin1_aae02, 1, (some .boolean), 0, 0)
abbrev mJ0_checkIndex_df160 : am_M := (yJ0_checkIndex_df160, cJ0_checkIndex_df160, 2, none, 1, 22)
abbrev mJ1_charAt_3b067 : am_M := (yJ1_charAt_3b067, cJ1_charAt_3b067, 2, (some .char), 2, 43)
abbrev mJ2_getChar_3b067 : am_M := (yJ2_getChar_3b067, cJ2_getChar_3b067, 2, (some .char), 1, 20)
abbrev mJ2_length_9d52b : am_M := (yJ2_length_9d52b, cJ2_length_9d52b, 1, (some .int), 0, 0)
abbrev mJ2_charAt_3b067 : am_M := (yJ2_charAt_3b067, cJ2_charAt_3b067, 2, (some .char), 3, 64)
abbrev mJ2_checkIndex_2214a : am_M := (yJ2_checkIndex_2214a, cJ2_checkIndex_2214a, 2, none, 2, 43)
abbrev mJ3_checkIndex_8e157 : am_M := (yJ3_checkIndex_8e157, cJ3_checkIndex_8e157, 3, (some .int), 0, 0)
set_option maxRecDepth 4000 in
theorem hX0_lowest : am_mS mX0_lowest 3 := ⟨⟨by decide, (t_in3 156 rfl rfl), ⟨by decide, by decide, by decide +kernel⟩, (t_in1 18 rfl rfl)⟩, (t_in3 155 rfl rfl)⟩
set_option maxRecDepth 4000 in
theorem hX0_power : am_mS mX0_power 2 := ⟨⟨by decide, (t_in3 213 rfl rfl), ⟨by decide, by decide, by decide +kernel⟩, (t_in1 18 rfl rfl)⟩, (t_in3 212 rfl rfl)⟩
set_option maxRecDepth 4000 in
theorem hX0_waysOf : am_mS mX0_waysOf 3 := ⟨⟨by decide, (t_in3 210 rfl rfl), ⟨by decide, by decide, by decide +kernel⟩, (t_in1 18 rfl rfl)⟩, (t_in3 209 rfl rfl)⟩
set_option maxRecDepth 4000 in
theorem hX1_init : am_mI mX1_init 0 := ⟨⟨by decide, (t_in1 93 rfl rfl), ⟨by decide, by decide, by decide +kernel⟩, (t_in1 4 rfl rfl)⟩, (t_in1 92 rfl rfl), rfl, rfl⟩
set_option maxRecDepth 4000 in
theorem hX1_begin : am_mV mX1_begin 1 := ⟨⟨by decide, (t_in2 3 rfl rfl), ⟨by decide, by decide, by decide +kernel⟩, (t_in1 4 rfl rfl)⟩, (t_in2 1 rfl rfl), (t_in2 2 rfl rfl)⟩
set_option maxRecDepth 4000 in
theorem hX1_give : am_mV mX1_give 1 := ⟨⟨by decide, (t_in2 225 rfl rfl), ⟨by decide, by decide, by decide +kernel⟩, (t_in1 4 rfl rfl)⟩, (t_in2 223 rfl rfl), (t_in2 224 rfl rfl)⟩
set_option maxRecDepth 4000 in
theorem hX1_end : am_mV mX1_end 0 := ⟨⟨by decide, (t_in3 51 rfl rfl), ⟨by decide, by decide, by decide +kernel⟩, (t_in1 4 rfl rfl)⟩, (t_in3 49 rfl rfl), (t_in3 50 rfl rfl)⟩
set_option maxRecDepth 4000 in
theorem hX1_timesOf : am_mV mX1_timesOf 2 := ⟨⟨by decide, (t_in3 201 rfl rfl), ⟨by decide, by decide, by decide +kernel⟩, (t_in1 4 rfl rfl)⟩, (t_in3 199 rfl rfl), (t_in3 200 rfl rfl)⟩
set_option maxRecDepth 4000 in
theorem hX1_copy : am_mV mX1_copy 1 := ⟨⟨by decide, (t_in3 227 rfl rfl), ⟨by decide, by decide, by decide +kernel⟩, (t_in1 4 rfl rfl)⟩, (t_in3 225 rfl rfl), (t_in3 226 rfl rfl)⟩
set_option maxRecDepth 4000 in
theorem hX2_init : am_mI mX2_init 0 := ⟨⟨by decide, (t_in1 61 rfl rfl), ⟨by decide, by decide, by decide +kernel⟩, (t_in1 3 rfl rfl)⟩, (t_in1 60 rfl rfl), rfl, rfl⟩
set_option maxRecDepth 4000 in
theorem hX2_cell : am_mS mX2_cell 2 := ⟨⟨by decide, (t_in2 17 rfl rfl), ⟨by decide, by decide, by decide +kernel⟩, (t_in1 3 rfl rfl)⟩, (t_in2 16 rfl rfl)⟩
set_option maxRecDepth 4000 in
theorem hX2_open : am_mV mX2_open 1 := ⟨⟨by decide, (t_in1 239 rfl rfl), ⟨by decide, by decide, by decide +kernel⟩, (t_in1 3 rfl rfl)⟩, (t_in1 237 rfl rfl), (t_in1 238 rfl rfl)⟩
set_option maxRecDepth 4000 in
theorem hX2_obey : am_mV mX2_obey 2 := ⟨⟨by decide, (t_in2 174 rfl rfl), ⟨by decide, by decide, by decide +kernel⟩, (t_in1 3 rfl rfl)⟩, (t_in2 172 rfl rfl), (t_in2 173 rfl rfl)⟩
set_option maxRecDepth 4000 in
theorem hX2_skillOf : am_mV mX2_skillOf 2 := ⟨⟨by decide, (t_in2 14 rfl rfl), ⟨by decide, by decide, by decide +kernel⟩, (t_in1 3 rfl rfl)⟩, (t_in2 12 rfl rfl), (t_in2 13 rfl rfl)⟩
set_option maxRecDepth 4000 in
theorem hX2_likingOf : am_mV mX2_likingOf 2 := ⟨⟨by decide, (t_in2 192 rfl rfl), ⟨by decide, by decide, by decide +kernel⟩, (t_in1 3 rfl rfl)⟩, (t_in2 190 rfl rfl), (t_in2 191 rfl rfl)⟩
set_option maxRecDepth 4000 in
theorem hX2_isA : am_mV mX2_isA 2 := ⟨⟨by decide, (t_in2 204 rfl rfl), ⟨by decide, by decide, by decide +kernel⟩, (t_in1 3 rfl rfl)⟩, (t_in2 202 rfl rfl), (t_in2 203 rfl rfl)⟩
set_option maxRecDepth 4000 in
theorem hX2_mayFollow : am_mV mX2_mayFollow 2 := ⟨⟨by decide, (t_in2 21 rfl rfl), ⟨by decide, by decide, by decide +kernel⟩, (t_in1 3 rfl rfl)⟩, (t_in2 19 rfl rfl), (t_in2 20 rfl rfl)⟩
set_option maxRecDepth 4000 in
theorem hX2_workOf : am_mV mX2_workOf 1 := ⟨⟨by decide, (t_in3 68 rfl rfl), ⟨by decide, by decide, by decide +kernel⟩, (t_in1 3 rfl rfl)⟩, (t_in3 66 rfl rfl), (t_in3 67 rfl rfl)⟩
set_option maxRecDepth 4000 in
theorem hX2_gladnessOf : am_mV mX2_gladnessOf 1 := ⟨⟨by decide, (t_in3 17 rfl rfl), ⟨by decide, by decide, by decide +kernel⟩, (t_in1 3 rfl rfl)⟩, (t_in3 15 rfl rfl), (t_in3 16 rfl rfl)⟩
set_option maxRecDepth 4000 in
theorem hX3_fill : am_mS mX3_fill 3 := ⟨⟨by decide, (t_in2 215 rfl rfl), ⟨by decide, by decide, by decide +kernel⟩, (t_in1 15 rfl rfl)⟩, (t_in2 214 rfl rfl)⟩
set_option maxRecDepth 4000 in
theorem hX3_numberOf : am_mS mX3_numberOf 2 := ⟨⟨by decide, (t_in3 58 rfl rfl), ⟨by decide, by decide, by decide +kernel⟩, (t_in1 15 rfl rfl)⟩, (t_in3 57 rfl rfl)⟩
set_option maxRecDepth 4000 in
theorem hX3_mix : am_mS mX3_mix 3 := ⟨⟨by decide, (t_in2 232 rfl rfl), ⟨by decide, by decide, by decide +kernel⟩, (t_in1 15 rfl rfl)⟩, (t_in2 231 rfl rfl)⟩
set_option maxRecDepth 4000 in
theorem hX4_init : am_mI mX4_init 1 := ⟨⟨by decide, (t_in1 215 rfl rfl), ⟨by decide, by decide, by decide +kernel⟩, (t_in1 8 rfl rfl)⟩, (t_in1 214 rfl rfl), rfl, rfl⟩
set_option maxRecDepth 4000 in
theorem hX4_greatest : am_mV mX4_greatest 2 := ⟨⟨by decide, (t_in3 169 rfl rfl), ⟨by decide, by decide, by decide +kernel⟩, (t_in1 8 rfl rfl)⟩, (t_in3 167 rfl rfl), (t_in3 168 rfl rfl)⟩
set_option maxRecDepth 4000 in
theorem hX4_layRows : am_mV mX4_layRows 1 := ⟨⟨by decide, (t_in3 174 rfl rfl), ⟨by decide, by decide, by decide +kernel⟩, (t_in1 8 rfl rfl)⟩, (t_in3 173 rfl rfl), (t_in0 18 rfl rfl)⟩
set_option maxRecDepth 4000 in
theorem hX4_addDay : am_mV mX4_addDay 1 := ⟨⟨by decide, (t_in3 186 rfl rfl), ⟨by decide, by decide, by decide +kernel⟩, (t_in1 8 rfl rfl)⟩, (t_in3 185 rfl rfl), (t_in0 20 rfl rfl)⟩
set_option maxRecDepth 4000 in
theorem hX4_bestAhead : am_mV mX4_bestAhead 2 := ⟨⟨by decide, (t_in3 190 rfl rfl), ⟨by decide, by decide, by decide +kernel⟩, (t_in1 8 rfl rfl)⟩, (t_in3 189 rfl rfl), (t_in0 21 rfl rfl)⟩
set_option maxRecDepth 4000 in
theorem hX4_mayComeBehind : am_mV mX4_mayComeBehind 3 := ⟨⟨by decide, (t_in3 181 rfl rfl), ⟨by decide, by decide, by decide +kernel⟩, (t_in1 8 rfl rfl)⟩, (t_in3 180 rfl rfl), (t_in0 19 rfl rfl)⟩
set_option maxRecDepth 4000 in
theorem hX5_init : am_mI mX5_init 1 := ⟨⟨by decide, (t_in1 120 rfl rfl), ⟨by decide, by decide, by decide +kernel⟩, (t_in1 5 rfl rfl)⟩, (t_in1 119 rfl rfl), rfl, rfl⟩
set_option maxRecDepth 4000 in
theorem hX5_look : am_mV mX5_look 1 := ⟨⟨by decide, (t_in2 10 rfl rfl), ⟨by decide, by decide, by decide +kernel⟩, (t_in1 5 rfl rfl)⟩, (t_in2 8 rfl rfl), (t_in2 9 rfl rfl)⟩
set_option maxRecDepth 4000 in
theorem hX5_mayDo : am_mV mX5_mayDo 2 := ⟨⟨by decide, (t_in2 196 rfl rfl), ⟨by decide, by decide, by decide +kernel⟩, (t_in1 5 rfl rfl)⟩, (t_in2 194 rfl rfl), (t_in2 195 rfl rfl)⟩
set_option maxRecDepth 4000 in
theorem hX5_allMayDo : am_mV mX5_allMayDo 1 := ⟨⟨by decide, (t_in2 220 rfl rfl), ⟨by decide, by decide, by decide +kernel⟩, (t_in1 5 rfl rfl)⟩, (t_in2 218 rfl rfl), (t_in2 219 rfl rfl)⟩
set_option maxRecDepth 4000 in
theorem hX5_wants : am_mV mX5_wants 3 := ⟨⟨by decide, (t_in3 9 rfl rfl), ⟨by decide, by decide, by decide +kernel⟩, (t_in1 5 rfl rfl)⟩, (t_in3 8 rfl rfl), (t_in0 7 rfl rfl)⟩
set_option maxRecDepth 4000 in
theorem hX5_isWanted : am_mV mX5_isWanted 4 := ⟨⟨by decide, (t_in3 5 rfl rfl), ⟨by decide, by decide, by decide +kernel⟩, (t_in1 5 rfl rfl)⟩, (t_in3 3 rfl rfl), (t_in3 4 rfl rfl)⟩
set_option maxRecDepth 4000 in
theorem hX5_pass : am_mS mX5_pass 4 := ⟨⟨by decide, (t_in3 13 rfl rfl), ⟨by decide, by decide, by decide +kernel⟩, (t_in1 5 rfl rfl)⟩, (t_in3 12 rfl rfl)⟩
set_option maxRecDepth 4000 in
theorem hX5_find : am_mV mX5_find 3 := ⟨⟨by decide, (t_in3 30 rfl rfl), ⟨by decide, by decide, by decide +kernel⟩, (t_in1 5 rfl rfl)⟩, (t_in3 28 rfl rfl), (t_in3 29 rfl rfl)⟩
set_option maxRecDepth 4000 in
theorem hX5_findThird : am_mV mX5_findThird 5 := ⟨⟨by decide, (t_in3 34 rfl rfl), ⟨by decide, by decide, by decide +kernel⟩, (t_in1 5 rfl rfl)⟩, (t_in3 33 rfl rfl), (t_in0 8 rfl rfl)⟩
set_option maxRecDepth 4000 in
theorem hX5_note : am_mV mX5_note 3 := ⟨⟨by decide, (t_in3 38 rfl rfl), ⟨by decide, by decide, by decide +kernel⟩, (t_in1 5 rfl rfl)⟩, (t_in3 37 rfl rfl), (t_in0 9 rfl rfl)⟩
set_option maxRecDepth 4000 in
theorem hX5_passFound : am_mV mX5_passFound 2 := ⟨⟨by decide, (t_in3 42 rfl rfl), ⟨by decide, by decide, by decide +kernel⟩, (t_in1 5 rfl rfl)⟩, (t_in3 40 rfl rfl), (t_in3 41 rfl rfl)⟩
set_option maxRecDepth 4000 in
theorem hX5_passAll : am_mV mX5_passAll 2 := ⟨⟨by decide, (t_in3 26 rfl rfl), ⟨by decide, by decide, by decide +kernel⟩, (t_in1 5 rfl rfl)⟩, (t_in3 24 rfl rfl), (t_in3 25 rfl rfl)⟩
set_option maxRecDepth 4000 in
theorem hX5_bestFor : am_mV mX5_bestFor 3 := ⟨⟨by decide, (t_in3 114 rfl rfl), ⟨by decide, by decide, by decide +kernel⟩, (t_in1 5 rfl rfl)⟩, (t_in3 112 rfl rfl), (t_in3 113 rfl rfl)⟩
set_option maxRecDepth 4000 in
theorem hX5_isBetter : am_mV mX5_isBetter 3 := ⟨⟨by decide, (t_in3 122 rfl rfl), ⟨by decide, by decide, by decide +kernel⟩, (t_in1 5 rfl rfl)⟩, (t_in3 121 rfl rfl), (t_in0 15 rfl rfl)⟩
set_option maxRecDepth 4000 in
theorem hX5_giverTo : am_mV mX5_giverTo 2 := ⟨⟨by decide, (t_in3 118 rfl rfl), ⟨by decide, by decide, by decide +kernel⟩, (t_in1 5 rfl rfl)⟩, (t_in3 117 rfl rfl), (t_in0 14 rfl rfl)⟩
set_option maxRecDepth 4000 in
theorem hX6_init : am_mI mX6_init 0 := ⟨⟨by decide, (t_in1 32 rfl rfl), ⟨by decide, by decide, by decide +kernel⟩, (t_in1 2 rfl rfl)⟩, (t_in1 31 rfl rfl), rfl, rfl⟩
set_option maxRecDepth 4000 in
theorem hX6_add : am_mV mX6_add 1 := ⟨⟨by decide, (t_in2 61 rfl rfl), ⟨by decide, by decide, by decide +kernel⟩, (t_in1 2 rfl rfl)⟩, (t_in2 59 rfl rfl), (t_in2 60 rfl rfl)⟩
set_option maxRecDepth 4000 in
theorem hX6_read : am_mV mX6_read 1 := ⟨⟨by decide, (t_in2 73 rfl rfl), ⟨by decide, by decide, by decide +kernel⟩, (t_in1 2 rfl rfl)⟩, (t_in2 71 rfl rfl), (t_in2 72 rfl rfl)⟩
set_option maxRecDepth 4000 in
theorem hX6_readLine : am_mV mX6_readLine 2 := ⟨⟨by decide, (t_in2 77 rfl rfl), ⟨by decide, by decide, by decide +kernel⟩, (t_in1 2 rfl rfl)⟩, (t_in2 76 rfl rfl), (t_in0 0 rfl rfl)⟩
set_option maxRecDepth 4000 in
theorem hX6_nextToken : am_mV mX6_nextToken 0 := ⟨⟨by decide, (t_in2 81 rfl rfl), ⟨by decide, by decide, by decide +kernel⟩, (t_in1 2 rfl rfl)⟩, (t_in2 80 rfl rfl), (t_in0 1 rfl rfl)⟩
set_option maxRecDepth 4000 in
theorem hX6_isLetter : am_mS mX6_isLetter 1 := ⟨⟨by decide, (t_in2 84 rfl rfl), ⟨by decide, by decide, by decide +kernel⟩, (t_in1 2 rfl rfl)⟩, (t_in2 83 rfl rfl)⟩
set_option maxRecDepth 4000 in
theorem hX6_isDigit : am_mS mX6_isDigit 1 := ⟨⟨by decide, (t_in2 87 rfl rfl), ⟨by decide, by decide, by decide +kernel⟩, (t_in1 2 rfl rfl)⟩, (t_in2 86 rfl rfl)⟩
set_option maxRecDepth 4000 in
theorem hX6_verbHere : am_mV mX6_verbHere 0 := ⟨⟨by decide, (t_in2 91 rfl rfl), ⟨by decide, by decide, by decide +kernel⟩, (t_in1 2 rfl rfl)⟩, (t_in2 90 rfl rfl), (t_in0 2 rfl rfl)⟩
set_option maxRecDepth 4000 in
theorem hX6_spells : am_mV mX6_spells 1 := ⟨⟨by decide, (t_in2 96 rfl rfl), ⟨by decide, by decide, by decide +kernel⟩, (t_in1 2 rfl rfl)⟩, (t_in2 95 rfl rfl), (t_in0 3 rfl rfl)⟩
set_option maxRecDepth 4000 in
theorem hX6_numberHere : am_mV mX6_numberHere 0 := ⟨⟨by decide, (t_in2 159 rfl rfl), ⟨by decide, by decide, by decide +kernel⟩, (t_in1 2 rfl rfl)⟩, (t_in2 158 rfl rfl), (t_in0 4 rfl rfl)⟩
set_option maxRecDepth 4000 in
theorem hX6_numbersOf : am_mS mX6_numbersOf 1 := ⟨⟨by decide, (t_in2 155 rfl rfl), ⟨by decide, by decide, by decide +kernel⟩, (t_in1 2 rfl rfl)⟩, (t_in2 154 rfl rfl)⟩
set_option maxRecDepth 4000 in
theorem hX6_fits : am_mS mX6_fits 4 := ⟨⟨by decide, (t_in2 162 rfl rfl), ⟨by decide, by decide, by decide +kernel⟩, (t_in1 2 rfl rfl)⟩, (t_in2 161 rfl rfl)⟩
set_option maxRecDepth 4000 in
theorem hX7_init : am_mI mX7_init 1 := ⟨⟨by decide, (t_in1 180 rfl rfl), ⟨by decide, by decide, by decide +kernel⟩, (t_in1 7 rfl rfl)⟩, (t_in1 179 rfl rfl), rfl, rfl⟩
set_option maxRecDepth 4000 in
theorem hX7_from : am_mV mX7_from 2 := ⟨⟨by decide, (t_in3 77 rfl rfl), ⟨by decide, by decide, by decide +kernel⟩, (t_in1 7 rfl rfl)⟩, (t_in3 75 rfl rfl), (t_in3 76 rfl rfl)⟩
set_option maxRecDepth 4000 in
theorem hX7_reach : am_mV mX7_reach 1 := ⟨⟨by decide, (t_in3 82 rfl rfl), ⟨by decide, by decide, by decide +kernel⟩, (t_in1 7 rfl rfl)⟩, (t_in3 81 rfl rfl), (t_in0 10 rfl rfl)⟩
set_option maxRecDepth 4000 in
theorem hX7_takeWaiting : am_mV mX7_takeWaiting 0 := ⟨⟨by decide, (t_in3 86 rfl rfl), ⟨by decide, by decide, by decide +kernel⟩, (t_in1 7 rfl rfl)⟩, (t_in3 85 rfl rfl), (t_in0 11 rfl rfl)⟩
set_option maxRecDepth 4000 in
theorem hX7_lookAt : am_mV mX7_lookAt 2 := ⟨⟨by decide, (t_in3 97 rfl rfl), ⟨by decide, by decide, by decide +kernel⟩, (t_in1 7 rfl rfl)⟩, (t_in3 96 rfl rfl), (t_in0 12 rfl rfl)⟩
set_option maxRecDepth 4000 in
theorem hX7_addEnd : am_mV mX7_addEnd 1 := ⟨⟨by decide, (t_in3 103 rfl rfl), ⟨by decide, by decide, by decide +kernel⟩, (t_in1 7 rfl rfl)⟩, (t_in3 102 rfl rfl), (t_in0 13 rfl rfl)⟩
set_option maxRecDepth 4000 in
theorem hX8_init : am_mI mX8_init 2 := ⟨⟨by decide, (t_in1 144 rfl rfl), ⟨by decide, by decide, by decide +kernel⟩, (t_in1 6 rfl rfl)⟩, (t_in1 143 rfl rfl), rfl, rfl⟩
set_option maxRecDepth 4000 in
theorem hX8_make : am_mV mX8_make 0 := ⟨⟨by decide, (t_in3 134 rfl rfl), ⟨by decide, by decide, by decide +kernel⟩, (t_in1 6 rfl rfl)⟩, (t_in3 132 rfl rfl), (t_in3 133 rfl rfl)⟩
set_option maxRecDepth 4000 in
theorem hX8_addRow : am_mV mX8_addRow 1 := ⟨⟨by decide, (t_in3 142 rfl rfl), ⟨by decide, by decide, by decide +kernel⟩, (t_in1 6 rfl rfl)⟩, (t_in3 141 rfl rfl), (t_in0 17 rfl rfl)⟩
set_option maxRecDepth 4000 in
theorem hX9_init : am_mI mX9_init 0 := ⟨⟨by decide, (t_in1 24 rfl rfl), ⟨by decide, by decide, by decide +kernel⟩, (t_in1 1 rfl rfl)⟩, (t_in1 23 rfl rfl), rfl, rfl⟩
set_option maxRecDepth 4000 in
theorem hX9_write : am_mV mX9_write 2 := ⟨⟨by decide, (t_in2 56 rfl rfl), ⟨by decide, by decide, by decide +kernel⟩, (t_in1 1 rfl rfl)⟩, (t_in2 54 rfl rfl), (t_in2 55 rfl rfl)⟩
set_option maxRecDepth 4000 in
theorem hX9_erase : am_mV mX9_erase 0 := ⟨⟨by decide, (t_in2 65 rfl rfl), ⟨by decide, by decide, by decide +kernel⟩, (t_in1 1 rfl rfl)⟩, (t_in2 63 rfl rfl), (t_in2 64 rfl rfl)⟩
set_option maxRecDepth 4000 in
theorem hX9_fault : am_mV mX9_fault 0 := ⟨⟨by decide, (t_in2 69 rfl rfl), ⟨by decide, by decide, by decide +kernel⟩, (t_in1 1 rfl rfl)⟩, (t_in2 67 rfl rfl), (t_in2 68 rfl rfl)⟩
set_option maxRecDepth 4000 in
theorem hX9_hall : am_mV mX9_hall 0 := ⟨⟨by decide, (t_in2 170 rfl rfl), ⟨by decide, by decide, by decide +kernel⟩, (t_in1 1 rfl rfl)⟩, (t_in2 168 rfl rfl), (t_in2 169 rfl rfl)⟩
set_option maxRecDepth 4000 in
theorem hX9_monk : am_mV mX9_monk 3 := ⟨⟨by decide, (t_in2 183 rfl rfl), ⟨by decide, by decide, by decide +kernel⟩, (t_in1 1 rfl rfl)⟩, (t_in2 181 rfl rfl), (t_in2 182 rfl rfl)⟩
set_option maxRecDepth 4000 in
theorem hX9_as : am_mV mX9_as 2 := ⟨⟨by decide, (t_in2 200 rfl rfl), ⟨by decide, by decide, by decide +kernel⟩, (t_in1 1 rfl rfl)⟩, (t_in2 198 rfl rfl), (t_in2 199 rfl rfl)⟩
set_option maxRecDepth 4000 in
theorem hX9_lay : am_mV mX9_lay 1 := ⟨⟨by decide, (t_in2 210 rfl rfl), ⟨by decide, by decide, by decide +kernel⟩, (t_in1 1 rfl rfl)⟩, (t_in2 208 rfl rfl), (t_in2 209 rfl rfl)⟩
set_option maxRecDepth 4000 in
theorem hX9_draw : am_mV mX9_draw 1 := ⟨⟨by decide, (t_in2 229 rfl rfl), ⟨by decide, by decide, by decide +kernel⟩, (t_in1 1 rfl rfl)⟩, (t_in2 227 rfl rfl), (t_in2 228 rfl rfl)⟩
set_option maxRecDepth 4000 in
theorem hX9_has : am_mV mX9_has 2 := ⟨⟨by decide, (t_in2 237 rfl rfl), ⟨by decide, by decide, by decide +kernel⟩, (t_in1 1 rfl rfl)⟩, (t_in2 235 rfl rfl), (t_in2 236 rfl rfl)⟩
set_option maxRecDepth 4000 in
theorem hX9_trade : am_mV mX9_trade 3 := ⟨⟨by decide, (t_in3 1 rfl rfl), ⟨by decide, by decide, by decide +kernel⟩, (t_in1 1 rfl rfl)⟩, (t_in2 239 rfl rfl), (t_in3 0 rfl rfl)⟩
set_option maxRecDepth 4000 in
theorem hX9_settle : am_mV mX9_settle 0 := ⟨⟨by decide, (t_in3 22 rfl rfl), ⟨by decide, by decide, by decide +kernel⟩, (t_in1 1 rfl rfl)⟩, (t_in3 20 rfl rfl), (t_in3 21 rfl rfl)⟩
set_option maxRecDepth 4000 in
theorem hX9_dawn : am_mV mX9_dawn 0 := ⟨⟨by decide, (t_in3 47 rfl rfl), ⟨by decide, by decide, by decide +kernel⟩, (t_in1 1 rfl rfl)⟩, (t_in3 45 rfl rfl), (t_in3 46 rfl rfl)⟩
set_option maxRecDepth 4000 in
theorem hX9_today : am_mV mX9_today 1 := ⟨⟨by decide, (t_in3 55 rfl rfl), ⟨by decide, by decide, by decide +kernel⟩, (t_in1 1 rfl rfl)⟩, (t_in3 53 rfl rfl), (t_in3 54 rfl rfl)⟩
set_option maxRecDepth 4000 in
theorem hX9_ends : am_mV mX9_ends 1 := ⟨⟨by decide, (t_in3 73 rfl rfl), ⟨by decide, by decide, by decide +kernel⟩, (t_in1 1 rfl rfl)⟩, (t_in3 71 rfl rfl), (t_in3 72 rfl rfl)⟩
set_option maxRecDepth 4000 in
theorem hX9_hint : am_mV mX9_hint 1 := ⟨⟨by decide, (t_in3 110 rfl rfl), ⟨by decide, by decide, by decide +kernel⟩, (t_in1 1 rfl rfl)⟩, (t_in3 108 rfl rfl), (t_in3 109 rfl rfl)⟩
set_option maxRecDepth 4000 in
theorem hX9_lawful : am_mV mX9_lawful 0 := ⟨⟨by decide, (t_in3 126 rfl rfl), ⟨by decide, by decide, by decide +kernel⟩, (t_in1 1 rfl rfl)⟩, (t_in3 124 rfl rfl), (t_in3 125 rfl rfl)⟩
set_option maxRecDepth 4000 in
theorem hX9_mean : am_mV mX9_mean 3 := ⟨⟨by decide, (t_in3 149 rfl rfl), ⟨by decide, by decide, by decide +kernel⟩, (t_in1 1 rfl rfl)⟩, (t_in3 147 rfl rfl), (t_in3 148 rfl rfl)⟩
set_option maxRecDepth 4000 in
theorem hX9_odds : am_mV mX9_odds 4 := ⟨⟨by decide, (t_in3 160 rfl rfl), ⟨by decide, by decide, by decide +kernel⟩, (t_in1 1 rfl rfl)⟩, (t_in3 158 rfl rfl), (t_in3 159 rfl rfl)⟩
set_option maxRecDepth 4000 in
theorem hX9_week : am_mV mX9_week 1 := ⟨⟨by decide, (t_in3 165 rfl rfl), ⟨by decide, by decide, by decide +kernel⟩, (t_in1 1 rfl rfl)⟩, (t_in3 163 rfl rfl), (t_in3 164 rfl rfl)⟩
set_option maxRecDepth 4000 in
theorem hX9_often : am_mV mX9_often 2 := ⟨⟨by decide, (t_in3 197 rfl rfl), ⟨by decide, by decide, by decide +kernel⟩, (t_in1 1 rfl rfl)⟩, (t_in3 195 rfl rfl), (t_in3 196 rfl rfl)⟩
set_option maxRecDepth 4000 in
theorem hX9_tail : am_mV mX9_tail 3 := ⟨⟨by decide, (t_in3 205 rfl rfl), ⟨by decide, by decide, by decide +kernel⟩, (t_in1 1 rfl rfl)⟩, (t_in3 203 rfl rfl), (t_in3 204 rfl rfl)⟩
set_option maxRecDepth 4000 in
theorem hX9_named : am_mV mX9_named 1 := ⟨⟨by decide, (t_in3 218 rfl rfl), ⟨by decide, by decide, by decide +kernel⟩, (t_in1 1 rfl rfl)⟩, (t_in3 216 rfl rfl), (t_in3 217 rfl rfl)⟩
set_option maxRecDepth 4000 in
theorem hX9_keep : am_mV mX9_keep 1 := ⟨⟨by decide, (t_in3 223 rfl rfl), ⟨by decide, by decide, by decide +kernel⟩, (t_in1 1 rfl rfl)⟩, (t_in3 221 rfl rfl), (t_in3 222 rfl rfl)⟩
set_option maxRecDepth 4000 in
theorem hX9_back : am_mV mX9_back 1 := ⟨⟨by decide, (t_in3 231 rfl rfl), ⟨by decide, by decide, by decide +kernel⟩, (t_in1 1 rfl rfl)⟩, (t_in3 229 rfl rfl), (t_in3 230 rfl rfl)⟩
set_option maxRecDepth 4000 in
theorem hX9_count : am_mV mX9_count 1 := ⟨⟨by decide, (t_in3 235 rfl rfl), ⟨by decide, by decide, by decide +kernel⟩, (t_in1 1 rfl rfl)⟩, (t_in3 233 rfl rfl), (t_in3 234 rfl rfl)⟩
set_option maxRecDepth 4000 in
theorem hX9_isThere : am_mV mX9_isThere 1 := ⟨⟨by decide, (t_in2 187 rfl rfl), ⟨by decide, by decide, by decide +kernel⟩, (t_in1 1 rfl rfl)⟩, (t_in2 186 rfl rfl), (t_in0 6 rfl rfl)⟩
set_option maxRecDepth 4000 in
theorem hX9_isRing : am_mS mX9_isRing 1 := ⟨⟨by decide, (t_in2 165 rfl rfl), ⟨by decide, by decide, by decide +kernel⟩, (t_in1 1 rfl rfl)⟩, (t_in2 164 rfl rfl)⟩
set_option maxRecDepth 4000 in
theorem hX9_isPart : am_mS mX9_isPart 1 := ⟨⟨by decide, (t_in3 153 rfl rfl), ⟨by decide, by decide, by decide +kernel⟩, (t_in1 1 rfl rfl)⟩, (t_in3 152 rfl rfl)⟩
set_option maxRecDepth 4000 in
theorem hX9_yesterdayChanged : am_mV mX9_yesterdayChanged 0 := ⟨⟨by decide, (t_in2 179 rfl rfl), ⟨by decide, by decide, by decide +kernel⟩, (t_in1 1 rfl rfl)⟩, (t_in2 178 rfl rfl), (t_in0 5 rfl rfl)⟩
set_option maxRecDepth 4000 in
theorem hX9_tallyOf : am_mV mX9_tallyOf 1 := ⟨⟨by decide, (t_in3 130 rfl rfl), ⟨by decide, by decide, by decide +kernel⟩, (t_in1 1 rfl rfl)⟩, (t_in3 129 rfl rfl), (t_in0 16 rfl rfl)⟩
set_option maxRecDepth 4000 in
theorem hX10_init : am_mI mX10_init 0 := ⟨⟨by decide, (t_in4 0 rfl rfl), ⟨by decide, by decide, by decide +kernel⟩, (t_in1 10 rfl rfl)⟩, (t_in3 239 rfl rfl), rfl, rfl⟩
set_option maxRecDepth 4000 in
theorem hX10_in : am_mS mX10_in 3 := ⟨⟨by decide, (t_in4 104 rfl rfl), ⟨by decide, by decide, by decide +kernel⟩, (t_in1 10 rfl rfl)⟩, (t_in4 103 rfl rfl)⟩
set_option maxRecDepth 4000 in
theorem hX10_isMonk : am_mV mX10_isMonk 1 := ⟨⟨by decide, (t_in4 176 rfl rfl), ⟨by decide, by decide, by decide +kernel⟩, (t_in1 10 rfl rfl)⟩, (t_in4 175 rfl rfl), (t_in0 33 rfl rfl)⟩
set_option maxRecDepth 4000 in
theorem hX10_plain : am_mV mX10_plain 0 := ⟨⟨by decide, (t_in4 5 rfl rfl), ⟨by decide, by decide, by decide +kernel⟩, (t_in1 10 rfl rfl)⟩, (t_in4 4 rfl rfl), (t_in0 22 rfl rfl)⟩
set_option maxRecDepth 4000 in
theorem hX10_begin : am_mV mX10_begin 0 := ⟨⟨by decide, (t_in4 9 rfl rfl), ⟨by decide, by decide, by decide +kernel⟩, (t_in1 10 rfl rfl)⟩, (t_in4 8 rfl rfl), (t_in0 23 rfl rfl)⟩
set_option maxRecDepth 4000 in
theorem hX10_write : am_mV mX10_write 2 := ⟨⟨by decide, (t_in4 101 rfl rfl), ⟨by decide, by decide, by decide +kernel⟩, (t_in1 10 rfl rfl)⟩, (t_in4 99 rfl rfl), (t_in4 100 rfl rfl)⟩
set_option maxRecDepth 4000 in
theorem hX10_erase : am_mV mX10_erase 0 := ⟨⟨by decide, (t_in4 109 rfl rfl), ⟨by decide, by decide, by decide +kernel⟩, (t_in1 10 rfl rfl)⟩, (t_in4 107 rfl rfl), (t_in4 108 rfl rfl)⟩
set_option maxRecDepth 4000 in
theorem hX10_nextToken : am_mV mX10_nextToken 0 := ⟨⟨by decide, (t_in4 125 rfl rfl), ⟨by decide, by decide, by decide +kernel⟩, (t_in1 10 rfl rfl)⟩, (t_in4 124 rfl rfl), (t_in0 26 rfl rfl)⟩
set_option maxRecDepth 4000 in
theorem hX10_fails : am_mV mX10_fails 0 := ⟨⟨by decide, (t_in4 152 rfl rfl), ⟨by decide, by decide, by decide +kernel⟩, (t_in1 10 rfl rfl)⟩, (t_in4 151 rfl rfl), (t_in0 29 rfl rfl)⟩
set_option maxRecDepth 4000 in
theorem hX10_isNumber : am_mV mX10_isNumber 3 := ⟨⟨by decide, (t_in4 148 rfl rfl), ⟨by decide, by decide, by decide +kernel⟩, (t_in1 10 rfl rfl)⟩, (t_in4 147 rfl rfl), (t_in0 28 rfl rfl)⟩
set_option maxRecDepth 4000 in
theorem hX10_isThere : am_mV mX10_isThere 1 := ⟨⟨by decide, (t_in4 156 rfl rfl), ⟨by decide, by decide, by decide +kernel⟩, (t_in1 10 rfl rfl)⟩, (t_in4 155 rfl rfl), (t_in0 30 rfl rfl)⟩
set_option maxRecDepth 4000 in
theorem hX10_isHall : am_mV mX10_isHall 1 := ⟨⟨by decide, (t_in4 144 rfl rfl), ⟨by decide, by decide, by decide +kernel⟩, (t_in1 10 rfl rfl)⟩, (t_in4 143 rfl rfl), (t_in0 27 rfl rfl)⟩
set_option maxRecDepth 4000 in
theorem hX10_isRing : am_mV mX10_isRing 1 := ⟨⟨by decide, (t_in4 160 rfl rfl), ⟨by decide, by decide, by decide +kernel⟩, (t_in1 10 rfl rfl)⟩, (t_in4 159 rfl rfl), (t_in0 31 rfl rfl)⟩
set_option maxRecDepth 4000 in
theorem hX10_isLine : am_mV mX10_isLine 1 := ⟨⟨by decide, (t_in4 121 rfl rfl), ⟨by decide, by decide, by decide +kernel⟩, (t_in1 10 rfl rfl)⟩, (t_in4 120 rfl rfl), (t_in0 25 rfl rfl)⟩
set_option maxRecDepth 4000 in
theorem hX10_isRead : am_mV mX10_isRead 0 := ⟨⟨by decide, (t_in4 117 rfl rfl), ⟨by decide, by decide, by decide +kernel⟩, (t_in1 10 rfl rfl)⟩, (t_in4 116 rfl rfl), (t_in0 24 rfl rfl)⟩
set_option maxRecDepth 4000 in
theorem hX10_fault : am_mV mX10_fault 0 := ⟨⟨by decide, (t_in4 113 rfl rfl), ⟨by decide, by decide, by decide +kernel⟩, (t_in1 10 rfl rfl)⟩, (t_in4 111 rfl rfl), (t_in4 112 rfl rfl)⟩
set_option maxRecDepth 4000 in
theorem hX10_doLine : am_mV mX10_doLine 1 := ⟨⟨by decide, (t_in4 168 rfl rfl), ⟨by decide, by decide, by decide +kernel⟩, (t_in1 10 rfl rfl)⟩, (t_in4 167 rfl rfl), (t_in0 32 rfl rfl)⟩
set_option maxRecDepth 4000 in
theorem hX10_hall : am_mV mX10_hall 0 := ⟨⟨by decide, (t_in4 164 rfl rfl), ⟨by decide, by decide, by decide +kernel⟩, (t_in1 10 rfl rfl)⟩, (t_in4 162 rfl rfl), (t_in4 163 rfl rfl)⟩
set_option maxRecDepth 4000 in
theorem hX10_mayBehind : am_mV mX10_mayBehind 3 := ⟨⟨by decide, (t_in4 184 rfl rfl), ⟨by decide, by decide, by decide +kernel⟩, (t_in1 10 rfl rfl)⟩, (t_in4 183 rfl rfl), (t_in0 35 rfl rfl)⟩
set_option maxRecDepth 4000 in
theorem hX10_may : am_mV mX10_may 2 := ⟨⟨by decide, (t_in4 180 rfl rfl), ⟨by decide, by decide, by decide +kernel⟩, (t_in1 10 rfl rfl)⟩, (t_in4 179 rfl rfl), (t_in0 34 rfl rfl)⟩
set_option maxRecDepth 4000 in
theorem hX10_monk : am_mV mX10_monk 3 := ⟨⟨by decide, (t_in4 172 rfl rfl), ⟨by decide, by decide, by decide +kernel⟩, (t_in1 10 rfl rfl)⟩, (t_in4 170 rfl rfl), (t_in4 171 rfl rfl)⟩
set_option maxRecDepth 4000 in
theorem hX10_as : am_mV mX10_as 2 := ⟨⟨by decide, (t_in4 188 rfl rfl), ⟨by decide, by decide, by decide +kernel⟩, (t_in1 10 rfl rfl)⟩, (t_in4 186 rfl rfl), (t_in4 187 rfl rfl)⟩
set_option maxRecDepth 4000 in
theorem hX10_draws : am_mS mX10_draws 1 := ⟨⟨by decide, (t_in4 195 rfl rfl), ⟨by decide, by decide, by decide +kernel⟩, (t_in1 10 rfl rfl)⟩, (t_in4 194 rfl rfl)⟩
set_option maxRecDepth 4000 in
theorem hX10_takeDraw : am_mV mX10_takeDraw 1 := ⟨⟨by decide, (t_in4 199 rfl rfl), ⟨by decide, by decide, by decide +kernel⟩, (t_in1 10 rfl rfl)⟩, (t_in4 198 rfl rfl), (t_in0 36 rfl rfl)⟩
set_option maxRecDepth 4000 in
theorem hX10_numberOf : am_mV mX10_numberOf 0 := ⟨⟨by decide, (t_in5 28 rfl rfl), ⟨by decide, by decide, by decide +kernel⟩, (t_in1 10 rfl rfl)⟩, (t_in5 27 rfl rfl), (t_in0 47 rfl rfl)⟩
set_option maxRecDepth 4000 in
theorem hX10_isLawful : am_mV mX10_isLawful 0 := ⟨⟨by decide, (t_in4 203 rfl rfl), ⟨by decide, by decide, by decide +kernel⟩, (t_in1 10 rfl rfl)⟩, (t_in4 202 rfl rfl), (t_in0 37 rfl rfl)⟩
set_option maxRecDepth 4000 in
theorem hX10_putToday : am_mV mX10_putToday 0 := ⟨⟨by decide, (t_in4 207 rfl rfl), ⟨by decide, by decide, by decide +kernel⟩, (t_in1 10 rfl rfl)⟩, (t_in4 206 rfl rfl), (t_in0 38 rfl rfl)⟩
set_option maxRecDepth 4000 in
theorem hX10_takeToday : am_mV mX10_takeToday 0 := ⟨⟨by decide, (t_in4 224 rfl rfl), ⟨by decide, by decide, by decide +kernel⟩, (t_in1 10 rfl rfl)⟩, (t_in4 223 rfl rfl), (t_in0 39 rfl rfl)⟩
set_option maxRecDepth 4000 in
theorem hX10_lay : am_mV mX10_lay 1 := ⟨⟨by decide, (t_in4 192 rfl rfl), ⟨by decide, by decide, by decide +kernel⟩, (t_in1 10 rfl rfl)⟩, (t_in4 190 rfl rfl), (t_in4 191 rfl rfl)⟩
set_option maxRecDepth 4000 in
theorem hX10_draw : am_mV mX10_draw 1 := ⟨⟨by decide, (t_in4 211 rfl rfl), ⟨by decide, by decide, by decide +kernel⟩, (t_in1 10 rfl rfl)⟩, (t_in4 209 rfl rfl), (t_in4 210 rfl rfl)⟩
set_option maxRecDepth 4000 in
theorem hX10_has : am_mV mX10_has 2 := ⟨⟨by decide, (t_in4 216 rfl rfl), ⟨by decide, by decide, by decide +kernel⟩, (t_in1 10 rfl rfl)⟩, (t_in4 214 rfl rfl), (t_in4 215 rfl rfl)⟩
set_option maxRecDepth 4000 in
theorem hX10_likesMore : am_mV mX10_likesMore 2 := ⟨⟨by decide, (t_in4 232 rfl rfl), ⟨by decide, by decide, by decide +kernel⟩, (t_in1 10 rfl rfl)⟩, (t_in4 231 rfl rfl), (t_in0 41 rfl rfl)⟩
set_option maxRecDepth 4000 in
theorem hX10_isWanted : am_mV mX10_isWanted 3 := ⟨⟨by decide, (t_in4 228 rfl rfl), ⟨by decide, by decide, by decide +kernel⟩, (t_in1 10 rfl rfl)⟩, (t_in4 227 rfl rfl), (t_in0 40 rfl rfl)⟩
set_option maxRecDepth 4000 in
theorem hX10_goRing : am_mV mX10_goRing 3 := ⟨⟨by decide, (t_in4 236 rfl rfl), ⟨by decide, by decide, by decide +kernel⟩, (t_in1 10 rfl rfl)⟩, (t_in4 235 rfl rfl), (t_in0 42 rfl rfl)⟩
set_option maxRecDepth 4000 in
theorem hX10_workOf : am_mV mX10_workOf 0 := ⟨⟨by decide, (t_in5 32 rfl rfl), ⟨by decide, by decide, by decide +kernel⟩, (t_in1 10 rfl rfl)⟩, (t_in5 31 rfl rfl), (t_in0 48 rfl rfl)⟩
set_option maxRecDepth 4000 in
theorem hX10_gladnessOf : am_mV mX10_gladnessOf 0 := ⟨⟨by decide, (t_in5 0 rfl rfl), ⟨by decide, by decide, by decide +kernel⟩, (t_in1 10 rfl rfl)⟩, (t_in4 239 rfl rfl), (t_in0 43 rfl rfl)⟩
set_option maxRecDepth 4000 in
theorem hX10_trade : am_mV mX10_trade 3 := ⟨⟨by decide, (t_in4 220 rfl rfl), ⟨by decide, by decide, by decide +kernel⟩, (t_in1 10 rfl rfl)⟩, (t_in4 218 rfl rfl), (t_in4 219 rfl rfl)⟩
set_option maxRecDepth 4000 in
theorem hX10_takeRing : am_mV mX10_takeRing 2 := ⟨⟨by decide, (t_in5 16 rfl rfl), ⟨by decide, by decide, by decide +kernel⟩, (t_in1 10 rfl rfl)⟩, (t_in5 15 rfl rfl), (t_in0 46 rfl rfl)⟩
set_option maxRecDepth 4000 in
theorem hX10_nextWanted : am_mV mX10_nextWanted 2 := ⟨⟨by decide, (t_in5 12 rfl rfl), ⟨by decide, by decide, by decide +kernel⟩, (t_in1 10 rfl rfl)⟩, (t_in5 11 rfl rfl), (t_in0 45 rfl rfl)⟩
set_option maxRecDepth 4000 in
theorem hX10_settleBy : am_mV mX10_settleBy 1 := ⟨⟨by decide, (t_in5 8 rfl rfl), ⟨by decide, by decide, by decide +kernel⟩, (t_in1 10 rfl rfl)⟩, (t_in5 7 rfl rfl), (t_in0 44 rfl rfl)⟩
set_option maxRecDepth 4000 in
theorem hX10_settle : am_mV mX10_settle 0 := ⟨⟨by decide, (t_in5 4 rfl rfl), ⟨by decide, by decide, by decide +kernel⟩, (t_in1 10 rfl rfl)⟩, (t_in5 2 rfl rfl), (t_in5 3 rfl rfl)⟩
set_option maxRecDepth 4000 in
theorem hX10_dawn : am_mV mX10_dawn 0 := ⟨⟨by decide, (t_in5 20 rfl rfl), ⟨by decide, by decide, by decide +kernel⟩, (t_in1 10 rfl rfl)⟩, (t_in5 18 rfl rfl), (t_in5 19 rfl rfl)⟩
set_option maxRecDepth 4000 in
theorem hX10_today : am_mV mX10_today 1 := ⟨⟨by decide, (t_in5 24 rfl rfl), ⟨by decide, by decide, by decide +kernel⟩, (t_in1 10 rfl rfl)⟩, (t_in5 22 rfl rfl), (t_in5 23 rfl rfl)⟩
set_option maxRecDepth 4000 in
theorem hX10_ends : am_mV mX10_ends 1 := ⟨⟨by decide, (t_in5 36 rfl rfl), ⟨by decide, by decide, by decide +kernel⟩, (t_in1 10 rfl rfl)⟩, (t_in5 34 rfl rfl), (t_in5 35 rfl rfl)⟩
set_option maxRecDepth 4000 in
theorem hX10_hint : am_mV mX10_hint 1 := ⟨⟨by decide, (t_in5 40 rfl rfl), ⟨by decide, by decide, by decide +kernel⟩, (t_in1 10 rfl rfl)⟩, (t_in5 38 rfl rfl), (t_in5 39 rfl rfl)⟩
set_option maxRecDepth 4000 in
theorem hX10_lawful : am_mV mX10_lawful 0 := ⟨⟨by decide, (t_in5 44 rfl rfl), ⟨by decide, by decide, by decide +kernel⟩, (t_in1 10 rfl rfl)⟩, (t_in5 42 rfl rfl), (t_in5 43 rfl rfl)⟩
set_option maxRecDepth 4000 in
theorem hX10_divisor : am_mS mX10_divisor 2 := ⟨⟨by decide, (t_in5 54 rfl rfl), ⟨by decide, by decide, by decide +kernel⟩, (t_in1 10 rfl rfl)⟩, (t_in5 53 rfl rfl)⟩
set_option maxRecDepth 4000 in
theorem hX10_isRingNumber : am_mS mX10_isRingNumber 1 := ⟨⟨by decide, (t_in5 51 rfl rfl), ⟨by decide, by decide, by decide +kernel⟩, (t_in1 10 rfl rfl)⟩, (t_in5 50 rfl rfl)⟩
set_option maxRecDepth 4000 in
theorem hX10_mean : am_mV mX10_mean 3 := ⟨⟨by decide, (t_in5 48 rfl rfl), ⟨by decide, by decide, by decide +kernel⟩, (t_in1 10 rfl rfl)⟩, (t_in5 46 rfl rfl), (t_in5 47 rfl rfl)⟩
set_option maxRecDepth 4000 in
theorem hX10_odds : am_mV mX10_odds 4 := ⟨⟨by decide, (t_in5 58 rfl rfl), ⟨by decide, by decide, by decide +kernel⟩, (t_in1 10 rfl rfl)⟩, (t_in5 56 rfl rfl), (t_in5 57 rfl rfl)⟩
set_option maxRecDepth 4000 in
theorem hX10_isLawfulBehind : am_mV mX10_isLawfulBehind 0 := ⟨⟨by decide, (t_in5 66 rfl rfl), ⟨by decide, by decide, by decide +kernel⟩, (t_in1 10 rfl rfl)⟩, (t_in5 65 rfl rfl), (t_in0 49 rfl rfl)⟩
set_option maxRecDepth 4000 in
theorem hX10_week : am_mV mX10_week 1 := ⟨⟨by decide, (t_in5 62 rfl rfl), ⟨by decide, by decide, by decide +kernel⟩, (t_in1 10 rfl rfl)⟩, (t_in5 60 rfl rfl), (t_in5 61 rfl rfl)⟩
set_option maxRecDepth 4000 in
theorem hX10_oftenOf : am_mV mX10_oftenOf 2 := ⟨⟨by decide, (t_in5 74 rfl rfl), ⟨by decide, by decide, by decide +kernel⟩, (t_in1 10 rfl rfl)⟩, (t_in5 73 rfl rfl), (t_in0 50 rfl rfl)⟩
set_option maxRecDepth 4000 in
theorem hX10_often : am_mV mX10_often 2 := ⟨⟨by decide, (t_in5 70 rfl rfl), ⟨by decide, by decide, by decide +kernel⟩, (t_in1 10 rfl rfl)⟩, (t_in5 68 rfl rfl), (t_in5 69 rfl rfl)⟩
set_option maxRecDepth 4000 in
theorem hX10_tailDown : am_mV mX10_tailDown 0 := ⟨⟨by decide, (t_in5 86 rfl rfl), ⟨by decide, by decide, by decide +kernel⟩, (t_in1 10 rfl rfl)⟩, (t_in5 85 rfl rfl), (t_in0 52 rfl rfl)⟩
set_option maxRecDepth 4000 in
theorem hX10_tailUp : am_mV mX10_tailUp 2 := ⟨⟨by decide, (t_in5 82 rfl rfl), ⟨by decide, by decide, by decide +kernel⟩, (t_in1 10 rfl rfl)⟩, (t_in5 81 rfl rfl), (t_in0 51 rfl rfl)⟩
set_option maxRecDepth 4000 in
theorem hX10_tail : am_mV mX10_tail 3 := ⟨⟨by decide, (t_in5 78 rfl rfl), ⟨by decide, by decide, by decide +kernel⟩, (t_in1 10 rfl rfl)⟩, (t_in5 76 rfl rfl), (t_in5 77 rfl rfl)⟩
set_option maxRecDepth 4000 in
theorem hX10_named : am_mV mX10_named 1 := ⟨⟨by decide, (t_in5 90 rfl rfl), ⟨by decide, by decide, by decide +kernel⟩, (t_in1 10 rfl rfl)⟩, (t_in5 88 rfl rfl), (t_in5 89 rfl rfl)⟩
set_option maxRecDepth 4000 in
theorem hX10_copy : am_mS mX10_copy 4 := ⟨⟨by decide, (t_in5 98 rfl rfl), ⟨by decide, by decide, by decide +kernel⟩, (t_in1 10 rfl rfl)⟩, (t_in5 97 rfl rfl)⟩
set_option maxRecDepth 4000 in
theorem hX10_keep : am_mV mX10_keep 1 := ⟨⟨by decide, (t_in5 95 rfl rfl), ⟨by decide, by decide, by decide +kernel⟩, (t_in1 10 rfl rfl)⟩, (t_in5 93 rfl rfl), (t_in5 94 rfl rfl)⟩
set_option maxRecDepth 4000 in
theorem hX10_back : am_mV mX10_back 1 := ⟨⟨by decide, (t_in5 102 rfl rfl), ⟨by decide, by decide, by decide +kernel⟩, (t_in1 10 rfl rfl)⟩, (t_in5 100 rfl rfl), (t_in5 101 rfl rfl)⟩
set_option maxRecDepth 4000 in
theorem hX10_count : am_mV mX10_count 1 := ⟨⟨by decide, (t_in5 106 rfl rfl), ⟨by decide, by decide, by decide +kernel⟩, (t_in1 10 rfl rfl)⟩, (t_in5 104 rfl rfl), (t_in5 105 rfl rfl)⟩
set_option maxRecDepth 4000 in
theorem hJ6_numberOfTrailingZeros_0f7a4 : am_mS mJ6_numberOfTrailingZeros_0f7a4 1 := ⟨⟨by decide, (t_in3 92 rfl rfl), ⟨by decide, by decide, by decide +kernel⟩, (t_in1 16 rfl rfl)⟩, (t_in3 91 rfl rfl)⟩
set_option maxRecDepth 4000 in
theorem hJ6_bitCount_0f7a4 : am_mS mJ6_bitCount_0f7a4 1 := ⟨⟨by decide, (t_in3 61 rfl rfl), ⟨by decide, by decide, by decide +kernel⟩, (t_in1 16 rfl rfl)⟩, (t_in3 60 rfl rfl)⟩
set_option maxRecDepth 4000 in
theorem hJ13_numberOfTrailingZeros_95d88 : am_mS mJ13_numberOfTrailingZeros_95d88 1 := ⟨⟨by decide, (t_in3 89 rfl rfl), ⟨by decide, by decide, by decide +kernel⟩, (t_in1 17 rfl rfl)⟩, (t_in3 88 rfl rfl)⟩
set_option maxRecDepth 4000 in
theorem hJ0_length_8abf5 : am_mV mJ0_length_8abf5 0 := ⟨⟨by decide, (t_in2 100 rfl rfl), ⟨by decide, by decide, by decide +kernel⟩, (t_in1 11 rfl rfl)⟩, (t_in2 98 rfl rfl), (t_in2 99 rfl rfl)⟩
set_option maxRecDepth 4000 in
theorem hJ0_charAt_5068e : am_mV mJ0_charAt_5068e 1 := ⟨⟨by decide, (t_in2 110 rfl rfl), ⟨by decide, by decide, by decide +kernel⟩, (t_in1 11 rfl rfl)⟩, (t_in2 108 rfl rfl), (t_in2 109 rfl rfl)⟩
set_option maxRecDepth 4000 in
theorem hJ0_coder_7d493 : am_mV mJ0_coder_7d493 0 := ⟨⟨by decide, (t_in2 104 rfl rfl), ⟨by decide, by decide, by decide +kernel⟩, (t_in1 11 rfl rfl)⟩, (t_in2 102 rfl rfl), (t_in2 103 rfl rfl)⟩
set_option maxRecDepth 4000 in
theorem hJ0_isLatin1_aae02 : am_mV mJ0_isLatin1_aae02 0 := ⟨⟨by decide, (t_in2 114 rfl rfl), ⟨by decide, by decide, by decide +kernel⟩, (t_in1 11 rfl rfl)⟩, (t_in2 112 rfl rfl), (t_in2 113 rfl rfl)⟩
set_option maxRecDepth 4000 in
theorem hJ0_checkIndex_df160 : am_mS mJ0_checkIndex_df160 2 := ⟨⟨by decide, (t_in2 120 rfl rfl), ⟨by decide, by decide, by decide +kernel⟩, (t_in1 11 rfl rfl)⟩, (t_in2 119 rfl rfl)⟩
set_option maxRecDepth 4000 in
theorem hJ1_charAt_3b067 : am_mS mJ1_charAt_3b067 2 := ⟨⟨by decide, (t_in2 117 rfl rfl), ⟨by decide, by decide, by decide +kernel⟩, (t_in1 12 rfl rfl)⟩, (t_in2 116 rfl rfl)⟩
set_option maxRecDepth 4000 in
theorem hJ2_getChar_3b067 : am_mS mJ2_getChar_3b067 2 := ⟨⟨by decide, (t_in2 138 rfl rfl), ⟨by decide, by decide, by decide +kernel⟩, (t_in1 14 rfl rfl)⟩, (t_in2 137 rfl rfl)⟩
set_option maxRecDepth 4000 in
theorem hJ2_length_9d52b : am_mS mJ2_length_9d52b 1 := ⟨⟨by decide, (t_in2 134 rfl rfl), ⟨by decide, by decide, by decide +kernel⟩, (t_in1 14 rfl rfl)⟩, (t_in2 133 rfl rfl)⟩
set_option maxRecDepth 4000 in
theorem hJ2_charAt_3b067 : am_mS mJ2_charAt_3b067 2 := ⟨⟨by decide, (t_in2 128 rfl rfl), ⟨by decide, by decide, by decide +kernel⟩, (t_in1 14 rfl rfl)⟩, (t_in2 127 rfl rfl)⟩
set_option maxRecDepth 4000 in
theorem hJ2_checkIndex_2214a : am_mS mJ2_checkIndex_2214a 2 := ⟨⟨by decide, (t_in2 131 rfl rfl), ⟨by decide, by decide, by decide +kernel⟩, (t_in1 14 rfl rfl)⟩, (t_in2 130 rfl rfl)⟩
set_option maxRecDepth 4000 in
theorem hJ3_checkIndex_8e157 : am_mS mJ3_checkIndex_8e157 3 := ⟨⟨by decide, (t_in2 125 rfl rfl), ⟨by decide, by decide, by decide +kernel⟩, (t_in1 13 rfl rfl)⟩, (t_in2 124 rfl rfl)⟩
set_option maxRecDepth 4000 in
theorem flX9_10 : am_fl RX9 10 7 0 := ⟨by decide, by decide, (t_in2 22 rfl rfl)⟩
set_option maxRecDepth 4000 in
theorem flX9_19 : am_fl RX9 19 7 1 := ⟨by decide, by decide, (t_in2 23 rfl rfl)⟩
set_option maxRecDepth 4000 in
theorem flX9_26 : am_fl RX9 26 7 2 := ⟨by decide, by decide, (t_in2 24 rfl rfl)⟩
set_option maxRecDepth 4000 in
theorem flX9_30 : am_fl RX9 30 7 3 := ⟨by decide, by decide, (t_in2 25 rfl rfl)⟩
set_option maxRecDepth 4000 in
theorem flX9_34 : am_fl RX9 34 7 4 := ⟨by decide, by decide, (t_in2 26 rfl rfl)⟩
set_option maxRecDepth 4000 in
theorem flX9_43 : am_fl RX9 43 7 5 := ⟨by decide, by decide, (t_in2 27 rfl rfl)⟩
set_option maxRecDepth 4000 in
theorem flX9_52 : am_fl RX9 52 7 6 := ⟨by decide, by decide, (t_in2 28 rfl rfl)⟩
set_option maxRecDepth 4000 in
theorem flX9_61 : am_fl RX9 61 7 7 := ⟨by decide, by decide, (t_in2 29 rfl rfl)⟩
set_option maxRecDepth 4000 in
theorem flX9_68 : am_fl RX9 68 7 8 := ⟨by decide, by decide, (t_in2 30 rfl rfl)⟩
set_option maxRecDepth 4000 in
theorem flX9_72 : am_fl RX9 72 7 9 := ⟨by decide, by decide, (t_in2 31 rfl rfl)⟩
set_option maxRecDepth 4000 in
theorem flX9_80 : am_fl RX9 80 1 5 := ⟨by decide, by decide, (t_in1 75 rfl rfl)⟩
set_option maxRecDepth 4000 in
theorem flX9_87 : am_fl RX9 87 0 2 := ⟨by decide, by decide, (t_in1 100 rfl rfl)⟩
set_option maxRecDepth 4000 in
theorem flX9_93 : am_fl RX9 93 4 1 := ⟨by decide, by decide, (t_in1 36 rfl rfl)⟩
set_option maxRecDepth 4000 in
theorem flX9_102 : am_fl RX9 102 1 0 := ⟨by decide, by decide, (t_in1 68 rfl rfl)⟩
set_option maxRecDepth 4000 in
theorem flX9_109 : am_fl RX9 109 4 3 := ⟨by decide, by decide, (t_in1 40 rfl rfl)⟩
set_option maxRecDepth 4000 in
theorem flX9_112 : am_fl RX9 112 4 2 := ⟨by decide, by decide, (t_in1 38 rfl rfl)⟩
set_option maxRecDepth 4000 in
theorem fsX9_140 : Cond.fieldLink RX9 140 "DutiesHat" "FACTORIALS" "[I" ∈ am_TB := (t_in2 211 rfl rfl)
set_option maxRecDepth 4000 in
theorem flX9_160 : am_fl RX9 160 0 0 := ⟨by decide, by decide, (t_in1 96 rfl rfl)⟩
set_option maxRecDepth 4000 in
theorem flX9_164 : am_fl RX9 164 0 1 := ⟨by decide, by decide, (t_in1 98 rfl rfl)⟩
set_option maxRecDepth 4000 in
theorem flX9_167 : am_fl RX9 167 1 1 := ⟨by decide, by decide, (t_in1 70 rfl rfl)⟩
set_option maxRecDepth 4000 in
theorem flX9_186 : am_fl RX9 186 0 3 := ⟨by decide, by decide, (t_in1 102 rfl rfl)⟩
set_option maxRecDepth 4000 in
theorem flX9_201 : am_fl RX9 201 5 5 := ⟨by decide, by decide, (t_in1 188 rfl rfl)⟩
set_option maxRecDepth 4000 in
theorem flX9_204 : am_fl RX9 204 5 6 := ⟨by decide, by decide, (t_in1 190 rfl rfl)⟩
set_option maxRecDepth 4000 in
theorem flX9_207 : am_fl RX9 207 5 7 := ⟨by decide, by decide, (t_in1 192 rfl rfl)⟩
set_option maxRecDepth 4000 in
theorem flX9_218 : am_fl RX9 218 6 4 := ⟨by decide, by decide, (t_in1 152 rfl rfl)⟩
set_option maxRecDepth 4000 in
theorem flX9_227 : am_fl RX9 227 6 5 := ⟨by decide, by decide, (t_in1 154 rfl rfl)⟩
set_option maxRecDepth 4000 in
theorem flX9_230 : am_fl RX9 230 6 6 := ⟨by decide, by decide, (t_in1 156 rfl rfl)⟩
set_option maxRecDepth 4000 in
theorem flX9_237 : am_fl RX9 237 6 7 := ⟨by decide, by decide, (t_in1 158 rfl rfl)⟩
set_option maxRecDepth 4000 in
theorem flX9_267 : am_fl RX9 267 6 3 := ⟨by decide, by decide, (t_in1 150 rfl rfl)⟩
set_option maxRecDepth 4000 in
theorem flX1_9 : am_fl RX1 9 0 1 := ⟨by decide, by decide, (t_in1 97 rfl rfl)⟩
set_option maxRecDepth 4000 in
theorem flX1_15 : am_fl RX1 15 0 2 := ⟨by decide, by decide, (t_in1 99 rfl rfl)⟩
set_option maxRecDepth 4000 in
theorem flX1_18 : am_fl RX1 18 0 4 := ⟨by decide, by decide, (t_in1 103 rfl rfl)⟩
set_option maxRecDepth 4000 in
theorem flX1_21 : am_fl RX1 21 0 0 := ⟨by decide, by decide, (t_in1 95 rfl rfl)⟩
set_option maxRecDepth 4000 in
theorem flX1_25 : am_fl RX1 25 0 3 := ⟨by decide, by decide, (t_in1 101 rfl rfl)⟩
set_option maxRecDepth 4000 in
theorem flX2_9 : am_fl RX2 9 1 2 := ⟨by decide, by decide, (t_in1 71 rfl rfl)⟩
set_option maxRecDepth 4000 in
theorem flX2_15 : am_fl RX2 15 1 3 := ⟨by decide, by decide, (t_in1 72 rfl rfl)⟩
set_option maxRecDepth 4000 in
theorem flX2_18 : am_fl RX2 18 1 4 := ⟨by decide, by decide, (t_in1 73 rfl rfl)⟩
set_option maxRecDepth 4000 in
theorem flX2_21 : am_fl RX2 21 1 5 := ⟨by decide, by decide, (t_in1 74 rfl rfl)⟩
set_option maxRecDepth 4000 in
theorem flX2_24 : am_fl RX2 24 1 0 := ⟨by decide, by decide, (t_in1 67 rfl rfl)⟩
set_option maxRecDepth 4000 in
theorem flX2_28 : am_fl RX2 28 1 1 := ⟨by decide, by decide, (t_in1 69 rfl rfl)⟩
set_option maxRecDepth 4000 in
theorem flX4_9 : am_fl RX4 9 2 1 := ⟨by decide, by decide, (t_in1 218 rfl rfl)⟩
set_option maxRecDepth 4000 in
theorem flX4_15 : am_fl RX4 15 2 2 := ⟨by decide, by decide, (t_in1 219 rfl rfl)⟩
set_option maxRecDepth 4000 in
theorem flX4_18 : am_fl RX4 18 2 3 := ⟨by decide, by decide, (t_in1 220 rfl rfl)⟩
set_option maxRecDepth 4000 in
theorem flX4_21 : am_fl RX4 21 2 4 := ⟨by decide, by decide, (t_in1 221 rfl rfl)⟩
set_option maxRecDepth 4000 in
theorem flX4_24 : am_fl RX4 24 2 5 := ⟨by decide, by decide, (t_in1 222 rfl rfl)⟩
set_option maxRecDepth 4000 in
theorem flX4_27 : am_fl RX4 27 2 0 := ⟨by decide, by decide, (t_in1 217 rfl rfl)⟩
set_option maxRecDepth 4000 in
theorem flX4_31 : am_fl RX4 31 1 0 := ⟨by decide, by decide, (t_in1 63 rfl rfl)⟩
set_option maxRecDepth 4000 in
theorem flX5_9 : am_fl RX5 9 3 1 := ⟨by decide, by decide, (t_in1 125 rfl rfl)⟩
set_option maxRecDepth 4000 in
theorem flX5_15 : am_fl RX5 15 3 2 := ⟨by decide, by decide, (t_in1 126 rfl rfl)⟩
set_option maxRecDepth 4000 in
theorem flX5_18 : am_fl RX5 18 3 0 := ⟨by decide, by decide, (t_in1 122 rfl rfl)⟩
set_option maxRecDepth 4000 in
theorem flX5_22 : am_fl RX5 22 1 0 := ⟨by decide, by decide, (t_in1 64 rfl rfl)⟩
set_option maxRecDepth 4000 in
theorem flX5_46 : am_fl RX5 46 3 3 := ⟨by decide, by decide, (t_in1 128 rfl rfl)⟩
set_option maxRecDepth 4000 in
theorem flX6_9 : am_fl RX6 9 4 0 := ⟨by decide, by decide, (t_in1 34 rfl rfl)⟩
set_option maxRecDepth 4000 in
theorem flX6_15 : am_fl RX6 15 4 2 := ⟨by decide, by decide, (t_in1 37 rfl rfl)⟩
set_option maxRecDepth 4000 in
theorem flX6_18 : am_fl RX6 18 4 1 := ⟨by decide, by decide, (t_in1 35 rfl rfl)⟩
set_option maxRecDepth 4000 in
theorem flX6_22 : am_fl RX6 22 4 5 := ⟨by decide, by decide, (t_in1 42 rfl rfl)⟩
set_option maxRecDepth 4000 in
theorem flX6_25 : am_fl RX6 25 4 3 := ⟨by decide, by decide, (t_in1 39 rfl rfl)⟩
set_option maxRecDepth 4000 in
theorem flX6_32 : am_fl RX6 32 4 4 := ⟨by decide, by decide, (t_in1 41 rfl rfl)⟩
set_option maxRecDepth 4000 in
theorem flX7_9 : am_fl RX7 9 5 1 := ⟨by decide, by decide, (t_in1 183 rfl rfl)⟩
set_option maxRecDepth 4000 in
theorem flX7_15 : am_fl RX7 15 5 2 := ⟨by decide, by decide, (t_in1 184 rfl rfl)⟩
set_option maxRecDepth 4000 in
theorem flX7_18 : am_fl RX7 18 5 3 := ⟨by decide, by decide, (t_in1 185 rfl rfl)⟩
set_option maxRecDepth 4000 in
theorem flX7_22 : am_fl RX7 22 5 4 := ⟨by decide, by decide, (t_in1 186 rfl rfl)⟩
set_option maxRecDepth 4000 in
theorem flX7_25 : am_fl RX7 25 5 0 := ⟨by decide, by decide, (t_in1 182 rfl rfl)⟩
set_option maxRecDepth 4000 in
theorem flX7_29 : am_fl RX7 29 5 5 := ⟨by decide, by decide, (t_in1 187 rfl rfl)⟩
set_option maxRecDepth 4000 in
theorem flX7_33 : am_fl RX7 33 5 6 := ⟨by decide, by decide, (t_in1 189 rfl rfl)⟩
set_option maxRecDepth 4000 in
theorem flX7_36 : am_fl RX7 36 5 7 := ⟨by decide, by decide, (t_in1 191 rfl rfl)⟩
set_option maxRecDepth 4000 in
theorem flX7_39 : am_fl RX7 39 3 0 := ⟨by decide, by decide, (t_in1 124 rfl rfl)⟩
set_option maxRecDepth 4000 in
theorem flX7_45 : am_fl RX7 45 1 0 := ⟨by decide, by decide, (t_in1 66 rfl rfl)⟩
set_option maxRecDepth 4000 in
theorem flX7_81 : am_fl RX7 81 3 3 := ⟨by decide, by decide, (t_in1 127 rfl rfl)⟩
set_option maxRecDepth 4000 in
theorem flX8_9 : am_fl RX8 9 6 2 := ⟨by decide, by decide, (t_in1 148 rfl rfl)⟩
set_option maxRecDepth 4000 in
theorem flX8_15 : am_fl RX8 15 6 7 := ⟨by decide, by decide, (t_in1 157 rfl rfl)⟩
set_option maxRecDepth 4000 in
theorem flX8_18 : am_fl RX8 18 6 0 := ⟨by decide, by decide, (t_in1 146 rfl rfl)⟩
set_option maxRecDepth 4000 in
theorem flX8_22 : am_fl RX8 22 6 1 := ⟨by decide, by decide, (t_in1 147 rfl rfl)⟩
set_option maxRecDepth 4000 in
theorem flX8_26 : am_fl RX8 26 6 4 := ⟨by decide, by decide, (t_in1 151 rfl rfl)⟩
set_option maxRecDepth 4000 in
theorem flX8_29 : am_fl RX8 29 6 5 := ⟨by decide, by decide, (t_in1 153 rfl rfl)⟩
set_option maxRecDepth 4000 in
theorem flX8_32 : am_fl RX8 32 6 6 := ⟨by decide, by decide, (t_in1 155 rfl rfl)⟩
set_option maxRecDepth 4000 in
theorem flX8_35 : am_fl RX8 35 3 0 := ⟨by decide, by decide, (t_in1 123 rfl rfl)⟩
set_option maxRecDepth 4000 in
theorem flX8_41 : am_fl RX8 41 1 0 := ⟨by decide, by decide, (t_in1 65 rfl rfl)⟩
set_option maxRecDepth 4000 in
theorem flX8_67 : am_fl RX8 67 6 3 := ⟨by decide, by decide, (t_in1 149 rfl rfl)⟩
set_option maxRecDepth 4000 in
theorem flX10_7 : am_fl RX10 7 8 0 := ⟨by decide, by decide, (t_in4 10 rfl rfl)⟩
set_option maxRecDepth 4000 in
theorem flX10_13 : am_fl RX10 13 8 1 := ⟨by decide, by decide, (t_in4 11 rfl rfl)⟩
set_option maxRecDepth 4000 in
theorem flX10_16 : am_fl RX10 16 8 2 := ⟨by decide, by decide, (t_in4 12 rfl rfl)⟩
set_option maxRecDepth 4000 in
theorem flX10_20 : am_fl RX10 20 8 3 := ⟨by decide, by decide, (t_in4 13 rfl rfl)⟩
set_option maxRecDepth 4000 in
theorem flX10_23 : am_fl RX10 23 8 4 := ⟨by decide, by decide, (t_in4 14 rfl rfl)⟩
set_option maxRecDepth 4000 in
theorem flX10_26 : am_fl RX10 26 8 5 := ⟨by decide, by decide, (t_in4 15 rfl rfl)⟩
set_option maxRecDepth 4000 in
theorem flX10_29 : am_fl RX10 29 8 7 := ⟨by decide, by decide, (t_in4 17 rfl rfl)⟩
set_option maxRecDepth 4000 in
theorem flX10_32 : am_fl RX10 32 8 16 := ⟨by decide, by decide, (t_in4 26 rfl rfl)⟩
set_option maxRecDepth 4000 in
theorem flX10_35 : am_fl RX10 35 8 17 := ⟨by decide, by decide, (t_in4 27 rfl rfl)⟩
set_option maxRecDepth 4000 in
theorem flX10_38 : am_fl RX10 38 8 18 := ⟨by decide, by decide, (t_in4 28 rfl rfl)⟩
set_option maxRecDepth 4000 in
theorem flX10_41 : am_fl RX10 41 8 19 := ⟨by decide, by decide, (t_in4 29 rfl rfl)⟩
set_option maxRecDepth 4000 in
theorem flX10_45 : am_fl RX10 45 8 20 := ⟨by decide, by decide, (t_in4 30 rfl rfl)⟩
set_option maxRecDepth 4000 in
theorem flX10_48 : am_fl RX10 48 8 21 := ⟨by decide, by decide, (t_in4 31 rfl rfl)⟩
set_option maxRecDepth 4000 in
theorem flX10_51 : am_fl RX10 51 8 22 := ⟨by decide, by decide, (t_in4 32 rfl rfl)⟩
set_option maxRecDepth 4000 in
theorem flX10_54 : am_fl RX10 54 8 23 := ⟨by decide, by decide, (t_in4 33 rfl rfl)⟩
set_option maxRecDepth 4000 in
theorem flX10_57 : am_fl RX10 57 8 24 := ⟨by decide, by decide, (t_in4 34 rfl rfl)⟩
set_option maxRecDepth 4000 in
theorem flX10_60 : am_fl RX10 60 8 25 := ⟨by decide, by decide, (t_in4 35 rfl rfl)⟩
set_option maxRecDepth 4000 in
theorem flX10_73 : am_fl RX10 73 8 6 := ⟨by decide, by decide, (t_in4 16 rfl rfl)⟩
set_option maxRecDepth 4000 in
theorem flX10_78 : am_fl RX10 78 8 8 := ⟨by decide, by decide, (t_in4 18 rfl rfl)⟩
set_option maxRecDepth 4000 in
theorem flX10_81 : am_fl RX10 81 8 9 := ⟨by decide, by decide, (t_in4 19 rfl rfl)⟩
set_option maxRecDepth 4000 in
theorem flX10_84 : am_fl RX10 84 8 11 := ⟨by decide, by decide, (t_in4 21 rfl rfl)⟩
set_option maxRecDepth 4000 in
theorem flX10_87 : am_fl RX10 87 8 12 := ⟨by decide, by decide, (t_in4 22 rfl rfl)⟩
set_option maxRecDepth 4000 in
theorem flX10_92 : am_fl RX10 92 8 10 := ⟨by decide, by decide, (t_in4 20 rfl rfl)⟩
set_option maxRecDepth 4000 in
theorem flX10_106 : am_fl RX10 106 8 13 := ⟨by decide, by decide, (t_in4 23 rfl rfl)⟩
set_option maxRecDepth 4000 in
theorem flX10_116 : am_fl RX10 116 8 15 := ⟨by decide, by decide, (t_in4 25 rfl rfl)⟩
set_option maxRecDepth 4000 in
theorem flX10_150 : am_fl RX10 150 8 14 := ⟨by decide, by decide, (t_in4 24 rfl rfl)⟩
set_option maxRecDepth 4000 in
theorem flX10_204 : am_fl RX10 204 8 26 := ⟨by decide, by decide, (t_in4 36 rfl rfl)⟩
set_option maxRecDepth 4000 in
theorem flX10_207 : am_fl RX10 207 8 27 := ⟨by decide, by decide, (t_in4 37 rfl rfl)⟩
set_option maxRecDepth 4000 in
theorem flX10_210 : am_fl RX10 210 8 28 := ⟨by decide, by decide, (t_in4 38 rfl rfl)⟩
set_option maxRecDepth 4000 in
theorem fsJ0_9 : Cond.fieldLink RJ0 9 "java/lang/String" "value" "[B" ∈ am_TB := (t_in5 108 rfl rfl)
set_option maxRecDepth 4000 in
theorem fsJ0_15 : Cond.fieldLink RJ0 15 "java/lang/String" "coder" "B" ∈ am_TB := (t_in5 109 rfl rfl)
set_option maxRecDepth 4000 in
theorem fsJ0_38 : Cond.fieldLink RJ0 38 "java/lang/String" "COMPACT_STRINGS" "Z" ∈ am_TB := (t_in2 105 rfl rfl)
set_option maxRecDepth 4000 in
theorem fsJ0_1053 : Cond.fieldLink RJ0 1053 "jdk/internal/util/Preconditions" "SIOOBE_FORMATTER" "Ljava/util/function/BiFunction;" ∈ am_TB := (t_in2 121 rfl rfl)
set_option maxRecDepth 4000 in
theorem fsJ2_44 : Cond.fieldLink RJ2 44 "java/lang/StringUTF16" "$assertionsDisabled" "Z" ∈ am_TB := (t_in2 139 rfl rfl)
set_option maxRecDepth 4000 in
theorem fsJ2_59 : Cond.fieldLink RJ2 59 "java/lang/StringUTF16" "HI_BYTE_SHIFT" "I" ∈ am_TB := (t_in2 141 rfl rfl)
set_option maxRecDepth 4000 in
theorem fsJ2_63 : Cond.fieldLink RJ2 63 "java/lang/StringUTF16" "LO_BYTE_SHIFT" "I" ∈ am_TB := (t_in2 143 rfl rfl)
set_option maxRecDepth 4000 in
theorem lkX9_1 : Cond.methodLink RX9 1 objectInit ∈ am_TB := (t_in1 25 rfl rfl)
set_option maxRecDepth 4000 in
theorem lkX9_40 : Cond.methodLink RX9 40 yX5_init ∈ am_TB := (t_in1 118 rfl rfl)
set_option maxRecDepth 4000 in
theorem lkX9_49 : Cond.methodLink RX9 49 yX8_init ∈ am_TB := (t_in1 142 rfl rfl)
set_option maxRecDepth 4000 in
theorem lkX9_58 : Cond.methodLink RX9 58 yX7_init ∈ am_TB := (t_in1 178 rfl rfl)
set_option maxRecDepth 4000 in
theorem lkX9_67 : Cond.methodLink RX9 67 yX4_init ∈ am_TB := (t_in1 213 rfl rfl)
set_option maxRecDepth 4000 in
theorem lkX9_76 : Cond.methodLink RX9 76 yX2_open ∈ am_TB := (t_in1 236 rfl rfl)
set_option maxRecDepth 4000 in
theorem lkX9_83 : Cond.methodLink RX9 83 yX1_begin ∈ am_TB := (t_in2 0 rfl rfl)
set_option maxRecDepth 4000 in
theorem lkX9_90 : Cond.methodLink RX9 90 yX5_look ∈ am_TB := (t_in2 7 rfl rfl)
set_option maxRecDepth 4000 in
theorem lkX9_99 : Cond.methodLink RX9 99 yX6_add ∈ am_TB := (t_in2 58 rfl rfl)
set_option maxRecDepth 4000 in
theorem lkX9_105 : Cond.methodLink RX9 105 yX6_read ∈ am_TB := (t_in2 70 rfl rfl)
set_option maxRecDepth 4000 in
theorem lkX9_115 : Cond.methodLink RX9 115 yX2_obey ∈ am_TB := (t_in2 171 rfl rfl)
set_option maxRecDepth 4000 in
theorem lkX9_119 : Cond.methodLink RX9 119 yX9_yesterdayChanged ∈ am_TB := (t_in2 176 rfl rfl)
set_option maxRecDepth 4000 in
theorem lkX9_122 : Cond.methodLink RX9 122 yX9_isThere ∈ am_TB := (t_in2 184 rfl rfl)
set_option maxRecDepth 4000 in
theorem lkX9_126 : Cond.methodLink RX9 126 yX2_skillOf ∈ am_TB := (t_in2 188 rfl rfl)
set_option maxRecDepth 4000 in
theorem lkX9_130 : Cond.methodLink RX9 130 yX2_likingOf ∈ am_TB := (t_in2 189 rfl rfl)
set_option maxRecDepth 4000 in
theorem lkX9_133 : Cond.methodLink RX9 133 yX5_mayDo ∈ am_TB := (t_in2 193 rfl rfl)
set_option maxRecDepth 4000 in
theorem lkX9_137 : Cond.methodLink RX9 137 yX2_isA ∈ am_TB := (t_in2 201 rfl rfl)
set_option maxRecDepth 4000 in
theorem lkX9_143 : Cond.methodLink RX9 143 yX3_fill ∈ am_TB := (t_in2 213 rfl rfl)
set_option maxRecDepth 4000 in
theorem lkX9_149 : Cond.methodLink RX9 149 yX5_allMayDo ∈ am_TB := (t_in2 217 rfl rfl)
set_option maxRecDepth 4000 in
theorem lkX9_153 : Cond.methodLink RX9 153 yX1_give ∈ am_TB := (t_in2 222 rfl rfl)
set_option maxRecDepth 4000 in
theorem lkX9_156 : Cond.methodLink RX9 156 yX3_mix ∈ am_TB := (t_in2 230 rfl rfl)
set_option maxRecDepth 4000 in
theorem lkX9_170 : Cond.methodLink RX9 170 yX5_isWanted ∈ am_TB := (t_in3 2 rfl rfl)
set_option maxRecDepth 4000 in
theorem lkX9_174 : Cond.methodLink RX9 174 yX5_pass ∈ am_TB := (t_in3 11 rfl rfl)
set_option maxRecDepth 4000 in
theorem lkX9_178 : Cond.methodLink RX9 178 yX2_gladnessOf ∈ am_TB := (t_in3 14 rfl rfl)
set_option maxRecDepth 4000 in
theorem lkX9_182 : Cond.methodLink RX9 182 yX5_passAll ∈ am_TB := (t_in3 23 rfl rfl)
set_option maxRecDepth 4000 in
theorem lkX9_189 : Cond.methodLink RX9 189 yX1_end ∈ am_TB := (t_in3 48 rfl rfl)
set_option maxRecDepth 4000 in
theorem lkX9_192 : Cond.methodLink RX9 192 yX3_numberOf ∈ am_TB := (t_in3 56 rfl rfl)
set_option maxRecDepth 4000 in
theorem lkX9_195 : Cond.methodLink RX9 195 yX2_workOf ∈ am_TB := (t_in3 65 rfl rfl)
set_option maxRecDepth 4000 in
theorem lkX9_198 : Cond.methodLink RX9 198 yX7_from ∈ am_TB := (t_in3 74 rfl rfl)
set_option maxRecDepth 4000 in
theorem lkX9_210 : Cond.methodLink RX9 210 yX5_bestFor ∈ am_TB := (t_in3 111 rfl rfl)
set_option maxRecDepth 4000 in
theorem lkX9_214 : Cond.methodLink RX9 214 yX9_tallyOf ∈ am_TB := (t_in3 127 rfl rfl)
set_option maxRecDepth 4000 in
theorem lkX9_221 : Cond.methodLink RX9 221 yX9_isRing ∈ am_TB := (t_in3 150 rfl rfl)
set_option maxRecDepth 4000 in
theorem lkX9_224 : Cond.methodLink RX9 224 yX9_isPart ∈ am_TB := (t_in3 151 rfl rfl)
set_option maxRecDepth 4000 in
theorem lkX9_231 : Cond.methodLink RX9 231 yX0_lowest ∈ am_TB := (t_in3 154 rfl rfl)
set_option maxRecDepth 4000 in
theorem lkX9_240 : Cond.methodLink RX9 240 yX2_cell ∈ am_TB := (t_in3 161 rfl rfl)
set_option maxRecDepth 4000 in
theorem lkX9_243 : Cond.methodLink RX9 243 yX4_greatest ∈ am_TB := (t_in3 166 rfl rfl)
set_option maxRecDepth 4000 in
theorem lkX9_246 : Cond.methodLink RX9 246 yX1_timesOf ∈ am_TB := (t_in3 198 rfl rfl)
set_option maxRecDepth 4000 in
theorem lkX9_253 : Cond.methodLink RX9 253 yX0_waysOf ∈ am_TB := (t_in3 208 rfl rfl)
set_option maxRecDepth 4000 in
theorem lkX9_257 : Cond.methodLink RX9 257 yX0_power ∈ am_TB := (t_in3 214 rfl rfl)
set_option maxRecDepth 4000 in
theorem lkX9_263 : Cond.methodLink RX9 263 yX1_copy ∈ am_TB := (t_in3 224 rfl rfl)
set_option maxRecDepth 4000 in
theorem lkX9_270 : Cond.methodLink RX9 270 yX8_make ∈ am_TB := (t_in3 131 rfl rfl)
set_option maxRecDepth 4000 in
theorem lkX0_7 : Cond.methodLink RX0 7 yX0_power ∈ am_TB := (t_in3 211 rfl rfl)
set_option maxRecDepth 4000 in
theorem lkX1_3 : Cond.methodLink RX1 3 objectInit ∈ am_TB := (t_in1 94 rfl rfl)
set_option maxRecDepth 4000 in
theorem lkX1_29 : Cond.methodLink RX1 29 arraycopyName ∈ am_TB := (t_in2 4 rfl rfl)
set_option maxRecDepth 4000 in
theorem lkX2_3 : Cond.methodLink RX2 3 objectInit ∈ am_TB := (t_in1 62 rfl rfl)
set_option maxRecDepth 4000 in
theorem lkX2_31 : Cond.methodLink RX2 31 yX2_open ∈ am_TB := (t_in2 175 rfl rfl)
set_option maxRecDepth 4000 in
theorem lkX2_35 : Cond.methodLink RX2 35 yX2_cell ∈ am_TB := (t_in2 15 rfl rfl)
set_option maxRecDepth 4000 in
theorem lkX2_42 : Cond.methodLink RX2 42 yX2_skillOf ∈ am_TB := (t_in3 69 rfl rfl)
set_option maxRecDepth 4000 in
theorem lkX2_45 : Cond.methodLink RX2 45 yX2_likingOf ∈ am_TB := (t_in3 18 rfl rfl)
set_option maxRecDepth 4000 in
theorem lkX3_13 : Cond.methodLink RX3 13 yJ6_bitCount_0f7a4 ∈ am_TB := (t_in3 59 rfl rfl)
set_option maxRecDepth 4000 in
theorem lkX4_3 : Cond.methodLink RX4 3 objectInit ∈ am_TB := (t_in1 216 rfl rfl)
set_option maxRecDepth 4000 in
theorem lkX4_40 : Cond.methodLink RX4 40 yX4_layRows ∈ am_TB := (t_in3 171 rfl rfl)
set_option maxRecDepth 4000 in
theorem lkX4_44 : Cond.methodLink RX4 44 yX4_mayComeBehind ∈ am_TB := (t_in3 178 rfl rfl)
set_option maxRecDepth 4000 in
theorem lkX4_48 : Cond.methodLink RX4 48 yX4_addDay ∈ am_TB := (t_in3 183 rfl rfl)
set_option maxRecDepth 4000 in
theorem lkX4_51 : Cond.methodLink RX4 51 yJ9_max_7cf53 ∈ am_TB := (t_in3 191 rfl rfl)
set_option maxRecDepth 4000 in
theorem lkX4_57 : Cond.methodLink RX4 57 yX3_fill ∈ am_TB := (t_in3 175 rfl rfl)
set_option maxRecDepth 4000 in
theorem lkX4_63 : Cond.methodLink RX4 63 yX2_skillOf ∈ am_TB := (t_in3 176 rfl rfl)
set_option maxRecDepth 4000 in
theorem lkX4_66 : Cond.methodLink RX4 66 yX2_workOf ∈ am_TB := (t_in3 177 rfl rfl)
set_option maxRecDepth 4000 in
theorem lkX4_70 : Cond.methodLink RX4 70 yX4_bestAhead ∈ am_TB := (t_in3 187 rfl rfl)
set_option maxRecDepth 4000 in
theorem lkX4_73 : Cond.methodLink RX4 73 yX2_mayFollow ∈ am_TB := (t_in3 182 rfl rfl)
set_option maxRecDepth 4000 in
theorem lkX5_3 : Cond.methodLink RX5 3 objectInit ∈ am_TB := (t_in1 121 rfl rfl)
set_option maxRecDepth 4000 in
theorem lkX5_28 : Cond.methodLink RX5 28 yX2_skillOf ∈ am_TB := (t_in2 11 rfl rfl)
set_option maxRecDepth 4000 in
theorem lkX5_32 : Cond.methodLink RX5 32 yX2_mayFollow ∈ am_TB := (t_in2 18 rfl rfl)
set_option maxRecDepth 4000 in
theorem lkX5_36 : Cond.methodLink RX5 36 yX5_mayDo ∈ am_TB := (t_in2 221 rfl rfl)
set_option maxRecDepth 4000 in
theorem lkX5_39 : Cond.methodLink RX5 39 yX2_likingOf ∈ am_TB := (t_in3 10 rfl rfl)
set_option maxRecDepth 4000 in
theorem lkX5_42 : Cond.methodLink RX5 42 yX5_wants ∈ am_TB := (t_in3 6 rfl rfl)
set_option maxRecDepth 4000 in
theorem lkX5_49 : Cond.methodLink RX5 49 yX5_findThird ∈ am_TB := (t_in3 31 rfl rfl)
set_option maxRecDepth 4000 in
theorem lkX5_53 : Cond.methodLink RX5 53 yX5_note ∈ am_TB := (t_in3 35 rfl rfl)
set_option maxRecDepth 4000 in
theorem lkX5_57 : Cond.methodLink RX5 57 yX5_pass ∈ am_TB := (t_in3 43 rfl rfl)
set_option maxRecDepth 4000 in
theorem lkX5_61 : Cond.methodLink RX5 61 yX5_find ∈ am_TB := (t_in3 27 rfl rfl)
set_option maxRecDepth 4000 in
theorem lkX5_65 : Cond.methodLink RX5 65 yX5_passFound ∈ am_TB := (t_in3 39 rfl rfl)
set_option maxRecDepth 4000 in
theorem lkX5_69 : Cond.methodLink RX5 69 yX5_giverTo ∈ am_TB := (t_in3 115 rfl rfl)
set_option maxRecDepth 4000 in
theorem lkX5_72 : Cond.methodLink RX5 72 yX5_isBetter ∈ am_TB := (t_in3 119 rfl rfl)
set_option maxRecDepth 4000 in
theorem lkX6_3 : Cond.methodLink RX6 3 objectInit ∈ am_TB := (t_in1 33 rfl rfl)
set_option maxRecDepth 4000 in
theorem lkX6_28 : Cond.methodLink RX6 28 yX6_readLine ∈ am_TB := (t_in2 74 rfl rfl)
set_option maxRecDepth 4000 in
theorem lkX6_35 : Cond.methodLink RX6 35 yX6_nextToken ∈ am_TB := (t_in2 78 rfl rfl)
set_option maxRecDepth 4000 in
theorem lkX6_38 : Cond.methodLink RX6 38 yX6_verbHere ∈ am_TB := (t_in2 88 rfl rfl)
set_option maxRecDepth 4000 in
theorem lkX6_42 : Cond.methodLink RX6 42 yX6_numbersOf ∈ am_TB := (t_in2 153 rfl rfl)
set_option maxRecDepth 4000 in
theorem lkX6_46 : Cond.methodLink RX6 46 yX6_numberHere ∈ am_TB := (t_in2 156 rfl rfl)
set_option maxRecDepth 4000 in
theorem lkX6_49 : Cond.methodLink RX6 49 yX6_fits ∈ am_TB := (t_in2 160 rfl rfl)
set_option maxRecDepth 4000 in
theorem lkX6_53 : Cond.methodLink RX6 53 yX6_isLetter ∈ am_TB := (t_in2 82 rfl rfl)
set_option maxRecDepth 4000 in
theorem lkX6_57 : Cond.methodLink RX6 57 yX6_isDigit ∈ am_TB := (t_in2 85 rfl rfl)
set_option maxRecDepth 4000 in
theorem lkX6_62 : Cond.methodLink RX6 62 yX6_spells ∈ am_TB := (t_in2 93 rfl rfl)
set_option maxRecDepth 4000 in
theorem lkX6_82 : Cond.methodLink RX6 82 yJ0_length_8abf5 ∈ am_TB := (t_in2 97 rfl rfl)
set_option maxRecDepth 4000 in
theorem lkX6_86 : Cond.methodLink RX6 86 yJ0_charAt_5068e ∈ am_TB := (t_in2 107 rfl rfl)
set_option maxRecDepth 4000 in
theorem lkX7_3 : Cond.methodLink RX7 3 objectInit ∈ am_TB := (t_in1 181 rfl rfl)
set_option maxRecDepth 4000 in
theorem lkX7_50 : Cond.methodLink RX7 50 yX3_numberOf ∈ am_TB := (t_in3 78 rfl rfl)
set_option maxRecDepth 4000 in
theorem lkX7_56 : Cond.methodLink RX7 56 yX7_reach ∈ am_TB := (t_in3 79 rfl rfl)
set_option maxRecDepth 4000 in
theorem lkX7_60 : Cond.methodLink RX7 60 yX7_takeWaiting ∈ am_TB := (t_in3 83 rfl rfl)
set_option maxRecDepth 4000 in
theorem lkX7_64 : Cond.methodLink RX7 64 yX7_lookAt ∈ am_TB := (t_in3 94 rfl rfl)
set_option maxRecDepth 4000 in
theorem lkX7_68 : Cond.methodLink RX7 68 yJ13_numberOfTrailingZeros_95d88 ∈ am_TB := (t_in3 87 rfl rfl)
set_option maxRecDepth 4000 in
theorem lkX7_74 : Cond.methodLink RX7 74 yX3_fill ∈ am_TB := (t_in3 98 rfl rfl)
set_option maxRecDepth 4000 in
theorem lkX7_78 : Cond.methodLink RX7 78 yX5_find ∈ am_TB := (t_in3 99 rfl rfl)
set_option maxRecDepth 4000 in
theorem lkX7_84 : Cond.methodLink RX7 84 yX7_addEnd ∈ am_TB := (t_in3 100 rfl rfl)
set_option maxRecDepth 4000 in
theorem lkX7_87 : Cond.methodLink RX7 87 arraycopyName ∈ am_TB := (t_in3 105 rfl rfl)
set_option maxRecDepth 4000 in
theorem lkX7_93 : Cond.methodLink RX7 93 yX5_passFound ∈ am_TB := (t_in3 106 rfl rfl)
set_option maxRecDepth 4000 in
theorem lkX7_97 : Cond.methodLink RX7 97 yX2_gladnessOf ∈ am_TB := (t_in3 104 rfl rfl)
set_option maxRecDepth 4000 in
theorem lkX8_3 : Cond.methodLink RX8 3 objectInit ∈ am_TB := (t_in1 145 rfl rfl)
set_option maxRecDepth 4000 in
theorem lkX8_49 : Cond.methodLink RX8 49 yX3_fill ∈ am_TB := (t_in3 136 rfl rfl)
set_option maxRecDepth 4000 in
theorem lkX8_55 : Cond.methodLink RX8 55 yX5_allMayDo ∈ am_TB := (t_in3 137 rfl rfl)
set_option maxRecDepth 4000 in
theorem lkX8_59 : Cond.methodLink RX8 59 yX5_passAll ∈ am_TB := (t_in3 138 rfl rfl)
set_option maxRecDepth 4000 in
theorem lkX8_63 : Cond.methodLink RX8 63 yX8_addRow ∈ am_TB := (t_in3 139 rfl rfl)
set_option maxRecDepth 4000 in
theorem lkX8_71 : Cond.methodLink RX8 71 yX2_workOf ∈ am_TB := (t_in3 143 rfl rfl)
set_option maxRecDepth 4000 in
theorem lkX8_75 : Cond.methodLink RX8 75 yX2_gladnessOf ∈ am_TB := (t_in3 144 rfl rfl)
set_option maxRecDepth 4000 in
theorem lkX8_78 : Cond.methodLink RX8 78 yX2_cell ∈ am_TB := (t_in3 145 rfl rfl)
set_option maxRecDepth 4000 in
theorem lkL_9 : Cond.methodLink RL 9 yX9_init ∈ am_TB := (t_in1 22 rfl rfl)
set_option maxRecDepth 4000 in
theorem lkL_12 : Cond.methodLink RL 12 yX10_init ∈ am_TB := (t_in3 238 rfl rfl)
set_option maxRecDepth 4000 in
theorem lkL_15 : Cond.methodLink RL 15 yX9_write ∈ am_TB := (t_in2 53 rfl rfl)
set_option maxRecDepth 4000 in
theorem lkL_19 : Cond.methodLink RL 19 yX10_write ∈ am_TB := (t_in4 98 rfl rfl)
set_option maxRecDepth 4000 in
theorem lkL_20 : Cond.methodLink RL 20 yX9_erase ∈ am_TB := (t_in2 62 rfl rfl)
set_option maxRecDepth 4000 in
theorem lkL_24 : Cond.methodLink RL 24 yX10_erase ∈ am_TB := (t_in4 106 rfl rfl)
set_option maxRecDepth 4000 in
theorem lkL_25 : Cond.methodLink RL 25 yX9_fault ∈ am_TB := (t_in2 66 rfl rfl)
set_option maxRecDepth 4000 in
theorem lkL_28 : Cond.methodLink RL 28 yX10_fault ∈ am_TB := (t_in4 110 rfl rfl)
set_option maxRecDepth 4000 in
theorem lkL_29 : Cond.methodLink RL 29 yX9_hall ∈ am_TB := (t_in2 167 rfl rfl)
set_option maxRecDepth 4000 in
theorem lkL_32 : Cond.methodLink RL 32 yX10_hall ∈ am_TB := (t_in4 161 rfl rfl)
set_option maxRecDepth 4000 in
theorem lkL_33 : Cond.methodLink RL 33 yX9_monk ∈ am_TB := (t_in2 180 rfl rfl)
set_option maxRecDepth 4000 in
theorem lkL_37 : Cond.methodLink RL 37 yX10_monk ∈ am_TB := (t_in4 169 rfl rfl)
set_option maxRecDepth 4000 in
theorem lkL_38 : Cond.methodLink RL 38 yX9_as ∈ am_TB := (t_in2 197 rfl rfl)
set_option maxRecDepth 4000 in
theorem lkL_42 : Cond.methodLink RL 42 yX10_as ∈ am_TB := (t_in4 185 rfl rfl)
set_option maxRecDepth 4000 in
theorem lkL_43 : Cond.methodLink RL 43 yX9_lay ∈ am_TB := (t_in2 207 rfl rfl)
set_option maxRecDepth 4000 in
theorem lkL_47 : Cond.methodLink RL 47 yX10_lay ∈ am_TB := (t_in4 189 rfl rfl)
set_option maxRecDepth 4000 in
theorem lkL_48 : Cond.methodLink RL 48 yX9_draw ∈ am_TB := (t_in2 226 rfl rfl)
set_option maxRecDepth 4000 in
theorem lkL_51 : Cond.methodLink RL 51 yX10_draw ∈ am_TB := (t_in4 208 rfl rfl)
set_option maxRecDepth 4000 in
theorem lkL_52 : Cond.methodLink RL 52 yX9_has ∈ am_TB := (t_in2 234 rfl rfl)
set_option maxRecDepth 4000 in
theorem lkL_55 : Cond.methodLink RL 55 yX10_has ∈ am_TB := (t_in4 213 rfl rfl)
set_option maxRecDepth 4000 in
theorem lkL_56 : Cond.methodLink RL 56 yX9_trade ∈ am_TB := (t_in2 238 rfl rfl)
set_option maxRecDepth 4000 in
theorem lkL_59 : Cond.methodLink RL 59 yX10_trade ∈ am_TB := (t_in4 217 rfl rfl)
set_option maxRecDepth 4000 in
theorem lkL_60 : Cond.methodLink RL 60 yX9_settle ∈ am_TB := (t_in3 19 rfl rfl)
set_option maxRecDepth 4000 in
theorem lkL_63 : Cond.methodLink RL 63 yX10_settle ∈ am_TB := (t_in5 1 rfl rfl)
set_option maxRecDepth 4000 in
theorem lkL_64 : Cond.methodLink RL 64 yX9_dawn ∈ am_TB := (t_in3 44 rfl rfl)
set_option maxRecDepth 4000 in
theorem lkL_67 : Cond.methodLink RL 67 yX10_dawn ∈ am_TB := (t_in5 17 rfl rfl)
set_option maxRecDepth 4000 in
theorem lkL_68 : Cond.methodLink RL 68 yX9_today ∈ am_TB := (t_in3 52 rfl rfl)
set_option maxRecDepth 4000 in
theorem lkL_71 : Cond.methodLink RL 71 yX10_today ∈ am_TB := (t_in5 21 rfl rfl)
set_option maxRecDepth 4000 in
theorem lkL_72 : Cond.methodLink RL 72 yX9_ends ∈ am_TB := (t_in3 70 rfl rfl)
set_option maxRecDepth 4000 in
theorem lkL_75 : Cond.methodLink RL 75 yX10_ends ∈ am_TB := (t_in5 33 rfl rfl)
set_option maxRecDepth 4000 in
theorem lkL_76 : Cond.methodLink RL 76 yX9_hint ∈ am_TB := (t_in3 107 rfl rfl)
set_option maxRecDepth 4000 in
theorem lkL_79 : Cond.methodLink RL 79 yX10_hint ∈ am_TB := (t_in5 37 rfl rfl)
set_option maxRecDepth 4000 in
theorem lkL_80 : Cond.methodLink RL 80 yX9_lawful ∈ am_TB := (t_in3 123 rfl rfl)
set_option maxRecDepth 4000 in
theorem lkL_83 : Cond.methodLink RL 83 yX10_lawful ∈ am_TB := (t_in5 41 rfl rfl)
set_option maxRecDepth 4000 in
theorem lkL_84 : Cond.methodLink RL 84 yX9_mean ∈ am_TB := (t_in3 146 rfl rfl)
set_option maxRecDepth 4000 in
theorem lkL_87 : Cond.methodLink RL 87 yX10_mean ∈ am_TB := (t_in5 45 rfl rfl)
set_option maxRecDepth 4000 in
theorem lkL_88 : Cond.methodLink RL 88 yX9_odds ∈ am_TB := (t_in3 157 rfl rfl)
set_option maxRecDepth 4000 in
theorem lkL_92 : Cond.methodLink RL 92 yX10_odds ∈ am_TB := (t_in5 55 rfl rfl)
set_option maxRecDepth 4000 in
theorem lkL_93 : Cond.methodLink RL 93 yX9_week ∈ am_TB := (t_in3 162 rfl rfl)
set_option maxRecDepth 4000 in
theorem lkL_96 : Cond.methodLink RL 96 yX10_week ∈ am_TB := (t_in5 59 rfl rfl)
set_option maxRecDepth 4000 in
theorem lkL_97 : Cond.methodLink RL 97 yX9_often ∈ am_TB := (t_in3 194 rfl rfl)
set_option maxRecDepth 4000 in
theorem lkL_100 : Cond.methodLink RL 100 yX10_often ∈ am_TB := (t_in5 67 rfl rfl)
set_option maxRecDepth 4000 in
theorem lkL_101 : Cond.methodLink RL 101 yX9_tail ∈ am_TB := (t_in3 202 rfl rfl)
set_option maxRecDepth 4000 in
theorem lkL_105 : Cond.methodLink RL 105 yX10_tail ∈ am_TB := (t_in5 75 rfl rfl)
set_option maxRecDepth 4000 in
theorem lkL_106 : Cond.methodLink RL 106 yX9_named ∈ am_TB := (t_in3 215 rfl rfl)
set_option maxRecDepth 4000 in
theorem lkL_109 : Cond.methodLink RL 109 yX10_named ∈ am_TB := (t_in5 87 rfl rfl)
set_option maxRecDepth 4000 in
theorem lkL_110 : Cond.methodLink RL 110 yX9_keep ∈ am_TB := (t_in3 220 rfl rfl)
set_option maxRecDepth 4000 in
theorem lkL_113 : Cond.methodLink RL 113 yX10_keep ∈ am_TB := (t_in5 92 rfl rfl)
set_option maxRecDepth 4000 in
theorem lkL_114 : Cond.methodLink RL 114 yX9_back ∈ am_TB := (t_in3 228 rfl rfl)
set_option maxRecDepth 4000 in
theorem lkL_117 : Cond.methodLink RL 117 yX10_back ∈ am_TB := (t_in5 99 rfl rfl)
set_option maxRecDepth 4000 in
theorem lkL_118 : Cond.methodLink RL 118 yX9_count ∈ am_TB := (t_in3 232 rfl rfl)
set_option maxRecDepth 4000 in
theorem lkL_121 : Cond.methodLink RL 121 yX10_count ∈ am_TB := (t_in5 103 rfl rfl)
set_option maxRecDepth 4000 in
theorem lkX10_1 : Cond.methodLink RX10 1 objectInit ∈ am_TB := (t_in4 1 rfl rfl)
set_option maxRecDepth 4000 in
theorem lkX10_63 : Cond.methodLink RX10 63 yX10_plain ∈ am_TB := (t_in4 2 rfl rfl)
set_option maxRecDepth 4000 in
theorem lkX10_66 : Cond.methodLink RX10 66 yX10_begin ∈ am_TB := (t_in4 6 rfl rfl)
set_option maxRecDepth 4000 in
theorem lkX10_69 : Cond.methodLink RX10 69 yX10_in ∈ am_TB := (t_in4 102 rfl rfl)
set_option maxRecDepth 4000 in
theorem lkX10_109 : Cond.methodLink RX10 109 yX10_nextToken ∈ am_TB := (t_in4 122 rfl rfl)
set_option maxRecDepth 4000 in
theorem lkX10_112 : Cond.methodLink RX10 112 yX10_fails ∈ am_TB := (t_in4 149 rfl rfl)
set_option maxRecDepth 4000 in
theorem lkX10_119 : Cond.methodLink RX10 119 yX10_isNumber ∈ am_TB := (t_in4 145 rfl rfl)
set_option maxRecDepth 4000 in
theorem lkX10_140 : Cond.methodLink RX10 140 yX10_isHall ∈ am_TB := (t_in4 141 rfl rfl)
set_option maxRecDepth 4000 in
theorem lkX10_144 : Cond.methodLink RX10 144 yX10_isThere ∈ am_TB := (t_in4 153 rfl rfl)
set_option maxRecDepth 4000 in
theorem lkX10_147 : Cond.methodLink RX10 147 yX10_isRing ∈ am_TB := (t_in4 157 rfl rfl)
set_option maxRecDepth 4000 in
theorem lkX10_153 : Cond.methodLink RX10 153 yX10_isLine ∈ am_TB := (t_in4 118 rfl rfl)
set_option maxRecDepth 4000 in
theorem lkX10_156 : Cond.methodLink RX10 156 yX10_isRead ∈ am_TB := (t_in4 114 rfl rfl)
set_option maxRecDepth 4000 in
theorem lkX10_159 : Cond.methodLink RX10 159 yX10_doLine ∈ am_TB := (t_in4 165 rfl rfl)
set_option maxRecDepth 4000 in
theorem lkX10_163 : Cond.methodLink RX10 163 yX10_mayBehind ∈ am_TB := (t_in4 181 rfl rfl)
set_option maxRecDepth 4000 in
theorem lkX10_166 : Cond.methodLink RX10 166 yX10_isMonk ∈ am_TB := (t_in4 173 rfl rfl)
set_option maxRecDepth 4000 in
theorem lkX10_169 : Cond.methodLink RX10 169 yX10_may ∈ am_TB := (t_in4 177 rfl rfl)
set_option maxRecDepth 4000 in
theorem lkX10_173 : Cond.methodLink RX10 173 yX10_draws ∈ am_TB := (t_in4 193 rfl rfl)
set_option maxRecDepth 4000 in
theorem lkX10_177 : Cond.methodLink RX10 177 yX10_takeDraw ∈ am_TB := (t_in4 196 rfl rfl)
set_option maxRecDepth 4000 in
theorem lkX10_180 : Cond.methodLink RX10 180 yX10_isLawful ∈ am_TB := (t_in4 200 rfl rfl)
set_option maxRecDepth 4000 in
theorem lkX10_183 : Cond.methodLink RX10 183 yX10_putToday ∈ am_TB := (t_in4 204 rfl rfl)
set_option maxRecDepth 4000 in
theorem lkX10_187 : Cond.methodLink RX10 187 yX10_likesMore ∈ am_TB := (t_in4 229 rfl rfl)
set_option maxRecDepth 4000 in
theorem lkX10_190 : Cond.methodLink RX10 190 yX10_takeToday ∈ am_TB := (t_in4 221 rfl rfl)
set_option maxRecDepth 4000 in
theorem lkX10_193 : Cond.methodLink RX10 193 yX10_isWanted ∈ am_TB := (t_in4 225 rfl rfl)
set_option maxRecDepth 4000 in
theorem lkX10_196 : Cond.methodLink RX10 196 yX10_goRing ∈ am_TB := (t_in4 233 rfl rfl)
set_option maxRecDepth 4000 in
theorem lkX10_200 : Cond.methodLink RX10 200 yX10_gladnessOf ∈ am_TB := (t_in4 237 rfl rfl)
set_option maxRecDepth 4000 in
theorem lkX10_213 : Cond.methodLink RX10 213 yX10_takeRing ∈ am_TB := (t_in5 13 rfl rfl)
set_option maxRecDepth 4000 in
theorem lkX10_217 : Cond.methodLink RX10 217 yX10_nextWanted ∈ am_TB := (t_in5 9 rfl rfl)
set_option maxRecDepth 4000 in
theorem lkX10_221 : Cond.methodLink RX10 221 yX10_settleBy ∈ am_TB := (t_in5 5 rfl rfl)
set_option maxRecDepth 4000 in
theorem lkX10_224 : Cond.methodLink RX10 224 yX10_numberOf ∈ am_TB := (t_in5 25 rfl rfl)
set_option maxRecDepth 4000 in
theorem lkX10_227 : Cond.methodLink RX10 227 yX10_workOf ∈ am_TB := (t_in5 29 rfl rfl)
set_option maxRecDepth 4000 in
theorem lkX10_230 : Cond.methodLink RX10 230 yX10_isRingNumber ∈ am_TB := (t_in5 49 rfl rfl)
set_option maxRecDepth 4000 in
theorem lkX10_233 : Cond.methodLink RX10 233 yX10_divisor ∈ am_TB := (t_in5 52 rfl rfl)
set_option maxRecDepth 4000 in
theorem lkX10_236 : Cond.methodLink RX10 236 yX10_isLawfulBehind ∈ am_TB := (t_in5 63 rfl rfl)
set_option maxRecDepth 4000 in
theorem lkX10_239 : Cond.methodLink RX10 239 yX10_oftenOf ∈ am_TB := (t_in5 71 rfl rfl)
set_option maxRecDepth 4000 in
theorem lkX10_242 : Cond.methodLink RX10 242 yX10_tailUp ∈ am_TB := (t_in5 79 rfl rfl)
set_option maxRecDepth 4000 in
theorem lkX10_246 : Cond.methodLink RX10 246 yX10_tailDown ∈ am_TB := (t_in5 83 rfl rfl)
set_option maxRecDepth 4000 in
theorem lkX10_252 : Cond.methodLink RX10 252 yX10_copy ∈ am_TB := (t_in5 96 rfl rfl)
set_option maxRecDepth 4000 in
theorem lkJ13_311 : Cond.methodLink RJ13 311 yJ6_numberOfTrailingZeros_0f7a4 ∈ am_TB := (t_in3 90 rfl rfl)
set_option maxRecDepth 4000 in
theorem lkJ0_335 : Cond.methodLink RJ0 335 yJ0_coder_7d493 ∈ am_TB := (t_in2 101 rfl rfl)
set_option maxRecDepth 4000 in
theorem lkJ0_492 : Cond.methodLink RJ0 492 yJ0_isLatin1_aae02 ∈ am_TB := (t_in2 111 rfl rfl)
set_option maxRecDepth 4000 in
theorem lkJ0_495 : Cond.methodLink RJ0 495 yJ1_charAt_3b067 ∈ am_TB := (t_in2 115 rfl rfl)
set_option maxRecDepth 4000 in
theorem lkJ0_498 : Cond.methodLink RJ0 498 yJ2_charAt_3b067 ∈ am_TB := (t_in2 126 rfl rfl)
set_option maxRecDepth 4000 in
theorem lkJ0_1059 : Cond.methodLink RJ0 1059 yJ3_checkIndex_8e157 ∈ am_TB := (t_in2 123 rfl rfl)
set_option maxRecDepth 4000 in
theorem lkJ1_9 : Cond.methodLink RJ1 9 yJ0_checkIndex_df160 ∈ am_TB := (t_in2 118 rfl rfl)
set_option maxRecDepth 4000 in
theorem lkJ2_48 : Cond.methodLink RJ2 48 yJ2_length_9d52b ∈ am_TB := (t_in2 132 rfl rfl)
set_option maxRecDepth 4000 in
theorem lkJ2_67 : Cond.methodLink RJ2 67 yJ2_checkIndex_2214a ∈ am_TB := (t_in2 129 rfl rfl)
set_option maxRecDepth 4000 in
theorem lkJ2_71 : Cond.methodLink RJ2 71 yJ2_getChar_3b067 ∈ am_TB := (t_in2 136 rfl rfl)
set_option maxRecDepth 4000 in
theorem lkJ2_414 : Cond.methodLink RJ2 414 yJ0_checkIndex_df160 ∈ am_TB := (t_in2 135 rfl rfl)
set_option maxRecDepth 4000 in
theorem kcX3_19 : Cond.constant RX3 19 (65521) ∈ am_TB := (t_in2 233 rfl rfl)
set_option maxRecDepth 4000 in
theorem kcX10_186 : Cond.constant RX10 186 (65521) ∈ am_TB := (t_in4 212 rfl rfl)
set_option maxRecDepth 4000 in
theorem kcJ6_264 : Cond.constant RJ6 264 (65536) ∈ am_TB := (t_in3 93 rfl rfl)
set_option maxRecDepth 4000 in
theorem kcJ6_265 : Cond.constant RJ6 265 (1431655765) ∈ am_TB := (t_in3 62 rfl rfl)
set_option maxRecDepth 4000 in
theorem kcJ6_266 : Cond.constant RJ6 266 (858993459) ∈ am_TB := (t_in3 63 rfl rfl)
set_option maxRecDepth 4000 in
theorem kcJ6_267 : Cond.constant RJ6 267 (252645135) ∈ am_TB := (t_in3 64 rfl rfl)
set_option maxRecDepth 4000 in
theorem kcX9_97 : Cond.constantLong RX9 97 (255) ∈ am_TB := (t_in2 57 rfl rfl)
set_option maxRecDepth 4000 in
theorem kcX9_249 : Cond.constantLong RX9 249 (-2) ∈ am_TB := (t_in3 206 rfl rfl)
set_option maxRecDepth 4000 in
theorem kcX9_251 : Cond.constantLong RX9 251 (-3) ∈ am_TB := (t_in3 207 rfl rfl)
set_option maxRecDepth 4000 in
theorem kcX9_261 : Cond.constantLong RX9 261 (1000) ∈ am_TB := (t_in3 219 rfl rfl)
set_option maxRecDepth 4000 in
theorem kcL_13 : Cond.constantLong RL 13 (4294967295) ∈ am_TB := (t_in5 107 rfl rfl)
set_option maxRecDepth 4000 in
theorem kcX10_76 : Cond.constantLong RX10 76 (255) ∈ am_TB := (t_in4 105 rfl rfl)
set_option maxRecDepth 4000 in
theorem kcX10_90 : Cond.constantLong RX10 90 (-2) ∈ am_TB := (t_in4 126 rfl rfl)
set_option maxRecDepth 4000 in
theorem kcX10_96 : Cond.constantLong RX10 96 (27) ∈ am_TB := (t_in4 127 rfl rfl)
set_option maxRecDepth 4000 in
theorem kcX10_98 : Cond.constantLong RX10 98 (96) ∈ am_TB := (t_in4 128 rfl rfl)
set_option maxRecDepth 4000 in
theorem kcX10_100 : Cond.constantLong RX10 100 (-4) ∈ am_TB := (t_in4 129 rfl rfl)
set_option maxRecDepth 4000 in
theorem kcX10_102 : Cond.constantLong RX10 102 (-1) ∈ am_TB := (t_in4 130 rfl rfl)
set_option maxRecDepth 4000 in
theorem kcX10_104 : Cond.constantLong RX10 104 (-3) ∈ am_TB := (t_in4 131 rfl rfl)
set_option maxRecDepth 4000 in
theorem kcX10_122 : Cond.constantLong RX10 122 (158529) ∈ am_TB := (t_in4 132 rfl rfl)
set_option maxRecDepth 4000 in
theorem kcX10_124 : Cond.constantLong RX10 124 (10320789) ∈ am_TB := (t_in4 133 rfl rfl)
set_option maxRecDepth 4000 in
theorem kcX10_126 : Cond.constantLong RX10 126 (243059) ∈ am_TB := (t_in4 134 rfl rfl)
set_option maxRecDepth 4000 in
theorem kcX10_128 : Cond.constantLong RX10 128 (3163) ∈ am_TB := (t_in4 135 rfl rfl)
set_option maxRecDepth 4000 in
theorem kcX10_130 : Cond.constantLong RX10 130 (361240) ∈ am_TB := (t_in4 136 rfl rfl)
set_option maxRecDepth 4000 in
theorem kcX10_132 : Cond.constantLong RX10 132 (8740238) ∈ am_TB := (t_in4 137 rfl rfl)
set_option maxRecDepth 4000 in
theorem kcX10_134 : Cond.constantLong RX10 134 (292122349) ∈ am_TB := (t_in4 138 rfl rfl)
set_option maxRecDepth 4000 in
theorem kcX10_136 : Cond.constantLong RX10 136 (168748) ∈ am_TB := (t_in4 139 rfl rfl)
set_option maxRecDepth 4000 in
theorem kcX10_138 : Cond.constantLong RX10 138 (10553888) ∈ am_TB := (t_in4 140 rfl rfl)
set_option maxRecDepth 4000 in
theorem kcX10_250 : Cond.constantLong RX10 250 (1000) ∈ am_TB := (t_in5 91 rfl rfl)
set_option maxRecDepth 4000 in
theorem klX9_7 : Cond.classLink RX9 7 RX6 ∈ am_TB := (t_in1 28 rfl rfl)
set_option maxRecDepth 4000 in
theorem klX9_16 : Cond.classLink RX9 16 RX2 ∈ am_TB := (t_in1 57 rfl rfl)
set_option maxRecDepth 4000 in
theorem klX9_23 : Cond.classLink RX9 23 RX1 ∈ am_TB := (t_in1 89 rfl rfl)
set_option maxRecDepth 4000 in
theorem klX9_38 : Cond.classLink RX9 38 RX5 ∈ am_TB := (t_in1 116 rfl rfl)
set_option maxRecDepth 4000 in
theorem klX9_47 : Cond.classLink RX9 47 RX8 ∈ am_TB := (t_in1 139 rfl rfl)
set_option maxRecDepth 4000 in
theorem klX9_56 : Cond.classLink RX9 56 RX7 ∈ am_TB := (t_in1 176 rfl rfl)
set_option maxRecDepth 4000 in
theorem klX9_65 : Cond.classLink RX9 65 RX4 ∈ am_TB := (t_in1 211 rfl rfl)
set_option maxRecDepth 4000 in
theorem klL_7 : Cond.classLink RL 7 RX9 ∈ am_TB := (t_in1 20 rfl rfl)
set_option maxRecDepth 4000 in
theorem klL_10 : Cond.classLink RL 10 RX10 ∈ am_TB := (t_in3 236 rfl rfl)
set_option maxRecDepth 4000 in
theorem kn_copy : Cond.native arraycopyName ∈ am_TB ∧ Cond.static arraycopyName ∈ am_TB ∧ Cond.initialized "java/lang/System" ∈ am_TB := ⟨by decide +kernel, by decide +kernel, by decide +kernel⟩
set_option maxRecDepth 4000 in
theorem kn_obj : Cond.instanceMethod objectInit ∈ am_TB ∧ Cond.code objectInit ⟨#[0xb1]⟩ 1 none ∈ am_TB := ⟨by decide +kernel, by decide +kernel⟩
set_option maxRecDepth 4000 in
theorem kn_arr : Cond.arrayClass .int ∈ am_TB ∧ Cond.arrayClass .long ∈ am_TB ∧ Cond.arrayClass .boolean ∈ am_TB := ⟨by decide +kernel, by decide +kernel, by decide +kernel⟩
set_option maxRecDepth 4000 in
theorem kn_ini : ∀ ci, ci < 9 → Cond.initialized (am_cn ci) ∈ am_TB := by decide +kernel

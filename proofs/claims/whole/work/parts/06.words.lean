theorem jmem {i : Nat} {w : Cond} (h : tables_1[i]? = some w) (hg : goodWord w = true) : w ∈ jws := List.mem_filter.mpr ⟨List.mem_append_right _ (List.mem_of_getElem? h), hg⟩
theorem jmemS {i : Nat} {q : MethodName × Nat} (h : lw_privs[i]? = some q) (hg : goodWord (Cond.selects q.1.cls q.1 q.1) = true) : Cond.selects q.1.cls q.1 q.1 ∈ jws := List.mem_filter.mpr ⟨List.mem_append_left _ (List.mem_map.mpr ⟨q, List.mem_of_getElem? h, rfl⟩), hg⟩
theorem jin_ws {ws : List Cond} (h : ∀ w ∈ ws, w ∈ lw_tbl) (hg : ∀ w ∈ ws, goodWord w = true) : ∀ w ∈ ws, w ∈ jws := fun w hw => List.mem_filter.mpr ⟨h w hw, hg w hw⟩

theorem ct_X0 : jct 0 RX0 TX0 2 tyX0 := ⟨rfl, tyX0_ok, nmX0, jin_ws (by decide +kernel) (by decide +kernel)⟩
theorem ct_X1 : jct 1 RX1 TX1 5 tyX1 := ⟨rfl, tyX1_ok, nmX1, jin_ws (by decide +kernel) (by decide +kernel)⟩
theorem ct_X2 : jct 2 RX2 TX2 5 tyX2 := ⟨rfl, tyX2_ok, nmX2, jin_ws (by decide +kernel) (by decide +kernel)⟩
theorem ct_X3 : jct 3 RX3 TX3 14 tyX3 := ⟨rfl, tyX3_ok, nmX3, jin_ws (by decide +kernel) (by decide +kernel)⟩
theorem ct_X4 : jct 4 RX4 TX4 5 tyX4 := ⟨rfl, tyX4_ok, nmX4, jin_ws (by decide +kernel) (by decide +kernel)⟩
theorem ct_X5 : jct 5 RX5 TX5 2 tyX5 := ⟨rfl, tyX5_ok, nmX5, jin_ws (by decide +kernel) (by decide +kernel)⟩
theorem ct_X6 : jct 6 RX6 TX6 7 tyX6 := ⟨rfl, tyX6_ok, nmX6, jin_ws (by decide +kernel) (by decide +kernel)⟩
theorem ct_X7 : jct 7 RX7 TX7 2 tyX7 := ⟨rfl, tyX7_ok, nmX7, jin_ws (by decide +kernel) (by decide +kernel)⟩
theorem ct_X8 : jct 8 RX8 TX8 3 tyX8 := ⟨rfl, tyX8_ok, nmX8, jin_ws (by decide +kernel) (by decide +kernel)⟩
theorem ct_X9 : jct 9 RX9 TX9 3 tyX9 := ⟨rfl, tyX9_ok, nmX9, jin_ws (by decide +kernel) (by decide +kernel)⟩
theorem ct_X10 : jct 10 RX10 TX10 10 tyX10 := ⟨rfl, tyX10_ok, nmX10, jin_ws (by decide +kernel) (by decide +kernel)⟩
theorem ct_X11 : jct 11 RX11 TX11 25 tyX11 := ⟨rfl, tyX11_ok, nmX11, jin_ws (by decide +kernel) (by decide +kernel)⟩
abbrev mX0_init : jM := (RX0, yX0_init, cX0_init, 1, none, { frames := 1, cells := 1, slots := 16, locals := 20 })
abbrev mX0_put : jM := (RX0, yX0_put, cX0_put, 3, none, { frames := 1, cells := 0, slots := 0, locals := 24 })
abbrev mX0_copy : jM := (RX0, yX0_copy, cX0_copy, 2, none, { frames := 1, cells := 0, slots := 0, locals := 40 })
abbrev mX0_carryOn : jM := (RX0, yX0_carryOn, cX0_carryOn, 5, none, { frames := 0, cells := 0, slots := 0, locals := 0 })
abbrev mX0_multiply : jM := (RX0, yX0_multiply, cX0_multiply, 6, none, { frames := 1, cells := 0, slots := 0, locals := 24 })
abbrev mX0_add : jM := (RX0, yX0_add, cX0_add, 5, none, { frames := 1, cells := 0, slots := 0, locals := 24 })
abbrev mX0_restOf : jM := (RX0, yX0_restOf, cX0_restOf, 5, some .int, { frames := 0, cells := 0, slots := 0, locals := 0 })
abbrev mX0_divide : jM := (RX0, yX0_divide, cX0_divide, 5, none, { frames := 0, cells := 0, slots := 0, locals := 0 })
abbrev mX0_isAbove : jM := (RX0, yX0_isAbove, cX0_isAbove, 3, some .boolean, { frames := 0, cells := 0, slots := 0, locals := 0 })
abbrev mX1_init : jM := (RX1, yX1_init, cX1_init, 5, none, { frames := 2, cells := 11, slots := 94, locals := 40 })
abbrev mX1_wordsFor : jM := (RX1, yX1_wordsFor, cX1_wordsFor, 4, some .int, { frames := 0, cells := 0, slots := 0, locals := 0 })
abbrev mX1_takeFor : jM := (RX1, yX1_takeFor, cX1_takeFor, 3, none, { frames := 5, cells := 0, slots := 0, locals := 119 })
abbrev mX1_takeLetter : jM := (RX1, yX1_takeLetter, cX1_takeLetter, 5, none, { frames := 4, cells := 0, slots := 0, locals := 95 })
abbrev mX1_factorOf : jM := (RX1, yX1_factorOf, cX1_factorOf, 7, some .long, { frames := 3, cells := 0, slots := 0, locals := 69 })
abbrev mX1_greatest : jM := (RX1, yX1_greatest, cX1_greatest, 3, some .int, { frames := 1, cells := 0, slots := 0, locals := 22 })
abbrev mX2_init : jM := (RX2, yX2_init, cX2_init, 2, none, { frames := 1, cells := 3, slots := 76, locals := 20 })
abbrev mX2_waysOf : jM := (RX2, yX2_waysOf, cX2_waysOf, 3, some .int, { frames := 2, cells := 0, slots := 0, locals := 48 })
abbrev mX2_waysBehind : jM := (RX2, yX2_waysBehind, cX2_waysBehind, 5, some .int, { frames := 1, cells := 0, slots := 0, locals := 24 })
abbrev mX2_canRead : jM := (RX2, yX2_canRead, cX2_canRead, 5, some .boolean, { frames := 0, cells := 0, slots := 0, locals := 0 })
abbrev mX2_readerInFirst : jM := (RX2, yX2_readerInFirst, cX2_readerInFirst, 5, some .int, { frames := 2, cells := 0, slots := 0, locals := 47 })
abbrev mX2_firstReader : jM := (RX2, yX2_firstReader, cX2_firstReader, 4, some .int, { frames := 1, cells := 0, slots := 0, locals := 24 })
abbrev mX3_init : jM := (RX3, yX3_init, cX3_init, 1, none, { frames := 1, cells := 40, slots := 428, locals := 20 })
abbrev mX3_addWord : jM := (RX3, yX3_addWord, cX3_addWord, 3, some .int, { frames := 0, cells := 0, slots := 0, locals := 0 })
abbrev mX3_addHand : jM := (RX3, yX3_addHand, cX3_addHand, 2, some .int, { frames := 0, cells := 0, slots := 0, locals := 0 })
abbrev mX3_addPupil : jM := (RX3, yX3_addPupil, cX3_addPupil, 3, some .int, { frames := 0, cells := 0, slots := 0, locals := 0 })
abbrev mX3_addLetter : jM := (RX3, yX3_addLetter, cX3_addLetter, 4, some .int, { frames := 0, cells := 0, slots := 0, locals := 0 })
abbrev mX3_addToLetter : jM := (RX3, yX3_addToLetter, cX3_addToLetter, 3, some .int, { frames := 0, cells := 0, slots := 0, locals := 0 })
abbrev mX3_lettersOn : jM := (RX3, yX3_lettersOn, cX3_lettersOn, 5, some .int, { frames := 1, cells := 0, slots := 0, locals := 24 })
abbrev mX3_lettersWith : jM := (RX3, yX3_lettersWith, cX3_lettersWith, 6, some .int, { frames := 1, cells := 0, slots := 0, locals := 24 })
abbrev mX3_isOn : jM := (RX3, yX3_isOn, cX3_isOn, 5, some .boolean, { frames := 0, cells := 0, slots := 0, locals := 0 })
abbrev mX3_holds : jM := (RX3, yX3_holds, cX3_holds, 4, some .boolean, { frames := 0, cells := 0, slots := 0, locals := 0 })
abbrev mX3_digestInto : jM := (RX3, yX3_digestInto, cX3_digestInto, 6, some .long, { frames := 1, cells := 0, slots := 0, locals := 26 })
abbrev mX4_init : jM := (RX4, yX4_init, cX4_init, 2, none, { frames := 1, cells := 13, slots := 296, locals := 20 })
abbrev mX4_add : jM := (RX4, yX4_add, cX4_add, 6, some .int, { frames := 0, cells := 0, slots := 0, locals := 0 })
abbrev mX4_guessedRight : jM := (RX4, yX4_guessedRight, cX4_guessedRight, 9, some .long, { frames := 1, cells := 0, slots := 0, locals := 24 })
abbrev mX4_ask : jM := (RX4, yX4_ask, cX4_ask, 5, none, { frames := 0, cells := 0, slots := 0, locals := 0 })
abbrev mX4_allGuesses : jM := (RX4, yX4_allGuesses, cX4_allGuesses, 5, some .long, { frames := 1, cells := 0, slots := 0, locals := 23 })
abbrev mX4_hundreds : jM := (RX4, yX4_hundreds, cX4_hundreds, 4, some .long, { frames := 0, cells := 0, slots := 0, locals := 0 })
abbrev mX4_minutesOf : jM := (RX4, yX4_minutesOf, cX4_minutesOf, 4, some .int, { frames := 0, cells := 0, slots := 0, locals := 0 })
abbrev mX4_bestWithin : jM := (RX4, yX4_bestWithin, cX4_bestWithin, 10, some .int, { frames := 2, cells := 0, slots := 0, locals := 52 })
abbrev mX4_digestInto : jM := (RX4, yX4_digestInto, cX4_digestInto, 6, some .long, { frames := 1, cells := 0, slots := 0, locals := 26 })
abbrev mX5_init : jM := (RX5, yX5_init, cX5_init, 1, none, { frames := 2, cells := 4, slots := 36, locals := 46 })
abbrev mX5_put : jM := (RX5, yX5_put, cX5_put, 7, none, { frames := 2, cells := 0, slots := 0, locals := 46 })
abbrev mX5_commonOf : jM := (RX5, yX5_commonOf, cX5_commonOf, 11, some .long, { frames := 0, cells := 0, slots := 0, locals := 0 })
abbrev mX5_putBig : jM := (RX5, yX5_putBig, cX5_putBig, 6, none, { frames := 2, cells := 0, slots := 0, locals := 61 })
abbrev mX6_init : jM := (RX6, yX6_init, cX6_init, 1, none, { frames := 1, cells := 22, slots := 2504, locals := 20 })
abbrev mX6_add : jM := (RX6, yX6_add, cX6_add, 4, some .int, { frames := 0, cells := 0, slots := 0, locals := 0 })
abbrev mX6_fewestAgainst : jM := (RX6, yX6_fewestAgainst, cX6_fewestAgainst, 7, some .int, { frames := 2, cells := 0, slots := 0, locals := 45 })
abbrev mX6_takeAhead : jM := (RX6, yX6_takeAhead, cX6_takeAhead, 5, none, { frames := 1, cells := 0, slots := 0, locals := 21 })
abbrev mX6_againstFirst : jM := (RX6, yX6_againstFirst, cX6_againstFirst, 4, some .int, { frames := 0, cells := 0, slots := 0, locals := 0 })
abbrev mX6_pupilInPlace : jM := (RX6, yX6_pupilInPlace, cX6_pupilInPlace, 6, some .int, { frames := 2, cells := 0, slots := 0, locals := 46 })
abbrev mX6_firstOf : jM := (RX6, yX6_firstOf, cX6_firstOf, 4, some .int, { frames := 1, cells := 0, slots := 0, locals := 23 })
abbrev mX6_digestInto : jM := (RX6, yX6_digestInto, cX6_digestInto, 6, some .long, { frames := 0, cells := 0, slots := 0, locals := 0 })
abbrev mX7_init : jM := (RX7, yX7_init, cX7_init, 2, none, { frames := 1, cells := 10, slots := 90, locals := 20 })
abbrev mX7_longestRun : jM := (RX7, yX7_longestRun, cX7_longestRun, 7, some .int, { frames := 1, cells := 0, slots := 0, locals := 21 })
abbrev mX7_mostInOrder : jM := (RX7, yX7_mostInOrder, cX7_mostInOrder, 6, some .int, { frames := 1, cells := 0, slots := 0, locals := 21 })
abbrev mX7_leftFrom : jM := (RX7, yX7_leftFrom, cX7_leftFrom, 8, some .int, { frames := 2, cells := 0, slots := 0, locals := 47 })
abbrev mX8_init : jM := (RX8, yX8_init, cX8_init, 2, none, { frames := 1, cells := 26, slots := 240, locals := 20 })
abbrev mX8_takeAllBut : jM := (RX8, yX8_takeAllBut, cX8_takeAllBut, 5, none, { frames := 1, cells := 0, slots := 0, locals := 23 })
abbrev mX8_takeLetter : jM := (RX8, yX8_takeLetter, cX8_takeLetter, 4, none, { frames := 0, cells := 0, slots := 0, locals := 0 })
abbrev mX8_rowOf : jM := (RX8, yX8_rowOf, cX8_rowOf, 2, some .int, { frames := 0, cells := 0, slots := 0, locals := 0 })
abbrev mX8_usesOf : jM := (RX8, yX8_usesOf, cX8_usesOf, 6, some .int, { frames := 1, cells := 0, slots := 0, locals := 21 })
abbrev mX8_usesOfAll : jM := (RX8, yX8_usesOfAll, cX8_usesOfAll, 5, some .int, { frames := 1, cells := 0, slots := 0, locals := 21 })
abbrev mX8_meantAbove : jM := (RX8, yX8_meantAbove, cX8_meantAbove, 4, some .long, { frames := 2, cells := 0, slots := 0, locals := 46 })
abbrev mX8_meantBelow : jM := (RX8, yX8_meantBelow, cX8_meantBelow, 3, some .long, { frames := 2, cells := 0, slots := 0, locals := 45 })
abbrev mX9_init : jM := (RX9, yX9_init, cX9_init, 2, none, { frames := 1, cells := 2, slots := 20, locals := 20 })
abbrev mX9_take : jM := (RX9, yX9_take, cX9_take, 6, none, { frames := 1, cells := 0, slots := 0, locals := 23 })
abbrev mX9_takeLetter : jM := (RX9, yX9_takeLetter, cX9_takeLetter, 4, none, { frames := 0, cells := 0, slots := 0, locals := 0 })
abbrev mX9_wordsUpTo : jM := (RX9, yX9_wordsUpTo, cX9_wordsUpTo, 5, some .int, { frames := 0, cells := 0, slots := 0, locals := 0 })
abbrev mX9_sumOfRanks : jM := (RX9, yX9_sumOfRanks, cX9_sumOfRanks, 4, some .int, { frames := 0, cells := 0, slots := 0, locals := 0 })
abbrev mX9_rankInSecond : jM := (RX9, yX9_rankInSecond, cX9_rankInSecond, 6, some .int, { frames := 1, cells := 0, slots := 0, locals := 24 })
abbrev mX10_init : jM := (RX10, yX10_init, cX10_init, 1, none, { frames := 3, cells := 141, slots := 3834, locals := 66 })
abbrev mX10_word : jM := (RX10, yX10_word, cX10_word, 3, some .int, { frames := 2, cells := 0, slots := 0, locals := 42 })
abbrev mX10_hand : jM := (RX10, yX10_hand, cX10_hand, 2, some .int, { frames := 2, cells := 0, slots := 0, locals := 43 })
abbrev mX10_pupil : jM := (RX10, yX10_pupil, cX10_pupil, 3, some .int, { frames := 1, cells := 0, slots := 0, locals := 22 })
abbrev mX10_became : jM := (RX10, yX10_became, cX10_became, 4, some .int, { frames := 2, cells := 0, slots := 0, locals := 43 })
abbrev mX10_letter : jM := (RX10, yX10_letter, cX10_letter, 4, some .int, { frames := 2, cells := 0, slots := 0, locals := 43 })
abbrev mX10_write : jM := (RX10, yX10_write, cX10_write, 3, some .int, { frames := 2, cells := 0, slots := 0, locals := 43 })
abbrev mX10_weight : jM := (RX10, yX10_weight, cX10_weight, 4, some .int, { frames := 2, cells := 0, slots := 0, locals := 42 })
abbrev mX10_uses : jM := (RX10, yX10_uses, cX10_uses, 4, some .int, { frames := 2, cells := 0, slots := 0, locals := 47 })
abbrev mX10_means : jM := (RX10, yX10_means, cX10_means, 4, some .int, { frames := 3, cells := 0, slots := 0, locals := 72 })
abbrev mX10_odds : jM := (RX10, yX10_odds, cX10_odds, 3, some .int, { frames := 6, cells := 0, slots := 0, locals := 141 })
abbrev mX10_likeliest : jM := (RX10, yX10_likeliest, cX10_likeliest, 2, some .int, { frames := 6, cells := 0, slots := 0, locals := 141 })
abbrev mX10_says : jM := (RX10, yX10_says, cX10_says, 15, some .int, { frames := 3, cells := 0, slots := 0, locals := 72 })
abbrev mX10_year : jM := (RX10, yX10_year, cX10_year, 4, some .int, { frames := 3, cells := 0, slots := 0, locals := 72 })
abbrev mX10_asIn : jM := (RX10, yX10_asIn, cX10_asIn, 4, some .int, { frames := 2, cells := 0, slots := 0, locals := 49 })
abbrev mX10_about : jM := (RX10, yX10_about, cX10_about, 5, some .int, { frames := 2, cells := 0, slots := 0, locals := 49 })
abbrev mX10_chance : jM := (RX10, yX10_chance, cX10_chance, 12, some .int, { frames := 3, cells := 0, slots := 0, locals := 72 })
abbrev mX10_like : jM := (RX10, yX10_like, cX10_like, 4, some .int, { frames := 2, cells := 0, slots := 0, locals := 47 })
abbrev mX10_left : jM := (RX10, yX10_left, cX10_left, 3, some .int, { frames := 3, cells := 0, slots := 0, locals := 74 })
abbrev mX10_slip : jM := (RX10, yX10_slip, cX10_slip, 5, some .int, { frames := 2, cells := 0, slots := 0, locals := 43 })
abbrev mX10_said : jM := (RX10, yX10_said, cX10_said, 4, some .int, { frames := 2, cells := 0, slots := 0, locals := 43 })
abbrev mX10_order : jM := (RX10, yX10_order, cX10_order, 3, some .int, { frames := 3, cells := 0, slots := 0, locals := 71 })
abbrev mX10_sure : jM := (RX10, yX10_sure, cX10_sure, 4, some .int, { frames := 3, cells := 0, slots := 0, locals := 71 })
abbrev mX10_kin : jM := (RX10, yX10_kin, cX10_kin, 4, some .int, { frames := 1, cells := 0, slots := 0, locals := 22 })
abbrev mX10_dealt : jM := (RX10, yX10_dealt, cX10_dealt, 4, some .int, { frames := 3, cells := 0, slots := 0, locals := 71 })
abbrev mX10_bounds : jM := (RX10, yX10_bounds, cX10_bounds, 5, some .int, { frames := 3, cells := 0, slots := 0, locals := 72 })
abbrev mX10_question : jM := (RX10, yX10_question, cX10_question, 6, some .int, { frames := 2, cells := 0, slots := 0, locals := 42 })
abbrev mX10_tells : jM := (RX10, yX10_tells, cX10_tells, 2, some .int, { frames := 3, cells := 0, slots := 0, locals := 72 })
abbrev mX10_form : jM := (RX10, yX10_form, cX10_form, 2, some .int, { frames := 3, cells := 0, slots := 0, locals := 81 })
abbrev mX10_sign : jM := (RX10, yX10_sign, cX10_sign, 2, some .int, { frames := 1, cells := 0, slots := 0, locals := 22 })
abbrev mX10_limb : jM := (RX10, yX10_limb, cX10_limb, 4, some .int, { frames := 1, cells := 0, slots := 0, locals := 22 })
abbrev mX10_count : jM := (RX10, yX10_count, cX10_count, 2, some .int, { frames := 0, cells := 0, slots := 0, locals := 0 })
abbrev mX10_digest : jM := (RX10, yX10_digest, cX10_digest, 4, some .long, { frames := 4, cells := 0, slots := 0, locals := 93 })
abbrev mX10_digestOfRow : jM := (RX10, yX10_digestOfRow, cX10_digestOfRow, 7, some .long, { frames := 0, cells := 0, slots := 0, locals := 0 })
abbrev mX10_within : jM := (RX10, yX10_within, cX10_within, 3, some .boolean, { frames := 0, cells := 0, slots := 0, locals := 0 })
abbrev mX10_isRank : jM := (RX10, yX10_isRank, cX10_isRank, 1, some .boolean, { frames := 1, cells := 0, slots := 0, locals := 22 })
abbrev mX10_isYear : jM := (RX10, yX10_isYear, cX10_isYear, 1, some .boolean, { frames := 1, cells := 0, slots := 0, locals := 22 })
abbrev mX10_isGift : jM := (RX10, yX10_isGift, cX10_isGift, 1, some .boolean, { frames := 1, cells := 0, slots := 0, locals := 22 })
abbrev mX10_isPercent : jM := (RX10, yX10_isPercent, cX10_isPercent, 1, some .boolean, { frames := 1, cells := 0, slots := 0, locals := 22 })
abbrev mX10_isWord : jM := (RX10, yX10_isWord, cX10_isWord, 2, some .boolean, { frames := 1, cells := 0, slots := 0, locals := 22 })
abbrev mX10_isHand : jM := (RX10, yX10_isHand, cX10_isHand, 2, some .boolean, { frames := 1, cells := 0, slots := 0, locals := 22 })
abbrev mX10_isPupil : jM := (RX10, yX10_isPupil, cX10_isPupil, 2, some .boolean, { frames := 1, cells := 0, slots := 0, locals := 22 })
abbrev mX10_isLetter : jM := (RX10, yX10_isLetter, cX10_isLetter, 2, some .boolean, { frames := 1, cells := 0, slots := 0, locals := 22 })
abbrev mX10_choices : jM := (RX10, yX10_choices, cX10_choices, 5, some .long, { frames := 0, cells := 0, slots := 0, locals := 0 })
abbrev mX11_in : jM := (RX11, yX11_in, cX11_in, 6, some .boolean, { frames := 0, cells := 0, slots := 0, locals := 0 })
abbrev mX11_init : jM := (RX11, yX11_init, cX11_init, 2, none, { frames := 2, cells := 25, slots := 1684, locals := 45 })
abbrev mX11_trims : jM := (RX11, yX11_trims, cX11_trims, 2, none, { frames := 0, cells := 0, slots := 0, locals := 0 })
abbrev mX11_sets : jM := (RX11, yX11_sets, cX11_sets, 5, none, { frames := 1, cells := 0, slots := 0, locals := 21 })
abbrev mX11_takes : jM := (RX11, yX11_takes, cX11_takes, 4, none, { frames := 0, cells := 0, slots := 0, locals := 0 })
abbrev mX11_times : jM := (RX11, yX11_times, cX11_times, 8, none, { frames := 1, cells := 0, slots := 0, locals := 21 })
abbrev mX11_multiplies : jM := (RX11, yX11_multiplies, cX11_multiplies, 11, none, { frames := 2, cells := 0, slots := 0, locals := 45 })
abbrev mX11_adds : jM := (RX11, yX11_adds, cX11_adds, 7, none, { frames := 1, cells := 0, slots := 0, locals := 21 })
abbrev mX11_lessens : jM := (RX11, yX11_lessens, cX11_lessens, 6, none, { frames := 1, cells := 0, slots := 0, locals := 21 })
abbrev mX11_against : jM := (RX11, yX11_against, cX11_against, 4, some .int, { frames := 0, cells := 0, slots := 0, locals := 0 })
abbrev mX11_isEven : jM := (RX11, yX11_isEven, cX11_isEven, 2, some .boolean, { frames := 0, cells := 0, slots := 0, locals := 0 })
abbrev mX11_halves : jM := (RX11, yX11_halves, cX11_halves, 4, none, { frames := 1, cells := 0, slots := 0, locals := 21 })
abbrev mX11_lowers : jM := (RX11, yX11_lowers, cX11_lowers, 2, none, { frames := 2, cells := 0, slots := 0, locals := 53 })
abbrev mX11_parts : jM := (RX11, yX11_parts, cX11_parts, 13, none, { frames := 1, cells := 0, slots := 0, locals := 21 })
abbrev mX11_told : jM := (RX11, yX11_told, cX11_told, 5, some .int, { frames := 3, cells := 0, slots := 0, locals := 74 })
abbrev mX11_sign : jM := (RX11, yX11_sign, cX11_sign, 2, some .int, { frames := 0, cells := 0, slots := 0, locals := 0 })
abbrev mX11_limb : jM := (RX11, yX11_limb, cX11_limb, 3, some .int, { frames := 1, cells := 0, slots := 0, locals := 25 })
abbrev mX11_is : jM := (RX11, yX11_is, cX11_is, 3, some .boolean, { frames := 1, cells := 0, slots := 0, locals := 25 })
abbrev mX11_next : jM := (RX11, yX11_next, cX11_next, 2, some .int, { frames := 0, cells := 0, slots := 0, locals := 0 })
abbrev mX11_word : jM := (RX11, yX11_word, cX11_word, 3, some .int, { frames := 1, cells := 0, slots := 0, locals := 25 })
abbrev mX11_hand : jM := (RX11, yX11_hand, cX11_hand, 2, some .int, { frames := 1, cells := 0, slots := 0, locals := 25 })
abbrev mX11_pupil : jM := (RX11, yX11_pupil, cX11_pupil, 3, some .int, { frames := 1, cells := 0, slots := 0, locals := 25 })
abbrev mX11_became : jM := (RX11, yX11_became, cX11_became, 4, some .int, { frames := 2, cells := 0, slots := 0, locals := 47 })
abbrev mX11_letter : jM := (RX11, yX11_letter, cX11_letter, 4, some .int, { frames := 2, cells := 0, slots := 0, locals := 47 })
abbrev mX11_write : jM := (RX11, yX11_write, cX11_write, 3, some .int, { frames := 2, cells := 0, slots := 0, locals := 47 })
abbrev mX11_isGift : jM := (RX11, yX11_isGift, cX11_isGift, 1, some .boolean, { frames := 1, cells := 0, slots := 0, locals := 25 })
abbrev mX11_weight : jM := (RX11, yX11_weight, cX11_weight, 4, some .int, { frames := 2, cells := 0, slots := 0, locals := 45 })
abbrev mX11_stands : jM := (RX11, yX11_stands, cX11_stands, 5, some .int, { frames := 0, cells := 0, slots := 0, locals := 0 })
abbrev mX11_usesOf : jM := (RX11, yX11_usesOf, cX11_usesOf, 8, some .int, { frames := 1, cells := 0, slots := 0, locals := 24 })
abbrev mX11_isUse : jM := (RX11, yX11_isUse, cX11_isUse, 4, some .boolean, { frames := 2, cells := 0, slots := 0, locals := 47 })
abbrev mX11_uses : jM := (RX11, yX11_uses, cX11_uses, 4, some .int, { frames := 3, cells := 0, slots := 0, locals := 70 })
abbrev mX11_meanUp : jM := (RX11, yX11_meanUp, cX11_meanUp, 5, some .int, { frames := 2, cells := 0, slots := 0, locals := 51 })
abbrev mX11_meanDown : jM := (RX11, yX11_meanDown, cX11_meanDown, 4, some .int, { frames := 2, cells := 0, slots := 0, locals := 51 })
abbrev mX11_means : jM := (RX11, yX11_means, cX11_means, 4, some .int, { frames := 4, cells := 0, slots := 0, locals := 98 })
abbrev mX11_wordsOf : jM := (RX11, yX11_wordsOf, cX11_wordsOf, 4, some .int, { frames := 0, cells := 0, slots := 0, locals := 0 })
abbrev mX11_weighs : jM := (RX11, yX11_weighs, cX11_weighs, 5, none, { frames := 3, cells := 0, slots := 0, locals := 75 })
abbrev mX11_shares : jM := (RX11, yX11_shares, cX11_shares, 4, none, { frames := 3, cells := 0, slots := 0, locals := 75 })
abbrev mX11_odds : jM := (RX11, yX11_odds, cX11_odds, 4, some .int, { frames := 4, cells := 0, slots := 0, locals := 99 })
abbrev mX11_likeliest : jM := (RX11, yX11_likeliest, cX11_likeliest, 4, some .int, { frames := 4, cells := 0, slots := 0, locals := 99 })
abbrev mX11_says : jM := (RX11, yX11_says, cX11_says, 13, some .int, { frames := 4, cells := 0, slots := 0, locals := 98 })
abbrev mX11_isYear : jM := (RX11, yX11_isYear, cX11_isYear, 1, some .boolean, { frames := 1, cells := 0, slots := 0, locals := 25 })
abbrev mX11_wordsIn : jM := (RX11, yX11_wordsIn, cX11_wordsIn, 8, some .int, { frames := 0, cells := 0, slots := 0, locals := 0 })
abbrev mX11_year : jM := (RX11, yX11_year, cX11_year, 6, some .int, { frames := 4, cells := 0, slots := 0, locals := 98 })
abbrev mX11_asIn : jM := (RX11, yX11_asIn, cX11_asIn, 8, some .int, { frames := 2, cells := 0, slots := 0, locals := 45 })
abbrev mX11_lettersOf : jM := (RX11, yX11_lettersOf, cX11_lettersOf, 8, some .int, { frames := 1, cells := 0, slots := 0, locals := 24 })
abbrev mX11_isAbout : jM := (RX11, yX11_isAbout, cX11_isAbout, 3, some .boolean, { frames := 2, cells := 0, slots := 0, locals := 47 })
abbrev mX11_about : jM := (RX11, yX11_about, cX11_about, 4, some .int, { frames := 3, cells := 0, slots := 0, locals := 69 })
abbrev mX11_ways : jM := (RX11, yX11_ways, cX11_ways, 5, some .long, { frames := 0, cells := 0, slots := 0, locals := 0 })
abbrev mX11_chance : jM := (RX11, yX11_chance, cX11_chance, 14, some .int, { frames := 4, cells := 0, slots := 0, locals := 98 })
abbrev mX11_runOf : jM := (RX11, yX11_runOf, cX11_runOf, 7, some .int, { frames := 0, cells := 0, slots := 0, locals := 0 })
abbrev mX11_greater : jM := (RX11, yX11_greater, cX11_greater, 2, some .int, { frames := 0, cells := 0, slots := 0, locals := 0 })
abbrev mX11_likeOf : jM := (RX11, yX11_likeOf, cX11_likeOf, 7, some .int, { frames := 1, cells := 0, slots := 0, locals := 21 })
abbrev mX11_like : jM := (RX11, yX11_like, cX11_like, 4, some .int, { frames := 2, cells := 0, slots := 0, locals := 47 })
abbrev mX11_left : jM := (RX11, yX11_left, cX11_left, 6, some .int, { frames := 2, cells := 0, slots := 0, locals := 47 })
abbrev mX11_slip : jM := (RX11, yX11_slip, cX11_slip, 3, some .int, { frames := 2, cells := 0, slots := 0, locals := 47 })
abbrev mX11_said : jM := (RX11, yX11_said, cX11_said, 4, some .int, { frames := 2, cells := 0, slots := 0, locals := 47 })
abbrev mX11_againstNext : jM := (RX11, yX11_againstNext, cX11_againstNext, 5, some .int, { frames := 0, cells := 0, slots := 0, locals := 0 })
abbrev mX11_orders : jM := (RX11, yX11_orders, cX11_orders, 8, some .int, { frames := 1, cells := 0, slots := 0, locals := 24 })
abbrev mX11_order : jM := (RX11, yX11_order, cX11_order, 8, some .int, { frames := 2, cells := 0, slots := 0, locals := 51 })
abbrev mX11_sure : jM := (RX11, yX11_sure, cX11_sure, 4, some .int, { frames := 2, cells := 0, slots := 0, locals := 51 })
abbrev mX11_kin : jM := (RX11, yX11_kin, cX11_kin, 4, some .int, { frames := 1, cells := 0, slots := 0, locals := 25 })
abbrev mX11_mayRead : jM := (RX11, yX11_mayRead, cX11_mayRead, 3, some .boolean, { frames := 0, cells := 0, slots := 0, locals := 0 })
abbrev mX11_isFree : jM := (RX11, yX11_isFree, cX11_isFree, 4, some .boolean, { frames := 0, cells := 0, slots := 0, locals := 0 })
abbrev mX11_deals : jM := (RX11, yX11_deals, cX11_deals, 5, some .int, { frames := 1, cells := 0, slots := 0, locals := 23 })
abbrev mX11_dealt : jM := (RX11, yX11_dealt, cX11_dealt, 6, some .int, { frames := 2, cells := 0, slots := 0, locals := 47 })
abbrev mX11_bounds : jM := (RX11, yX11_bounds, cX11_bounds, 5, some .int, { frames := 4, cells := 0, slots := 0, locals := 98 })
abbrev mX11_isShare : jM := (RX11, yX11_isShare, cX11_isShare, 1, some .boolean, { frames := 1, cells := 0, slots := 0, locals := 25 })
abbrev mX11_question : jM := (RX11, yX11_question, cX11_question, 7, some .int, { frames := 2, cells := 0, slots := 0, locals := 45 })
abbrev mX11_tellsOf : jM := (RX11, yX11_tellsOf, cX11_tellsOf, 13, some .long, { frames := 0, cells := 0, slots := 0, locals := 0 })
abbrev mX11_wholeOf : jM := (RX11, yX11_wholeOf, cX11_wholeOf, 4, some .long, { frames := 0, cells := 0, slots := 0, locals := 0 })
abbrev mX11_tells : jM := (RX11, yX11_tells, cX11_tells, 2, some .int, { frames := 4, cells := 0, slots := 0, locals := 98 })
abbrev mX11_minutesOf : jM := (RX11, yX11_minutesOf, cX11_minutesOf, 4, some .int, { frames := 0, cells := 0, slots := 0, locals := 0 })
abbrev mX11_form : jM := (RX11, yX11_form, cX11_form, 8, some .int, { frames := 1, cells := 0, slots := 0, locals := 32 })
abbrev mX11_count : jM := (RX11, yX11_count, cX11_count, 2, some .int, { frames := 1, cells := 0, slots := 0, locals := 25 })
abbrev mX11_mixed : jM := (RX11, yX11_mixed, cX11_mixed, 8, some .long, { frames := 0, cells := 0, slots := 0, locals := 0 })
abbrev mX11_digest : jM := (RX11, yX11_digest, cX11_digest, 4, some .long, { frames := 2, cells := 0, slots := 0, locals := 51 })
abbrev mJ6_numberOfTrailingZeros_0f7a4 : jM := (RJ6, yJ6_numberOfTrailingZeros_0f7a4, cJ6_numberOfTrailingZeros_0f7a4, 2, some .int, { frames := 0, cells := 0, slots := 0, locals := 0 })
abbrev mJ6_bitCount_0f7a4 : jM := (RJ6, yJ6_bitCount_0f7a4, cJ6_bitCount_0f7a4, 1, some .int, { frames := 0, cells := 0, slots := 0, locals := 0 })
abbrev mJ9_max_7cf53 : jM := (RJ9, yJ9_max_7cf53, cJ9_max_7cf53, 2, some .int, { frames := 0, cells := 0, slots := 0, locals := 0 })
abbrev mJ9_max_f86c9 : jM := (RJ9, yJ9_max_f86c9, cJ9_max_f86c9, 4, some .long, { frames := 0, cells := 0, slots := 0, locals := 0 })
abbrev mJ9_min_7cf53 : jM := (RJ9, yJ9_min_7cf53, cJ9_min_7cf53, 2, some .int, { frames := 0, cells := 0, slots := 0, locals := 0 })
abbrev mJ9_min_f86c9 : jM := (RJ9, yJ9_min_f86c9, cJ9_min_f86c9, 4, some .long, { frames := 0, cells := 0, slots := 0, locals := 0 })
abbrev mJ7_fill_53178 : jM := (RJ7, yJ7_fill_53178, cJ7_fill_53178, 4, none, { frames := 0, cells := 0, slots := 0, locals := 0 })
abbrev mL_law : jM := (RL, yL_law, cL_law, 4, some .boolean, { frames := 9, cells := 600000, slots := 7302250, locals := 328 })
theorem fw_X3_9 : Cond.fieldLink RX3 9 (TX3 0).1 (TX3 0).2.1 (TX3 0).2.2.1 ∈ jws := jmem (i := 33) (by decide +kernel) rfl
theorem fl_X3_9 : jfd RX3 9 3 0 := ⟨RX3, TX3, 14, rfl, by decide, fw_X3_9, ct_X3.2.2.2⟩
theorem fw_X9_46 : Cond.fieldLink RX9 46 (TX3 0).1 (TX3 0).2.1 (TX3 0).2.2.1 ∈ jws := jmem (i := 34) (by decide +kernel) rfl
theorem fl_X9_46 : jfd RX9 46 3 0 := ⟨RX3, TX3, 14, rfl, by decide, fw_X9_46, ct_X3.2.2.2⟩
theorem fw_X3_15 : Cond.fieldLink RX3 15 (TX3 1).1 (TX3 1).2.1 (TX3 1).2.2.1 ∈ jws := jmem (i := 35) (by decide +kernel) rfl
theorem fl_X3_15 : jfd RX3 15 3 1 := ⟨RX3, TX3, 14, rfl, by decide, fw_X3_15, ct_X3.2.2.2⟩
theorem fw_X10_234 : Cond.fieldLink RX10 234 (TX3 1).1 (TX3 1).2.1 (TX3 1).2.2.1 ∈ jws := jmem (i := 36) (by decide +kernel) rfl
theorem fl_X10_234 : jfd RX10 234 3 1 := ⟨RX3, TX3, 14, rfl, by decide, fw_X10_234, ct_X3.2.2.2⟩
theorem fw_X3_18 : Cond.fieldLink RX3 18 (TX3 2).1 (TX3 2).2.1 (TX3 2).2.2.1 ∈ jws := jmem (i := 37) (by decide +kernel) rfl
theorem fl_X3_18 : jfd RX3 18 3 2 := ⟨RX3, TX3, 14, rfl, by decide, fw_X3_18, ct_X3.2.2.2⟩
theorem fw_X8_59 : Cond.fieldLink RX8 59 (TX3 2).1 (TX3 2).2.1 (TX3 2).2.2.1 ∈ jws := jmem (i := 38) (by decide +kernel) rfl
theorem fl_X8_59 : jfd RX8 59 3 2 := ⟨RX3, TX3, 14, rfl, by decide, fw_X8_59, ct_X3.2.2.2⟩
theorem fw_X3_21 : Cond.fieldLink RX3 21 (TX3 3).1 (TX3 3).2.1 (TX3 3).2.2.1 ∈ jws := jmem (i := 39) (by decide +kernel) rfl
theorem fl_X3_21 : jfd RX3 21 3 3 := ⟨RX3, TX3, 14, rfl, by decide, fw_X3_21, ct_X3.2.2.2⟩
theorem fw_X10_225 : Cond.fieldLink RX10 225 (TX3 3).1 (TX3 3).2.1 (TX3 3).2.2.1 ∈ jws := jmem (i := 40) (by decide +kernel) rfl
theorem fl_X10_225 : jfd RX10 225 3 3 := ⟨RX3, TX3, 14, rfl, by decide, fw_X10_225, ct_X3.2.2.2⟩
theorem fw_X3_24 : Cond.fieldLink RX3 24 (TX3 4).1 (TX3 4).2.1 (TX3 4).2.2.1 ∈ jws := jmem (i := 41) (by decide +kernel) rfl
theorem fl_X3_24 : jfd RX3 24 3 4 := ⟨RX3, TX3, 14, rfl, by decide, fw_X3_24, ct_X3.2.2.2⟩
theorem fw_X8_39 : Cond.fieldLink RX8 39 (TX3 4).1 (TX3 4).2.1 (TX3 4).2.2.1 ∈ jws := jmem (i := 42) (by decide +kernel) rfl
theorem fl_X8_39 : jfd RX8 39 3 4 := ⟨RX3, TX3, 14, rfl, by decide, fw_X8_39, ct_X3.2.2.2⟩
theorem fw_X10_113 : Cond.fieldLink RX10 113 (TX3 4).1 (TX3 4).2.1 (TX3 4).2.2.1 ∈ jws := jmem (i := 43) (by decide +kernel) rfl
theorem fl_X10_113 : jfd RX10 113 3 4 := ⟨RX3, TX3, 14, rfl, by decide, fw_X10_113, ct_X3.2.2.2⟩
theorem fw_X3_27 : Cond.fieldLink RX3 27 (TX3 5).1 (TX3 5).2.1 (TX3 5).2.2.1 ∈ jws := jmem (i := 44) (by decide +kernel) rfl
theorem fl_X3_27 : jfd RX3 27 3 5 := ⟨RX3, TX3, 14, rfl, by decide, fw_X3_27, ct_X3.2.2.2⟩
theorem fw_X9_34 : Cond.fieldLink RX9 34 (TX3 5).1 (TX3 5).2.1 (TX3 5).2.2.1 ∈ jws := jmem (i := 45) (by decide +kernel) rfl
theorem fl_X9_34 : jfd RX9 34 3 5 := ⟨RX3, TX3, 14, rfl, by decide, fw_X9_34, ct_X3.2.2.2⟩
theorem fw_X8_42 : Cond.fieldLink RX8 42 (TX3 5).1 (TX3 5).2.1 (TX3 5).2.2.1 ∈ jws := jmem (i := 46) (by decide +kernel) rfl
theorem fl_X8_42 : jfd RX8 42 3 5 := ⟨RX3, TX3, 14, rfl, by decide, fw_X8_42, ct_X3.2.2.2⟩
theorem fw_X1_63 : Cond.fieldLink RX1 63 (TX3 5).1 (TX3 5).2.1 (TX3 5).2.2.1 ∈ jws := jmem (i := 47) (by decide +kernel) rfl
theorem fl_X1_63 : jfd RX1 63 3 5 := ⟨RX3, TX3, 14, rfl, by decide, fw_X1_63, ct_X3.2.2.2⟩
theorem fw_X2_46 : Cond.fieldLink RX2 46 (TX3 5).1 (TX3 5).2.1 (TX3 5).2.2.1 ∈ jws := jmem (i := 48) (by decide +kernel) rfl
theorem fl_X2_46 : jfd RX2 46 3 5 := ⟨RX3, TX3, 14, rfl, by decide, fw_X2_46, ct_X3.2.2.2⟩
theorem fw_X7_42 : Cond.fieldLink RX7 42 (TX3 5).1 (TX3 5).2.1 (TX3 5).2.2.1 ∈ jws := jmem (i := 49) (by decide +kernel) rfl
theorem fl_X7_42 : jfd RX7 42 3 5 := ⟨RX3, TX3, 14, rfl, by decide, fw_X7_42, ct_X3.2.2.2⟩
theorem fw_X3_30 : Cond.fieldLink RX3 30 (TX3 6).1 (TX3 6).2.1 (TX3 6).2.2.1 ∈ jws := jmem (i := 50) (by decide +kernel) rfl
theorem fl_X3_30 : jfd RX3 30 3 6 := ⟨RX3, TX3, 14, rfl, by decide, fw_X3_30, ct_X3.2.2.2⟩
theorem fw_X1_40 : Cond.fieldLink RX1 40 (TX3 6).1 (TX3 6).2.1 (TX3 6).2.2.1 ∈ jws := jmem (i := 51) (by decide +kernel) rfl
theorem fl_X1_40 : jfd RX1 40 3 6 := ⟨RX3, TX3, 14, rfl, by decide, fw_X1_40, ct_X3.2.2.2⟩
theorem fw_X8_36 : Cond.fieldLink RX8 36 (TX3 6).1 (TX3 6).2.1 (TX3 6).2.2.1 ∈ jws := jmem (i := 52) (by decide +kernel) rfl
theorem fl_X8_36 : jfd RX8 36 3 6 := ⟨RX3, TX3, 14, rfl, by decide, fw_X8_36, ct_X3.2.2.2⟩
theorem fw_X10_228 : Cond.fieldLink RX10 228 (TX3 6).1 (TX3 6).2.1 (TX3 6).2.2.1 ∈ jws := jmem (i := 53) (by decide +kernel) rfl
theorem fl_X10_228 : jfd RX10 228 3 6 := ⟨RX3, TX3, 14, rfl, by decide, fw_X10_228, ct_X3.2.2.2⟩
theorem fw_X3_33 : Cond.fieldLink RX3 33 (TX3 7).1 (TX3 7).2.1 (TX3 7).2.2.1 ∈ jws := jmem (i := 54) (by decide +kernel) rfl
theorem fl_X3_33 : jfd RX3 33 3 7 := ⟨RX3, TX3, 14, rfl, by decide, fw_X3_33, ct_X3.2.2.2⟩
theorem fw_X9_37 : Cond.fieldLink RX9 37 (TX3 7).1 (TX3 7).2.1 (TX3 7).2.2.1 ∈ jws := jmem (i := 55) (by decide +kernel) rfl
theorem fl_X9_37 : jfd RX9 37 3 7 := ⟨RX3, TX3, 14, rfl, by decide, fw_X9_37, ct_X3.2.2.2⟩
theorem fw_X7_39 : Cond.fieldLink RX7 39 (TX3 7).1 (TX3 7).2.1 (TX3 7).2.2.1 ∈ jws := jmem (i := 56) (by decide +kernel) rfl
theorem fl_X7_39 : jfd RX7 39 3 7 := ⟨RX3, TX3, 14, rfl, by decide, fw_X7_39, ct_X3.2.2.2⟩
theorem fw_X3_36 : Cond.fieldLink RX3 36 (TX3 8).1 (TX3 8).2.1 (TX3 8).2.2.1 ∈ jws := jmem (i := 57) (by decide +kernel) rfl
theorem fl_X3_36 : jfd RX3 36 3 8 := ⟨RX3, TX3, 14, rfl, by decide, fw_X3_36, ct_X3.2.2.2⟩
theorem fw_X7_20 : Cond.fieldLink RX7 20 (TX3 8).1 (TX3 8).2.1 (TX3 8).2.2.1 ∈ jws := jmem (i := 58) (by decide +kernel) rfl
theorem fl_X7_20 : jfd RX7 20 3 8 := ⟨RX3, TX3, 14, rfl, by decide, fw_X7_20, ct_X3.2.2.2⟩
theorem fw_X1_43 : Cond.fieldLink RX1 43 (TX3 8).1 (TX3 8).2.1 (TX3 8).2.2.1 ∈ jws := jmem (i := 59) (by decide +kernel) rfl
theorem fl_X1_43 : jfd RX1 43 3 8 := ⟨RX3, TX3, 14, rfl, by decide, fw_X1_43, ct_X3.2.2.2⟩
theorem fw_X8_53 : Cond.fieldLink RX8 53 (TX3 8).1 (TX3 8).2.1 (TX3 8).2.2.1 ∈ jws := jmem (i := 60) (by decide +kernel) rfl
theorem fl_X8_53 : jfd RX8 53 3 8 := ⟨RX3, TX3, 14, rfl, by decide, fw_X8_53, ct_X3.2.2.2⟩
theorem fw_X9_43 : Cond.fieldLink RX9 43 (TX3 8).1 (TX3 8).2.1 (TX3 8).2.2.1 ∈ jws := jmem (i := 61) (by decide +kernel) rfl
theorem fl_X9_43 : jfd RX9 43 3 8 := ⟨RX3, TX3, 14, rfl, by decide, fw_X9_43, ct_X3.2.2.2⟩
theorem fw_X10_231 : Cond.fieldLink RX10 231 (TX3 8).1 (TX3 8).2.1 (TX3 8).2.2.1 ∈ jws := jmem (i := 62) (by decide +kernel) rfl
theorem fl_X10_231 : jfd RX10 231 3 8 := ⟨RX3, TX3, 14, rfl, by decide, fw_X10_231, ct_X3.2.2.2⟩
theorem fw_X3_41 : Cond.fieldLink RX3 41 (TX3 9).1 (TX3 9).2.1 (TX3 9).2.2.1 ∈ jws := jmem (i := 63) (by decide +kernel) rfl
theorem fl_X3_41 : jfd RX3 41 3 9 := ⟨RX3, TX3, 14, rfl, by decide, fw_X3_41, ct_X3.2.2.2⟩
theorem fw_X7_26 : Cond.fieldLink RX7 26 (TX3 9).1 (TX3 9).2.1 (TX3 9).2.2.1 ∈ jws := jmem (i := 64) (by decide +kernel) rfl
theorem fl_X7_26 : jfd RX7 26 3 9 := ⟨RX3, TX3, 14, rfl, by decide, fw_X7_26, ct_X3.2.2.2⟩
theorem fw_X8_56 : Cond.fieldLink RX8 56 (TX3 9).1 (TX3 9).2.1 (TX3 9).2.2.1 ∈ jws := jmem (i := 65) (by decide +kernel) rfl
theorem fl_X8_56 : jfd RX8 56 3 9 := ⟨RX3, TX3, 14, rfl, by decide, fw_X8_56, ct_X3.2.2.2⟩
theorem fw_X9_49 : Cond.fieldLink RX9 49 (TX3 9).1 (TX3 9).2.1 (TX3 9).2.2.1 ∈ jws := jmem (i := 66) (by decide +kernel) rfl
theorem fl_X9_49 : jfd RX9 49 3 9 := ⟨RX3, TX3, 14, rfl, by decide, fw_X9_49, ct_X3.2.2.2⟩
theorem fw_X1_66 : Cond.fieldLink RX1 66 (TX3 9).1 (TX3 9).2.1 (TX3 9).2.2.1 ∈ jws := jmem (i := 67) (by decide +kernel) rfl
theorem fl_X1_66 : jfd RX1 66 3 9 := ⟨RX3, TX3, 14, rfl, by decide, fw_X1_66, ct_X3.2.2.2⟩
theorem fw_X10_237 : Cond.fieldLink RX10 237 (TX3 9).1 (TX3 9).2.1 (TX3 9).2.2.1 ∈ jws := jmem (i := 68) (by decide +kernel) rfl
theorem fl_X10_237 : jfd RX10 237 3 9 := ⟨RX3, TX3, 14, rfl, by decide, fw_X10_237, ct_X3.2.2.2⟩
theorem fw_X3_44 : Cond.fieldLink RX3 44 (TX3 10).1 (TX3 10).2.1 (TX3 10).2.2.1 ∈ jws := jmem (i := 69) (by decide +kernel) rfl
theorem fl_X3_44 : jfd RX3 44 3 10 := ⟨RX3, TX3, 14, rfl, by decide, fw_X3_44, ct_X3.2.2.2⟩
theorem fw_X8_66 : Cond.fieldLink RX8 66 (TX3 10).1 (TX3 10).2.1 (TX3 10).2.2.1 ∈ jws := jmem (i := 70) (by decide +kernel) rfl
theorem fl_X8_66 : jfd RX8 66 3 10 := ⟨RX3, TX3, 14, rfl, by decide, fw_X8_66, ct_X3.2.2.2⟩
theorem fw_X10_176 : Cond.fieldLink RX10 176 (TX3 10).1 (TX3 10).2.1 (TX3 10).2.2.1 ∈ jws := jmem (i := 71) (by decide +kernel) rfl
theorem fl_X10_176 : jfd RX10 176 3 10 := ⟨RX3, TX3, 14, rfl, by decide, fw_X10_176, ct_X3.2.2.2⟩
theorem fw_X3_48 : Cond.fieldLink RX3 48 (TX3 11).1 (TX3 11).2.1 (TX3 11).2.2.1 ∈ jws := jmem (i := 72) (by decide +kernel) rfl
theorem fl_X3_48 : jfd RX3 48 3 11 := ⟨RX3, TX3, 14, rfl, by decide, fw_X3_48, ct_X3.2.2.2⟩
theorem fw_X10_301 : Cond.fieldLink RX10 301 (TX3 11).1 (TX3 11).2.1 (TX3 11).2.2.1 ∈ jws := jmem (i := 73) (by decide +kernel) rfl
theorem fl_X10_301 : jfd RX10 301 3 11 := ⟨RX3, TX3, 14, rfl, by decide, fw_X10_301, ct_X3.2.2.2⟩
theorem fw_X3_51 : Cond.fieldLink RX3 51 (TX3 12).1 (TX3 12).2.1 (TX3 12).2.2.1 ∈ jws := jmem (i := 74) (by decide +kernel) rfl
theorem fl_X3_51 : jfd RX3 51 3 12 := ⟨RX3, TX3, 14, rfl, by decide, fw_X3_51, ct_X3.2.2.2⟩
theorem fw_X10_244 : Cond.fieldLink RX10 244 (TX3 12).1 (TX3 12).2.1 (TX3 12).2.2.1 ∈ jws := jmem (i := 75) (by decide +kernel) rfl
theorem fl_X10_244 : jfd RX10 244 3 12 := ⟨RX3, TX3, 14, rfl, by decide, fw_X10_244, ct_X3.2.2.2⟩
theorem fw_X1_34 : Cond.fieldLink RX1 34 (TX3 13).1 (TX3 13).2.1 (TX3 13).2.2.1 ∈ jws := jmem (i := 76) (by decide +kernel) rfl
theorem fl_X1_34 : jfd RX1 34 3 13 := ⟨RX3, TX3, 14, rfl, by decide, fw_X1_34, ct_X3.2.2.2⟩
theorem fw_X2_29 : Cond.fieldLink RX2 29 (TX3 13).1 (TX3 13).2.1 (TX3 13).2.2.1 ∈ jws := jmem (i := 77) (by decide +kernel) rfl
theorem fl_X2_29 : jfd RX2 29 3 13 := ⟨RX3, TX3, 14, rfl, by decide, fw_X2_29, ct_X3.2.2.2⟩
theorem fw_X9_28 : Cond.fieldLink RX9 28 (TX3 13).1 (TX3 13).2.1 (TX3 13).2.2.1 ∈ jws := jmem (i := 78) (by decide +kernel) rfl
theorem fl_X9_28 : jfd RX9 28 3 13 := ⟨RX3, TX3, 14, rfl, by decide, fw_X9_28, ct_X3.2.2.2⟩
theorem fw_X8_30 : Cond.fieldLink RX8 30 (TX3 13).1 (TX3 13).2.1 (TX3 13).2.2.1 ∈ jws := jmem (i := 79) (by decide +kernel) rfl
theorem fl_X8_30 : jfd RX8 30 3 13 := ⟨RX3, TX3, 14, rfl, by decide, fw_X8_30, ct_X3.2.2.2⟩
theorem fw_X7_35 : Cond.fieldLink RX7 35 (TX3 13).1 (TX3 13).2.1 (TX3 13).2.2.1 ∈ jws := jmem (i := 80) (by decide +kernel) rfl
theorem fl_X7_35 : jfd RX7 35 3 13 := ⟨RX3, TX3, 14, rfl, by decide, fw_X7_35, ct_X3.2.2.2⟩
theorem fw_X3_54 : Cond.fieldLink RX3 54 (TX3 13).1 (TX3 13).2.1 (TX3 13).2.2.1 ∈ jws := jmem (i := 81) (by decide +kernel) rfl
theorem fl_X3_54 : jfd RX3 54 3 13 := ⟨RX3, TX3, 14, rfl, by decide, fw_X3_54, ct_X3.2.2.2⟩
theorem fw_X10_256 : Cond.fieldLink RX10 256 (TX3 13).1 (TX3 13).2.1 (TX3 13).2.2.1 ∈ jws := jmem (i := 82) (by decide +kernel) rfl
theorem fl_X10_256 : jfd RX10 256 3 13 := ⟨RX3, TX3, 14, rfl, by decide, fw_X10_256, ct_X3.2.2.2⟩
theorem fw_X8_20 : Cond.fieldLink RX8 20 (TX8 0).1 (TX8 0).2.1 (TX8 0).2.2.1 ∈ jws := jmem (i := 120) (by decide +kernel) rfl
theorem fl_X8_20 : jfd RX8 20 8 0 := ⟨RX8, TX8, 3, rfl, by decide, fw_X8_20, ct_X8.2.2.2⟩
theorem fw_X8_11 : Cond.fieldLink RX8 11 (TX8 1).1 (TX8 1).2.1 (TX8 1).2.2.1 ∈ jws := jmem (i := 121) (by decide +kernel) rfl
theorem fl_X8_11 : jfd RX8 11 8 1 := ⟨RX8, TX8, 3, rfl, by decide, fw_X8_11, ct_X8.2.2.2⟩
theorem fw_X8_16 : Cond.fieldLink RX8 16 (TX8 2).1 (TX8 2).2.1 (TX8 2).2.2.1 ∈ jws := jmem (i := 122) (by decide +kernel) rfl
theorem fl_X8_16 : jfd RX8 16 8 2 := ⟨RX8, TX8, 3, rfl, by decide, fw_X8_16, ct_X8.2.2.2⟩
theorem fw_X0_9 : Cond.fieldLink RX0 9 (TX0 0).1 (TX0 0).2.1 (TX0 0).2.2.1 ∈ jws := jmem (i := 146) (by decide +kernel) rfl
theorem fl_X0_9 : jfd RX0 9 0 0 := ⟨RX0, TX0, 2, rfl, by decide, fw_X0_9, ct_X0.2.2.2⟩
theorem fw_X10_298 : Cond.fieldLink RX10 298 (TX0 0).1 (TX0 0).2.1 (TX0 0).2.2.1 ∈ jws := jmem (i := 147) (by decide +kernel) rfl
theorem fl_X10_298 : jfd RX10 298 0 0 := ⟨RX0, TX0, 2, rfl, by decide, fw_X10_298, ct_X0.2.2.2⟩
theorem fw_X0_13 : Cond.fieldLink RX0 13 (TX0 1).1 (TX0 1).2.1 (TX0 1).2.2.1 ∈ jws := jmem (i := 148) (by decide +kernel) rfl
theorem fl_X0_13 : jfd RX0 13 0 1 := ⟨RX0, TX0, 2, rfl, by decide, fw_X0_13, ct_X0.2.2.2⟩
theorem fw_X10_292 : Cond.fieldLink RX10 292 (TX0 1).1 (TX0 1).2.1 (TX0 1).2.2.1 ∈ jws := jmem (i := 149) (by decide +kernel) rfl
theorem fl_X10_292 : jfd RX10 292 0 1 := ⟨RX0, TX0, 2, rfl, by decide, fw_X10_292, ct_X0.2.2.2⟩
theorem fw_X1_22 : Cond.fieldLink RX1 22 (TX1 0).1 (TX1 0).2.1 (TX1 0).2.2.1 ∈ jws := jmem (i := 155) (by decide +kernel) rfl
theorem fl_X1_22 : jfd RX1 22 1 0 := ⟨RX1, TX1, 5, rfl, by decide, fw_X1_22, ct_X1.2.2.2⟩
theorem fw_X1_26 : Cond.fieldLink RX1 26 (TX1 1).1 (TX1 1).2.1 (TX1 1).2.2.1 ∈ jws := jmem (i := 156) (by decide +kernel) rfl
theorem fl_X1_26 : jfd RX1 26 1 1 := ⟨RX1, TX1, 5, rfl, by decide, fw_X1_26, ct_X1.2.2.2⟩
theorem fw_X1_30 : Cond.fieldLink RX1 30 (TX1 2).1 (TX1 2).2.1 (TX1 2).2.2.1 ∈ jws := jmem (i := 157) (by decide +kernel) rfl
theorem fl_X1_30 : jfd RX1 30 1 2 := ⟨RX1, TX1, 5, rfl, by decide, fw_X1_30, ct_X1.2.2.2⟩
theorem fw_X1_11 : Cond.fieldLink RX1 11 (TX1 3).1 (TX1 3).2.1 (TX1 3).2.2.1 ∈ jws := jmem (i := 158) (by decide +kernel) rfl
theorem fl_X1_11 : jfd RX1 11 1 3 := ⟨RX1, TX1, 5, rfl, by decide, fw_X1_11, ct_X1.2.2.2⟩
theorem fw_X10_160 : Cond.fieldLink RX10 160 (TX1 3).1 (TX1 3).2.1 (TX1 3).2.2.1 ∈ jws := jmem (i := 159) (by decide +kernel) rfl
theorem fl_X10_160 : jfd RX10 160 1 3 := ⟨RX1, TX1, 5, rfl, by decide, fw_X10_160, ct_X1.2.2.2⟩
theorem fw_X1_18 : Cond.fieldLink RX1 18 (TX1 4).1 (TX1 4).2.1 (TX1 4).2.2.1 ∈ jws := jmem (i := 160) (by decide +kernel) rfl
theorem fl_X1_18 : jfd RX1 18 1 4 := ⟨RX1, TX1, 5, rfl, by decide, fw_X1_18, ct_X1.2.2.2⟩
theorem fw_X10_164 : Cond.fieldLink RX10 164 (TX1 4).1 (TX1 4).2.1 (TX1 4).2.2.1 ∈ jws := jmem (i := 161) (by decide +kernel) rfl
theorem fl_X10_164 : jfd RX10 164 1 4 := ⟨RX1, TX1, 5, rfl, by decide, fw_X10_164, ct_X1.2.2.2⟩
theorem fw_X9_18 : Cond.fieldLink RX9 18 (TX9 0).1 (TX9 0).2.1 (TX9 0).2.2.1 ∈ jws := jmem (i := 179) (by decide +kernel) rfl
theorem fl_X9_18 : jfd RX9 18 9 0 := ⟨RX9, TX9, 3, rfl, by decide, fw_X9_18, ct_X9.2.2.2⟩
theorem fw_X9_9 : Cond.fieldLink RX9 9 (TX9 1).1 (TX9 1).2.1 (TX9 1).2.2.1 ∈ jws := jmem (i := 180) (by decide +kernel) rfl
theorem fl_X9_9 : jfd RX9 9 9 1 := ⟨RX9, TX9, 3, rfl, by decide, fw_X9_9, ct_X9.2.2.2⟩
theorem fw_X10_180 : Cond.fieldLink RX10 180 (TX9 1).1 (TX9 1).2.1 (TX9 1).2.2.1 ∈ jws := jmem (i := 181) (by decide +kernel) rfl
theorem fl_X10_180 : jfd RX10 180 9 1 := ⟨RX9, TX9, 3, rfl, by decide, fw_X10_180, ct_X9.2.2.2⟩
theorem fw_X9_15 : Cond.fieldLink RX9 15 (TX9 2).1 (TX9 2).2.1 (TX9 2).2.2.1 ∈ jws := jmem (i := 182) (by decide +kernel) rfl
theorem fl_X9_15 : jfd RX9 15 9 2 := ⟨RX9, TX9, 3, rfl, by decide, fw_X9_15, ct_X9.2.2.2⟩
theorem fw_X10_195 : Cond.fieldLink RX10 195 (TX9 2).1 (TX9 2).2.1 (TX9 2).2.2.1 ∈ jws := jmem (i := 183) (by decide +kernel) rfl
theorem fl_X10_195 : jfd RX10 195 9 2 := ⟨RX9, TX9, 3, rfl, by decide, fw_X10_195, ct_X9.2.2.2⟩
theorem fw_X7_16 : Cond.fieldLink RX7 16 (TX7 0).1 (TX7 0).2.1 (TX7 0).2.2.1 ∈ jws := jmem (i := 198) (by decide +kernel) rfl
theorem fl_X7_16 : jfd RX7 16 7 0 := ⟨RX7, TX7, 2, rfl, by decide, fw_X7_16, ct_X7.2.2.2⟩
theorem fw_X7_11 : Cond.fieldLink RX7 11 (TX7 1).1 (TX7 1).2.1 (TX7 1).2.2.1 ∈ jws := jmem (i := 199) (by decide +kernel) rfl
theorem fl_X7_11 : jfd RX7 11 7 1 := ⟨RX7, TX7, 2, rfl, by decide, fw_X7_11, ct_X7.2.2.2⟩
theorem fw_X6_9 : Cond.fieldLink RX6 9 (TX6 0).1 (TX6 0).2.1 (TX6 0).2.2.1 ∈ jws := jmem (i := 212) (by decide +kernel) rfl
theorem fl_X6_9 : jfd RX6 9 6 0 := ⟨RX6, TX6, 7, rfl, by decide, fw_X6_9, ct_X6.2.2.2⟩
theorem fw_X6_15 : Cond.fieldLink RX6 15 (TX6 1).1 (TX6 1).2.1 (TX6 1).2.2.1 ∈ jws := jmem (i := 213) (by decide +kernel) rfl
theorem fl_X6_15 : jfd RX6 15 6 1 := ⟨RX6, TX6, 7, rfl, by decide, fw_X6_15, ct_X6.2.2.2⟩
theorem fw_X6_18 : Cond.fieldLink RX6 18 (TX6 2).1 (TX6 2).2.1 (TX6 2).2.2.1 ∈ jws := jmem (i := 214) (by decide +kernel) rfl
theorem fl_X6_18 : jfd RX6 18 6 2 := ⟨RX6, TX6, 7, rfl, by decide, fw_X6_18, ct_X6.2.2.2⟩
theorem fw_X6_32 : Cond.fieldLink RX6 32 (TX6 3).1 (TX6 3).2.1 (TX6 3).2.2.1 ∈ jws := jmem (i := 215) (by decide +kernel) rfl
theorem fl_X6_32 : jfd RX6 32 6 3 := ⟨RX6, TX6, 7, rfl, by decide, fw_X6_32, ct_X6.2.2.2⟩
theorem fw_X10_304 : Cond.fieldLink RX10 304 (TX6 3).1 (TX6 3).2.1 (TX6 3).2.2.1 ∈ jws := jmem (i := 216) (by decide +kernel) rfl
theorem fl_X10_304 : jfd RX10 304 6 3 := ⟨RX6, TX6, 7, rfl, by decide, fw_X10_304, ct_X6.2.2.2⟩
theorem fw_X6_23 : Cond.fieldLink RX6 23 (TX6 4).1 (TX6 4).2.1 (TX6 4).2.2.1 ∈ jws := jmem (i := 217) (by decide +kernel) rfl
theorem fl_X6_23 : jfd RX6 23 6 4 := ⟨RX6, TX6, 7, rfl, by decide, fw_X6_23, ct_X6.2.2.2⟩
theorem fw_X6_26 : Cond.fieldLink RX6 26 (TX6 5).1 (TX6 5).2.1 (TX6 5).2.2.1 ∈ jws := jmem (i := 218) (by decide +kernel) rfl
theorem fl_X6_26 : jfd RX6 26 6 5 := ⟨RX6, TX6, 7, rfl, by decide, fw_X6_26, ct_X6.2.2.2⟩
theorem fw_X6_29 : Cond.fieldLink RX6 29 (TX6 6).1 (TX6 6).2.1 (TX6 6).2.2.1 ∈ jws := jmem (i := 219) (by decide +kernel) rfl
theorem fl_X6_29 : jfd RX6 29 6 6 := ⟨RX6, TX6, 7, rfl, by decide, fw_X6_29, ct_X6.2.2.2⟩
theorem fw_X2_21 : Cond.fieldLink RX2 21 (TX2 0).1 (TX2 0).2.1 (TX2 0).2.2.1 ∈ jws := jmem (i := 241) (by decide +kernel) rfl
theorem fl_X2_21 : jfd RX2 21 2 0 := ⟨RX2, TX2, 5, rfl, by decide, fw_X2_21, ct_X2.2.2.2⟩
theorem fw_X2_9 : Cond.fieldLink RX2 9 (TX2 1).1 (TX2 1).2.1 (TX2 1).2.2.1 ∈ jws := jmem (i := 242) (by decide +kernel) rfl
theorem fl_X2_9 : jfd RX2 9 2 1 := ⟨RX2, TX2, 5, rfl, by decide, fw_X2_9, ct_X2.2.2.2⟩
theorem fw_X10_253 : Cond.fieldLink RX10 253 (TX2 1).1 (TX2 1).2.1 (TX2 1).2.2.1 ∈ jws := jmem (i := 243) (by decide +kernel) rfl
theorem fl_X10_253 : jfd RX10 253 2 1 := ⟨RX2, TX2, 5, rfl, by decide, fw_X10_253, ct_X2.2.2.2⟩
theorem fw_X2_15 : Cond.fieldLink RX2 15 (TX2 2).1 (TX2 2).2.1 (TX2 2).2.2.1 ∈ jws := jmem (i := 244) (by decide +kernel) rfl
theorem fl_X2_15 : jfd RX2 15 2 2 := ⟨RX2, TX2, 5, rfl, by decide, fw_X2_15, ct_X2.2.2.2⟩
theorem fw_X2_25 : Cond.fieldLink RX2 25 (TX2 3).1 (TX2 3).2.1 (TX2 3).2.2.1 ∈ jws := jmem (i := 245) (by decide +kernel) rfl
theorem fl_X2_25 : jfd RX2 25 2 3 := ⟨RX2, TX2, 5, rfl, by decide, fw_X2_25, ct_X2.2.2.2⟩
theorem fw_X2_18 : Cond.fieldLink RX2 18 (TX2 4).1 (TX2 4).2.1 (TX2 4).2.2.1 ∈ jws := jmem (i := 246) (by decide +kernel) rfl
theorem fl_X2_18 : jfd RX2 18 2 4 := ⟨RX2, TX2, 5, rfl, by decide, fw_X2_18, ct_X2.2.2.2⟩
theorem fw_X4_25 : Cond.fieldLink RX4 25 (TX4 0).1 (TX4 0).2.1 (TX4 0).2.2.1 ∈ jws := jmem (i := 267) (by decide +kernel) rfl
theorem fl_X4_25 : jfd RX4 25 4 0 := ⟨RX4, TX4, 5, rfl, by decide, fw_X4_25, ct_X4.2.2.2⟩
theorem fw_X4_9 : Cond.fieldLink RX4 9 (TX4 1).1 (TX4 1).2.1 (TX4 1).2.2.1 ∈ jws := jmem (i := 268) (by decide +kernel) rfl
theorem fl_X4_9 : jfd RX4 9 4 1 := ⟨RX4, TX4, 5, rfl, by decide, fw_X4_9, ct_X4.2.2.2⟩
theorem fw_X4_17 : Cond.fieldLink RX4 17 (TX4 2).1 (TX4 2).2.1 (TX4 2).2.2.1 ∈ jws := jmem (i := 269) (by decide +kernel) rfl
theorem fl_X4_17 : jfd RX4 17 4 2 := ⟨RX4, TX4, 5, rfl, by decide, fw_X4_17, ct_X4.2.2.2⟩
theorem fw_X4_28 : Cond.fieldLink RX4 28 (TX4 3).1 (TX4 3).2.1 (TX4 3).2.2.1 ∈ jws := jmem (i := 270) (by decide +kernel) rfl
theorem fl_X4_28 : jfd RX4 28 4 3 := ⟨RX4, TX4, 5, rfl, by decide, fw_X4_28, ct_X4.2.2.2⟩
theorem fw_X10_276 : Cond.fieldLink RX10 276 (TX4 3).1 (TX4 3).2.1 (TX4 3).2.2.1 ∈ jws := jmem (i := 271) (by decide +kernel) rfl
theorem fl_X10_276 : jfd RX10 276 4 3 := ⟨RX4, TX4, 5, rfl, by decide, fw_X10_276, ct_X4.2.2.2⟩
theorem fw_X4_22 : Cond.fieldLink RX4 22 (TX4 4).1 (TX4 4).2.1 (TX4 4).2.2.1 ∈ jws := jmem (i := 272) (by decide +kernel) rfl
theorem fl_X4_22 : jfd RX4 22 4 4 := ⟨RX4, TX4, 5, rfl, by decide, fw_X4_22, ct_X4.2.2.2⟩
theorem fw_X5_12 : Cond.fieldLink RX5 12 (TX5 0).1 (TX5 0).2.1 (TX5 0).2.2.1 ∈ jws := jmem (i := 302) (by decide +kernel) rfl
theorem fl_X5_12 : jfd RX5 12 5 0 := ⟨RX5, TX5, 2, rfl, by decide, fw_X5_12, ct_X5.2.2.2⟩
theorem fw_X10_289 : Cond.fieldLink RX10 289 (TX5 0).1 (TX5 0).2.1 (TX5 0).2.2.1 ∈ jws := jmem (i := 303) (by decide +kernel) rfl
theorem fl_X10_289 : jfd RX10 289 5 0 := ⟨RX5, TX5, 2, rfl, by decide, fw_X10_289, ct_X5.2.2.2⟩
theorem fw_X5_18 : Cond.fieldLink RX5 18 (TX5 1).1 (TX5 1).2.1 (TX5 1).2.2.1 ∈ jws := jmem (i := 304) (by decide +kernel) rfl
theorem fl_X5_18 : jfd RX5 18 5 1 := ⟨RX5, TX5, 2, rfl, by decide, fw_X5_18, ct_X5.2.2.2⟩
theorem fw_X10_295 : Cond.fieldLink RX10 295 (TX5 1).1 (TX5 1).2.1 (TX5 1).2.2.1 ∈ jws := jmem (i := 305) (by decide +kernel) rfl
theorem fl_X10_295 : jfd RX10 295 5 1 := ⟨RX5, TX5, 2, rfl, by decide, fw_X10_295, ct_X5.2.2.2⟩
theorem fw_X10_10 : Cond.fieldLink RX10 10 (TX10 0).1 (TX10 0).2.1 (TX10 0).2.2.1 ∈ jws := jmem (i := 311) (by decide +kernel) rfl
theorem fl_X10_10 : jfd RX10 10 10 0 := ⟨RX10, TX10, 10, rfl, by decide, fw_X10_10, ct_X10.2.2.2⟩
theorem fw_X10_21 : Cond.fieldLink RX10 21 (TX10 1).1 (TX10 1).2.1 (TX10 1).2.2.1 ∈ jws := jmem (i := 312) (by decide +kernel) rfl
theorem fl_X10_21 : jfd RX10 21 10 1 := ⟨RX10, TX10, 10, rfl, by decide, fw_X10_21, ct_X10.2.2.2⟩
theorem fw_X10_40 : Cond.fieldLink RX10 40 (TX10 2).1 (TX10 2).2.1 (TX10 2).2.2.1 ∈ jws := jmem (i := 313) (by decide +kernel) rfl
theorem fl_X10_40 : jfd RX10 40 10 2 := ⟨RX10, TX10, 10, rfl, by decide, fw_X10_40, ct_X10.2.2.2⟩
theorem fw_X10_47 : Cond.fieldLink RX10 47 (TX10 3).1 (TX10 3).2.1 (TX10 3).2.2.1 ∈ jws := jmem (i := 314) (by decide +kernel) rfl
theorem fl_X10_47 : jfd RX10 47 10 3 := ⟨RX10, TX10, 10, rfl, by decide, fw_X10_47, ct_X10.2.2.2⟩
theorem fw_X10_54 : Cond.fieldLink RX10 54 (TX10 4).1 (TX10 4).2.1 (TX10 4).2.2.1 ∈ jws := jmem (i := 315) (by decide +kernel) rfl
theorem fl_X10_54 : jfd RX10 54 10 4 := ⟨RX10, TX10, 10, rfl, by decide, fw_X10_54, ct_X10.2.2.2⟩
theorem fw_X10_61 : Cond.fieldLink RX10 61 (TX10 5).1 (TX10 5).2.1 (TX10 5).2.2.1 ∈ jws := jmem (i := 316) (by decide +kernel) rfl
theorem fl_X10_61 : jfd RX10 61 10 5 := ⟨RX10, TX10, 10, rfl, by decide, fw_X10_61, ct_X10.2.2.2⟩
theorem fw_X10_68 : Cond.fieldLink RX10 68 (TX10 6).1 (TX10 6).2.1 (TX10 6).2.2.1 ∈ jws := jmem (i := 317) (by decide +kernel) rfl
theorem fl_X10_68 : jfd RX10 68 10 6 := ⟨RX10, TX10, 10, rfl, by decide, fw_X10_68, ct_X10.2.2.2⟩
theorem fw_X10_77 : Cond.fieldLink RX10 77 (TX10 7).1 (TX10 7).2.1 (TX10 7).2.2.1 ∈ jws := jmem (i := 318) (by decide +kernel) rfl
theorem fl_X10_77 : jfd RX10 77 10 7 := ⟨RX10, TX10, 10, rfl, by decide, fw_X10_77, ct_X10.2.2.2⟩
theorem fw_X10_84 : Cond.fieldLink RX10 84 (TX10 8).1 (TX10 8).2.1 (TX10 8).2.2.1 ∈ jws := jmem (i := 319) (by decide +kernel) rfl
theorem fl_X10_84 : jfd RX10 84 10 8 := ⟨RX10, TX10, 10, rfl, by decide, fw_X10_84, ct_X10.2.2.2⟩
theorem fw_X10_25 : Cond.fieldLink RX10 25 (TX10 9).1 (TX10 9).2.1 (TX10 9).2.2.1 ∈ jws := jmem (i := 320) (by decide +kernel) rfl
theorem fl_X10_25 : jfd RX10 25 10 9 := ⟨RX10, TX10, 10, rfl, by decide, fw_X10_25, ct_X10.2.2.2⟩
theorem fw_X11_7 : Cond.fieldLink RX11 7 (TX11 0).1 (TX11 0).2.1 (TX11 0).2.2.1 ∈ jws := jmem (i := 803) (by decide +kernel) rfl
theorem fl_X11_7 : jfd RX11 7 11 0 := ⟨RX11, TX11, 25, rfl, by decide, fw_X11_7, ct_X11.2.2.2⟩
theorem fw_X11_13 : Cond.fieldLink RX11 13 (TX11 1).1 (TX11 1).2.1 (TX11 1).2.2.1 ∈ jws := jmem (i := 804) (by decide +kernel) rfl
theorem fl_X11_13 : jfd RX11 13 11 1 := ⟨RX11, TX11, 25, rfl, by decide, fw_X11_13, ct_X11.2.2.2⟩
theorem fw_X11_16 : Cond.fieldLink RX11 16 (TX11 2).1 (TX11 2).2.1 (TX11 2).2.2.1 ∈ jws := jmem (i := 805) (by decide +kernel) rfl
theorem fl_X11_16 : jfd RX11 16 11 2 := ⟨RX11, TX11, 25, rfl, by decide, fw_X11_16, ct_X11.2.2.2⟩
theorem fw_X11_19 : Cond.fieldLink RX11 19 (TX11 3).1 (TX11 3).2.1 (TX11 3).2.2.1 ∈ jws := jmem (i := 806) (by decide +kernel) rfl
theorem fl_X11_19 : jfd RX11 19 11 3 := ⟨RX11, TX11, 25, rfl, by decide, fw_X11_19, ct_X11.2.2.2⟩
theorem fw_X11_22 : Cond.fieldLink RX11 22 (TX11 4).1 (TX11 4).2.1 (TX11 4).2.2.1 ∈ jws := jmem (i := 807) (by decide +kernel) rfl
theorem fl_X11_22 : jfd RX11 22 11 4 := ⟨RX11, TX11, 25, rfl, by decide, fw_X11_22, ct_X11.2.2.2⟩
theorem fw_X11_25 : Cond.fieldLink RX11 25 (TX11 5).1 (TX11 5).2.1 (TX11 5).2.2.1 ∈ jws := jmem (i := 808) (by decide +kernel) rfl
theorem fl_X11_25 : jfd RX11 25 11 5 := ⟨RX11, TX11, 25, rfl, by decide, fw_X11_25, ct_X11.2.2.2⟩
theorem fw_X11_28 : Cond.fieldLink RX11 28 (TX11 6).1 (TX11 6).2.1 (TX11 6).2.2.1 ∈ jws := jmem (i := 809) (by decide +kernel) rfl
theorem fl_X11_28 : jfd RX11 28 11 6 := ⟨RX11, TX11, 25, rfl, by decide, fw_X11_28, ct_X11.2.2.2⟩
theorem fw_X11_31 : Cond.fieldLink RX11 31 (TX11 7).1 (TX11 7).2.1 (TX11 7).2.2.1 ∈ jws := jmem (i := 810) (by decide +kernel) rfl
theorem fl_X11_31 : jfd RX11 31 11 7 := ⟨RX11, TX11, 25, rfl, by decide, fw_X11_31, ct_X11.2.2.2⟩
theorem fw_X11_34 : Cond.fieldLink RX11 34 (TX11 8).1 (TX11 8).2.1 (TX11 8).2.2.1 ∈ jws := jmem (i := 811) (by decide +kernel) rfl
theorem fl_X11_34 : jfd RX11 34 11 8 := ⟨RX11, TX11, 25, rfl, by decide, fw_X11_34, ct_X11.2.2.2⟩
theorem fw_X11_37 : Cond.fieldLink RX11 37 (TX11 9).1 (TX11 9).2.1 (TX11 9).2.2.1 ∈ jws := jmem (i := 812) (by decide +kernel) rfl
theorem fl_X11_37 : jfd RX11 37 11 9 := ⟨RX11, TX11, 25, rfl, by decide, fw_X11_37, ct_X11.2.2.2⟩
theorem fw_X11_40 : Cond.fieldLink RX11 40 (TX11 10).1 (TX11 10).2.1 (TX11 10).2.2.1 ∈ jws := jmem (i := 813) (by decide +kernel) rfl
theorem fl_X11_40 : jfd RX11 40 11 10 := ⟨RX11, TX11, 25, rfl, by decide, fw_X11_40, ct_X11.2.2.2⟩
theorem fw_X11_43 : Cond.fieldLink RX11 43 (TX11 11).1 (TX11 11).2.1 (TX11 11).2.2.1 ∈ jws := jmem (i := 814) (by decide +kernel) rfl
theorem fl_X11_43 : jfd RX11 43 11 11 := ⟨RX11, TX11, 25, rfl, by decide, fw_X11_43, ct_X11.2.2.2⟩
theorem fw_X11_46 : Cond.fieldLink RX11 46 (TX11 12).1 (TX11 12).2.1 (TX11 12).2.2.1 ∈ jws := jmem (i := 815) (by decide +kernel) rfl
theorem fl_X11_46 : jfd RX11 46 11 12 := ⟨RX11, TX11, 25, rfl, by decide, fw_X11_46, ct_X11.2.2.2⟩
theorem fw_X11_49 : Cond.fieldLink RX11 49 (TX11 13).1 (TX11 13).2.1 (TX11 13).2.2.1 ∈ jws := jmem (i := 816) (by decide +kernel) rfl
theorem fl_X11_49 : jfd RX11 49 11 13 := ⟨RX11, TX11, 25, rfl, by decide, fw_X11_49, ct_X11.2.2.2⟩
theorem fw_X11_52 : Cond.fieldLink RX11 52 (TX11 14).1 (TX11 14).2.1 (TX11 14).2.2.1 ∈ jws := jmem (i := 817) (by decide +kernel) rfl
theorem fl_X11_52 : jfd RX11 52 11 14 := ⟨RX11, TX11, 25, rfl, by decide, fw_X11_52, ct_X11.2.2.2⟩
theorem fw_X11_55 : Cond.fieldLink RX11 55 (TX11 15).1 (TX11 15).2.1 (TX11 15).2.2.1 ∈ jws := jmem (i := 818) (by decide +kernel) rfl
theorem fl_X11_55 : jfd RX11 55 11 15 := ⟨RX11, TX11, 25, rfl, by decide, fw_X11_55, ct_X11.2.2.2⟩
theorem fw_X11_58 : Cond.fieldLink RX11 58 (TX11 16).1 (TX11 16).2.1 (TX11 16).2.2.1 ∈ jws := jmem (i := 819) (by decide +kernel) rfl
theorem fl_X11_58 : jfd RX11 58 11 16 := ⟨RX11, TX11, 25, rfl, by decide, fw_X11_58, ct_X11.2.2.2⟩
theorem fw_X11_61 : Cond.fieldLink RX11 61 (TX11 17).1 (TX11 17).2.1 (TX11 17).2.2.1 ∈ jws := jmem (i := 820) (by decide +kernel) rfl
theorem fl_X11_61 : jfd RX11 61 11 17 := ⟨RX11, TX11, 25, rfl, by decide, fw_X11_61, ct_X11.2.2.2⟩
theorem fw_X11_64 : Cond.fieldLink RX11 64 (TX11 18).1 (TX11 18).2.1 (TX11 18).2.2.1 ∈ jws := jmem (i := 821) (by decide +kernel) rfl
theorem fl_X11_64 : jfd RX11 64 11 18 := ⟨RX11, TX11, 25, rfl, by decide, fw_X11_64, ct_X11.2.2.2⟩
theorem fw_X11_67 : Cond.fieldLink RX11 67 (TX11 19).1 (TX11 19).2.1 (TX11 19).2.2.1 ∈ jws := jmem (i := 822) (by decide +kernel) rfl
theorem fl_X11_67 : jfd RX11 67 11 19 := ⟨RX11, TX11, 25, rfl, by decide, fw_X11_67, ct_X11.2.2.2⟩
theorem fw_X11_70 : Cond.fieldLink RX11 70 (TX11 20).1 (TX11 20).2.1 (TX11 20).2.2.1 ∈ jws := jmem (i := 823) (by decide +kernel) rfl
theorem fl_X11_70 : jfd RX11 70 11 20 := ⟨RX11, TX11, 25, rfl, by decide, fw_X11_70, ct_X11.2.2.2⟩
theorem fw_X11_73 : Cond.fieldLink RX11 73 (TX11 21).1 (TX11 21).2.1 (TX11 21).2.2.1 ∈ jws := jmem (i := 824) (by decide +kernel) rfl
theorem fl_X11_73 : jfd RX11 73 11 21 := ⟨RX11, TX11, 25, rfl, by decide, fw_X11_73, ct_X11.2.2.2⟩
theorem fw_X11_76 : Cond.fieldLink RX11 76 (TX11 22).1 (TX11 22).2.1 (TX11 22).2.2.1 ∈ jws := jmem (i := 825) (by decide +kernel) rfl
theorem fl_X11_76 : jfd RX11 76 11 22 := ⟨RX11, TX11, 25, rfl, by decide, fw_X11_76, ct_X11.2.2.2⟩
theorem fw_X11_79 : Cond.fieldLink RX11 79 (TX11 23).1 (TX11 23).2.1 (TX11 23).2.2.1 ∈ jws := jmem (i := 826) (by decide +kernel) rfl
theorem fl_X11_79 : jfd RX11 79 11 23 := ⟨RX11, TX11, 25, rfl, by decide, fw_X11_79, ct_X11.2.2.2⟩
theorem fw_X11_82 : Cond.fieldLink RX11 82 (TX11 24).1 (TX11 24).2.1 (TX11 24).2.2.1 ∈ jws := jmem (i := 827) (by decide +kernel) rfl
theorem fl_X11_82 : jfd RX11 82 11 24 := ⟨RX11, TX11, 25, rfl, by decide, fw_X11_82, ct_X11.2.2.2⟩
theorem ml_L_9 : Cond.methodLink RL 9 yX10_init ∈ jws := jmem (i := 19) (by decide +kernel) rfl
theorem ml_X10_1 : Cond.methodLink RX10 1 Lib.objectInit ∈ jws := jmem (i := 22) (by decide +kernel) rfl
theorem ml_X3_3 : Cond.methodLink RX3 3 Lib.objectInit ∈ jws := jmem (i := 30) (by decide +kernel) rfl
theorem ml_X10_18 : Cond.methodLink RX10 18 yX8_init ∈ jws := jmem (i := 115) (by decide +kernel) rfl
theorem ml_X8_3 : Cond.methodLink RX8 3 Lib.objectInit ∈ jws := jmem (i := 118) (by decide +kernel) rfl
theorem ml_X10_29 : Cond.methodLink RX10 29 yJ7_fill_53178 ∈ jws := jmem (i := 130) (by decide +kernel) rfl
theorem ml_X10_37 : Cond.methodLink RX10 37 yX1_init ∈ jws := jmem (i := 135) (by decide +kernel) rfl
theorem ml_X1_3 : Cond.methodLink RX1 3 Lib.objectInit ∈ jws := jmem (i := 138) (by decide +kernel) rfl
theorem ml_X0_3 : Cond.methodLink RX0 3 Lib.objectInit ∈ jws := jmem (i := 145) (by decide +kernel) rfl
theorem ml_X10_46 : Cond.methodLink RX10 46 yX9_init ∈ jws := jmem (i := 175) (by decide +kernel) rfl
theorem ml_X9_3 : Cond.methodLink RX9 3 Lib.objectInit ∈ jws := jmem (i := 178) (by decide +kernel) rfl
theorem ml_X10_53 : Cond.methodLink RX10 53 yX7_init ∈ jws := jmem (i := 193) (by decide +kernel) rfl
theorem ml_X7_3 : Cond.methodLink RX7 3 Lib.objectInit ∈ jws := jmem (i := 196) (by decide +kernel) rfl
theorem ml_X6_3 : Cond.methodLink RX6 3 Lib.objectInit ∈ jws := jmem (i := 210) (by decide +kernel) rfl
theorem ml_X10_67 : Cond.methodLink RX10 67 yX2_init ∈ jws := jmem (i := 237) (by decide +kernel) rfl
theorem ml_X2_3 : Cond.methodLink RX2 3 Lib.objectInit ∈ jws := jmem (i := 240) (by decide +kernel) rfl
theorem ml_X10_74 : Cond.methodLink RX10 74 yX4_init ∈ jws := jmem (i := 260) (by decide +kernel) rfl
theorem ml_X4_3 : Cond.methodLink RX4 3 Lib.objectInit ∈ jws := jmem (i := 263) (by decide +kernel) rfl
theorem ml_X10_83 : Cond.methodLink RX10 83 yX5_init ∈ jws := jmem (i := 287) (by decide +kernel) rfl
theorem ml_X5_3 : Cond.methodLink RX5 3 Lib.objectInit ∈ jws := jmem (i := 290) (by decide +kernel) rfl
theorem ml_X5_21 : Cond.methodLink RX5 21 yX0_put ∈ jws := jmem (i := 293) (by decide +kernel) rfl
theorem ml_X0_17 : Cond.methodLink RX0 17 yX0_carryOn ∈ jws := jmem (i := 297) (by decide +kernel) rfl
theorem ml_L_13 : Cond.methodLink RL 13 yX10_word ∈ jws := jmem (i := 342) (by decide +kernel) rfl
theorem ml_X10_88 : Cond.methodLink RX10 88 yX10_isRank ∈ jws := jmem (i := 346) (by decide +kernel) rfl
theorem ml_X10_92 : Cond.methodLink RX10 92 yX10_within ∈ jws := jmem (i := 349) (by decide +kernel) rfl
theorem ml_X10_96 : Cond.methodLink RX10 96 yX3_addWord ∈ jws := jmem (i := 352) (by decide +kernel) rfl
theorem ml_L_18 : Cond.methodLink RL 18 yX10_hand ∈ jws := jmem (i := 356) (by decide +kernel) rfl
theorem ml_X10_100 : Cond.methodLink RX10 100 yX10_isHand ∈ jws := jmem (i := 360) (by decide +kernel) rfl
theorem ml_X10_103 : Cond.methodLink RX10 103 yX3_addHand ∈ jws := jmem (i := 364) (by decide +kernel) rfl
theorem ml_L_23 : Cond.methodLink RL 23 yX10_pupil ∈ jws := jmem (i := 368) (by decide +kernel) rfl
theorem ml_X10_107 : Cond.methodLink RX10 107 yX3_addPupil ∈ jws := jmem (i := 372) (by decide +kernel) rfl
theorem ml_L_27 : Cond.methodLink RL 27 yX10_became ∈ jws := jmem (i := 376) (by decide +kernel) rfl
theorem ml_X10_110 : Cond.methodLink RX10 110 yX10_isPupil ∈ jws := jmem (i := 380) (by decide +kernel) rfl
theorem ml_L_31 : Cond.methodLink RL 31 yX10_letter ∈ jws := jmem (i := 384) (by decide +kernel) rfl
theorem ml_X10_116 : Cond.methodLink RX10 116 yX10_isYear ∈ jws := jmem (i := 388) (by decide +kernel) rfl
theorem ml_X10_119 : Cond.methodLink RX10 119 yX3_addLetter ∈ jws := jmem (i := 391) (by decide +kernel) rfl
theorem ml_L_36 : Cond.methodLink RL 36 yX10_write ∈ jws := jmem (i := 395) (by decide +kernel) rfl
theorem ml_X10_123 : Cond.methodLink RX10 123 yX10_isLetter ∈ jws := jmem (i := 399) (by decide +kernel) rfl
theorem ml_X10_126 : Cond.methodLink RX10 126 yX10_isWord ∈ jws := jmem (i := 403) (by decide +kernel) rfl
theorem ml_X10_129 : Cond.methodLink RX10 129 yX3_addToLetter ∈ jws := jmem (i := 407) (by decide +kernel) rfl
theorem ml_L_40 : Cond.methodLink RL 40 yX10_weight ∈ jws := jmem (i := 411) (by decide +kernel) rfl
theorem ml_X10_132 : Cond.methodLink RX10 132 yX10_isGift ∈ jws := jmem (i := 415) (by decide +kernel) rfl
theorem ml_L_44 : Cond.methodLink RL 44 yX10_uses ∈ jws := jmem (i := 418) (by decide +kernel) rfl
theorem ml_X10_135 : Cond.methodLink RX10 135 yX8_takeAllBut ∈ jws := jmem (i := 422) (by decide +kernel) rfl
theorem ml_X8_24 : Cond.methodLink RX8 24 yJ7_fill_53178 ∈ jws := jmem (i := 426) (by decide +kernel) rfl
theorem ml_X8_45 : Cond.methodLink RX8 45 yX8_rowOf ∈ jws := jmem (i := 427) (by decide +kernel) rfl
theorem ml_X8_49 : Cond.methodLink RX8 49 yX8_takeLetter ∈ jws := jmem (i := 430) (by decide +kernel) rfl
theorem ml_X10_139 : Cond.methodLink RX10 139 yX8_usesOf ∈ jws := jmem (i := 434) (by decide +kernel) rfl
theorem ml_L_48 : Cond.methodLink RL 48 yX10_means ∈ jws := jmem (i := 438) (by decide +kernel) rfl
theorem ml_X10_142 : Cond.methodLink RX10 142 yX8_meantAbove ∈ jws := jmem (i := 442) (by decide +kernel) rfl
theorem ml_X8_62 : Cond.methodLink RX8 62 yX8_usesOf ∈ jws := jmem (i := 446) (by decide +kernel) rfl
theorem ml_X10_146 : Cond.methodLink RX10 146 yX8_meantBelow ∈ jws := jmem (i := 447) (by decide +kernel) rfl
theorem ml_X8_69 : Cond.methodLink RX8 69 yX8_usesOfAll ∈ jws := jmem (i := 451) (by decide +kernel) rfl
theorem ml_X10_150 : Cond.methodLink RX10 150 yX5_put ∈ jws := jmem (i := 455) (by decide +kernel) rfl
theorem ml_X5_25 : Cond.methodLink RX5 25 yX5_commonOf ∈ jws := jmem (i := 459) (by decide +kernel) rfl
theorem ml_L_52 : Cond.methodLink RL 52 yX10_odds ∈ jws := jmem (i := 462) (by decide +kernel) rfl
theorem ml_X10_154 : Cond.methodLink RX10 154 yX1_wordsFor ∈ jws := jmem (i := 466) (by decide +kernel) rfl
theorem ml_X10_157 : Cond.methodLink RX10 157 yX1_takeFor ∈ jws := jmem (i := 470) (by decide +kernel) rfl
theorem ml_X1_46 : Cond.methodLink RX1 46 yX8_takeAllBut ∈ jws := jmem (i := 474) (by decide +kernel) rfl
theorem ml_X1_52 : Cond.methodLink RX1 52 yX0_put ∈ jws := jmem (i := 475) (by decide +kernel) rfl
theorem ml_X1_56 : Cond.methodLink RX1 56 yX1_takeLetter ∈ jws := jmem (i := 476) (by decide +kernel) rfl
theorem ml_X1_70 : Cond.methodLink RX1 70 yX1_factorOf ∈ jws := jmem (i := 480) (by decide +kernel) rfl
theorem ml_X1_77 : Cond.methodLink RX1 77 yX8_meantAbove ∈ jws := jmem (i := 484) (by decide +kernel) rfl
theorem ml_X1_80 : Cond.methodLink RX1 80 yX8_meantBelow ∈ jws := jmem (i := 485) (by decide +kernel) rfl
theorem ml_X1_74 : Cond.methodLink RX1 74 yX0_multiply ∈ jws := jmem (i := 486) (by decide +kernel) rfl
theorem ml_X1_59 : Cond.methodLink RX1 59 yX0_add ∈ jws := jmem (i := 490) (by decide +kernel) rfl
theorem ml_X10_168 : Cond.methodLink RX10 168 yX5_putBig ∈ jws := jmem (i := 494) (by decide +kernel) rfl
theorem ml_X5_29 : Cond.methodLink RX5 29 yX0_copy ∈ jws := jmem (i := 498) (by decide +kernel) rfl
theorem ml_X0_21 : Cond.methodLink RX0 21 arraycopyName ∈ jws := jmem (i := 502) (by decide +kernel) rfl
theorem ml_X5_33 : Cond.methodLink RX5 33 yX0_restOf ∈ jws := jmem (i := 505) (by decide +kernel) rfl
theorem ml_X5_37 : Cond.methodLink RX5 37 yX0_divide ∈ jws := jmem (i := 509) (by decide +kernel) rfl
theorem ml_L_56 : Cond.methodLink RL 56 yX10_likeliest ∈ jws := jmem (i := 513) (by decide +kernel) rfl
theorem ml_X10_172 : Cond.methodLink RX10 172 yX1_greatest ∈ jws := jmem (i := 517) (by decide +kernel) rfl
theorem ml_X1_84 : Cond.methodLink RX1 84 yX0_isAbove ∈ jws := jmem (i := 521) (by decide +kernel) rfl
theorem ml_L_60 : Cond.methodLink RL 60 yX10_says ∈ jws := jmem (i := 525) (by decide +kernel) rfl
theorem ml_L_64 : Cond.methodLink RL 64 yX10_year ∈ jws := jmem (i := 529) (by decide +kernel) rfl
theorem ml_X10_183 : Cond.methodLink RX10 183 yX9_take ∈ jws := jmem (i := 533) (by decide +kernel) rfl
theorem ml_X9_22 : Cond.methodLink RX9 22 yJ7_fill_53178 ∈ jws := jmem (i := 537) (by decide +kernel) rfl
theorem ml_X9_40 : Cond.methodLink RX9 40 yX9_takeLetter ∈ jws := jmem (i := 538) (by decide +kernel) rfl
theorem ml_X10_187 : Cond.methodLink RX10 187 yX9_wordsUpTo ∈ jws := jmem (i := 542) (by decide +kernel) rfl
theorem ml_X10_191 : Cond.methodLink RX10 191 yX9_sumOfRanks ∈ jws := jmem (i := 546) (by decide +kernel) rfl
theorem ml_L_68 : Cond.methodLink RL 68 yX10_asIn ∈ jws := jmem (i := 550) (by decide +kernel) rfl
theorem ml_X10_198 : Cond.methodLink RX10 198 yX9_rankInSecond ∈ jws := jmem (i := 554) (by decide +kernel) rfl
theorem ml_X9_53 : Cond.methodLink RX9 53 yX9_wordsUpTo ∈ jws := jmem (i := 558) (by decide +kernel) rfl
theorem ml_L_72 : Cond.methodLink RL 72 yX10_about ∈ jws := jmem (i := 559) (by decide +kernel) rfl
theorem ml_X10_201 : Cond.methodLink RX10 201 yX3_lettersOn ∈ jws := jmem (i := 563) (by decide +kernel) rfl
theorem ml_X3_57 : Cond.methodLink RX3 57 yX3_isOn ∈ jws := jmem (i := 567) (by decide +kernel) rfl
theorem ml_X10_204 : Cond.methodLink RX10 204 yX3_lettersWith ∈ jws := jmem (i := 571) (by decide +kernel) rfl
theorem ml_X3_61 : Cond.methodLink RX3 61 yX3_holds ∈ jws := jmem (i := 575) (by decide +kernel) rfl
theorem ml_L_76 : Cond.methodLink RL 76 yX10_chance ∈ jws := jmem (i := 579) (by decide +kernel) rfl
theorem ml_X10_207 : Cond.methodLink RX10 207 yX10_choices ∈ jws := jmem (i := 583) (by decide +kernel) rfl
theorem ml_X10_210 : Cond.methodLink RX10 210 yJ9_min_f86c9 ∈ jws := jmem (i := 586) (by decide +kernel) rfl
theorem ml_L_80 : Cond.methodLink RL 80 yX10_like ∈ jws := jmem (i := 589) (by decide +kernel) rfl
theorem ml_X10_216 : Cond.methodLink RX10 216 yX7_longestRun ∈ jws := jmem (i := 593) (by decide +kernel) rfl
theorem ml_X7_29 : Cond.methodLink RX7 29 yJ9_max_7cf53 ∈ jws := jmem (i := 597) (by decide +kernel) rfl
theorem ml_X10_219 : Cond.methodLink RX10 219 yX7_mostInOrder ∈ jws := jmem (i := 600) (by decide +kernel) rfl
theorem ml_L_84 : Cond.methodLink RL 84 yX10_left ∈ jws := jmem (i := 604) (by decide +kernel) rfl
theorem ml_X10_222 : Cond.methodLink RX10 222 yX7_leftFrom ∈ jws := jmem (i := 608) (by decide +kernel) rfl
theorem ml_X7_45 : Cond.methodLink RX7 45 yX7_longestRun ∈ jws := jmem (i := 612) (by decide +kernel) rfl
theorem ml_L_88 : Cond.methodLink RL 88 yX10_slip ∈ jws := jmem (i := 613) (by decide +kernel) rfl
theorem ml_L_92 : Cond.methodLink RL 92 yX10_said ∈ jws := jmem (i := 617) (by decide +kernel) rfl
theorem ml_X10_241 : Cond.methodLink RX10 241 yX6_add ∈ jws := jmem (i := 621) (by decide +kernel) rfl
theorem ml_L_96 : Cond.methodLink RL 96 yX10_order ∈ jws := jmem (i := 625) (by decide +kernel) rfl
theorem ml_X10_247 : Cond.methodLink RX10 247 yX6_fewestAgainst ∈ jws := jmem (i := 629) (by decide +kernel) rfl
theorem ml_X6_36 : Cond.methodLink RX6 36 yX6_takeAhead ∈ jws := jmem (i := 633) (by decide +kernel) rfl
theorem ml_X6_49 : Cond.methodLink RX6 49 yJ6_numberOfTrailingZeros_0f7a4 ∈ jws := jmem (i := 637) (by decide +kernel) rfl
theorem ml_X6_40 : Cond.methodLink RX6 40 yX6_againstFirst ∈ jws := jmem (i := 641) (by decide +kernel) rfl
theorem ml_X6_44 : Cond.methodLink RX6 44 yJ9_min_7cf53 ∈ jws := jmem (i := 645) (by decide +kernel) rfl
theorem ml_X10_250 : Cond.methodLink RX10 250 yX6_pupilInPlace ∈ jws := jmem (i := 648) (by decide +kernel) rfl
theorem ml_X6_55 : Cond.methodLink RX6 55 yX6_firstOf ∈ jws := jmem (i := 652) (by decide +kernel) rfl
theorem ml_L_100 : Cond.methodLink RL 100 yX10_sure ∈ jws := jmem (i := 656) (by decide +kernel) rfl
theorem ml_L_104 : Cond.methodLink RL 104 yX10_kin ∈ jws := jmem (i := 660) (by decide +kernel) rfl
theorem ml_L_108 : Cond.methodLink RL 108 yX10_dealt ∈ jws := jmem (i := 664) (by decide +kernel) rfl
theorem ml_X10_259 : Cond.methodLink RX10 259 yJ6_bitCount_0f7a4 ∈ jws := jmem (i := 668) (by decide +kernel) rfl
theorem ml_X10_264 : Cond.methodLink RX10 264 yX2_waysOf ∈ jws := jmem (i := 674) (by decide +kernel) rfl
theorem ml_X2_33 : Cond.methodLink RX2 33 yX2_waysBehind ∈ jws := jmem (i := 678) (by decide +kernel) rfl
theorem ml_X2_37 : Cond.methodLink RX2 37 yJ6_bitCount_0f7a4 ∈ jws := jmem (i := 682) (by decide +kernel) rfl
theorem ml_X2_42 : Cond.methodLink RX2 42 yX2_canRead ∈ jws := jmem (i := 683) (by decide +kernel) rfl
theorem ml_X10_267 : Cond.methodLink RX10 267 yX2_readerInFirst ∈ jws := jmem (i := 687) (by decide +kernel) rfl
theorem ml_X2_49 : Cond.methodLink RX2 49 yX2_firstReader ∈ jws := jmem (i := 691) (by decide +kernel) rfl
theorem ml_L_112 : Cond.methodLink RL 112 yX10_bounds ∈ jws := jmem (i := 695) (by decide +kernel) rfl
theorem ml_L_117 : Cond.methodLink RL 117 yX10_question ∈ jws := jmem (i := 699) (by decide +kernel) rfl
theorem ml_X10_270 : Cond.methodLink RX10 270 yX10_isPercent ∈ jws := jmem (i := 703) (by decide +kernel) rfl
theorem ml_X10_273 : Cond.methodLink RX10 273 yX4_add ∈ jws := jmem (i := 706) (by decide +kernel) rfl
theorem ml_L_122 : Cond.methodLink RL 122 yX10_tells ∈ jws := jmem (i := 710) (by decide +kernel) rfl
theorem ml_X10_279 : Cond.methodLink RX10 279 yX4_guessedRight ∈ jws := jmem (i := 714) (by decide +kernel) rfl
theorem ml_X4_32 : Cond.methodLink RX4 32 yX4_ask ∈ jws := jmem (i := 718) (by decide +kernel) rfl
theorem ml_X4_36 : Cond.methodLink RX4 36 yJ9_max_f86c9 ∈ jws := jmem (i := 722) (by decide +kernel) rfl
theorem ml_X10_283 : Cond.methodLink RX10 283 yX4_allGuesses ∈ jws := jmem (i := 725) (by decide +kernel) rfl
theorem ml_X4_42 : Cond.methodLink RX4 42 yJ6_bitCount_0f7a4 ∈ jws := jmem (i := 729) (by decide +kernel) rfl
theorem ml_X4_48 : Cond.methodLink RX4 48 yX4_hundreds ∈ jws := jmem (i := 730) (by decide +kernel) rfl
theorem ml_L_126 : Cond.methodLink RL 126 yX10_form ∈ jws := jmem (i := 734) (by decide +kernel) rfl
theorem ml_X10_286 : Cond.methodLink RX10 286 yX4_bestWithin ∈ jws := jmem (i := 738) (by decide +kernel) rfl
theorem ml_X4_54 : Cond.methodLink RX4 54 yX4_minutesOf ∈ jws := jmem (i := 742) (by decide +kernel) rfl
theorem ml_X4_57 : Cond.methodLink RX4 57 yX4_guessedRight ∈ jws := jmem (i := 746) (by decide +kernel) rfl
theorem ml_L_130 : Cond.methodLink RL 130 yX10_sign ∈ jws := jmem (i := 747) (by decide +kernel) rfl
theorem ml_L_134 : Cond.methodLink RL 134 yX10_limb ∈ jws := jmem (i := 751) (by decide +kernel) rfl
theorem ml_L_138 : Cond.methodLink RL 138 yX10_count ∈ jws := jmem (i := 755) (by decide +kernel) rfl
theorem ml_L_142 : Cond.methodLink RL 142 yX10_digest ∈ jws := jmem (i := 759) (by decide +kernel) rfl
theorem ml_X10_309 : Cond.methodLink RX10 309 yX10_count ∈ jws := jmem (i := 765) (by decide +kernel) rfl
theorem ml_X10_312 : Cond.methodLink RX10 312 yX3_digestInto ∈ jws := jmem (i := 766) (by decide +kernel) rfl
theorem ml_X10_316 : Cond.methodLink RX10 316 yX10_digestOfRow ∈ jws := jmem (i := 774) (by decide +kernel) rfl
theorem ml_X10_320 : Cond.methodLink RX10 320 yX6_digestInto ∈ jws := jmem (i := 775) (by decide +kernel) rfl
theorem ml_X10_321 : Cond.methodLink RX10 321 yX4_digestInto ∈ jws := jmem (i := 780) (by decide +kernel) rfl
theorem ml_X10_322 : Cond.methodLink RX10 322 yX10_order ∈ jws := jmem (i := 786) (by decide +kernel) rfl
theorem ml_X10_325 : Cond.methodLink RX10 325 yX10_sign ∈ jws := jmem (i := 787) (by decide +kernel) rfl
theorem ml_L_12 : Cond.methodLink RL 12 yX11_init ∈ jws := jmem (i := 790) (by decide +kernel) rfl
theorem ml_X11_1 : Cond.methodLink RX11 1 Lib.objectInit ∈ jws := jmem (i := 793) (by decide +kernel) rfl
theorem ml_X11_85 : Cond.methodLink RX11 85 yX11_sets ∈ jws := jmem (i := 794) (by decide +kernel) rfl
theorem ml_X11_91 : Cond.methodLink RX11 91 yX11_trims ∈ jws := jmem (i := 799) (by decide +kernel) rfl
theorem ml_L_133 : Cond.methodLink RL 133 yX11_sign ∈ jws := jmem (i := 879) (by decide +kernel) rfl
theorem ml_L_137 : Cond.methodLink RL 137 yX11_limb ∈ jws := jmem (i := 883) (by decide +kernel) rfl
theorem ml_X11_120 : Cond.methodLink RX11 120 yX11_in ∈ jws := jmem (i := 887) (by decide +kernel) rfl
theorem ml_L_17 : Cond.methodLink RL 17 yX11_word ∈ jws := jmem (i := 890) (by decide +kernel) rfl
theorem ml_X11_128 : Cond.methodLink RX11 128 yX11_next ∈ jws := jmem (i := 896) (by decide +kernel) rfl
theorem ml_L_22 : Cond.methodLink RL 22 yX11_hand ∈ jws := jmem (i := 900) (by decide +kernel) rfl
theorem ml_L_26 : Cond.methodLink RL 26 yX11_pupil ∈ jws := jmem (i := 905) (by decide +kernel) rfl
theorem ml_L_30 : Cond.methodLink RL 30 yX11_became ∈ jws := jmem (i := 910) (by decide +kernel) rfl
theorem ml_X11_136 : Cond.methodLink RX11 136 yX11_is ∈ jws := jmem (i := 914) (by decide +kernel) rfl
theorem ml_L_35 : Cond.methodLink RL 35 yX11_letter ∈ jws := jmem (i := 918) (by decide +kernel) rfl
theorem ml_L_39 : Cond.methodLink RL 39 yX11_write ∈ jws := jmem (i := 923) (by decide +kernel) rfl
theorem ml_L_43 : Cond.methodLink RL 43 yX11_weight ∈ jws := jmem (i := 927) (by decide +kernel) rfl
theorem ml_X11_142 : Cond.methodLink RX11 142 yX11_isGift ∈ jws := jmem (i := 931) (by decide +kernel) rfl
theorem ml_L_47 : Cond.methodLink RL 47 yX11_uses ∈ jws := jmem (i := 934) (by decide +kernel) rfl
theorem ml_X11_148 : Cond.methodLink RX11 148 yX11_isUse ∈ jws := jmem (i := 938) (by decide +kernel) rfl
theorem ml_X11_152 : Cond.methodLink RX11 152 yX11_usesOf ∈ jws := jmem (i := 942) (by decide +kernel) rfl
theorem ml_X11_145 : Cond.methodLink RX11 145 yX11_stands ∈ jws := jmem (i := 946) (by decide +kernel) rfl
theorem ml_L_51 : Cond.methodLink RL 51 yX11_means ∈ jws := jmem (i := 950) (by decide +kernel) rfl
theorem ml_X11_156 : Cond.methodLink RX11 156 yX11_meanUp ∈ jws := jmem (i := 954) (by decide +kernel) rfl
theorem ml_X11_159 : Cond.methodLink RX11 159 yX11_meanDown ∈ jws := jmem (i := 958) (by decide +kernel) rfl
theorem ml_X11_163 : Cond.methodLink RX11 163 yX11_told ∈ jws := jmem (i := 962) (by decide +kernel) rfl
theorem ml_X11_117 : Cond.methodLink RX11 117 yX11_lowers ∈ jws := jmem (i := 966) (by decide +kernel) rfl
theorem ml_X11_100 : Cond.methodLink RX11 100 yX11_isEven ∈ jws := jmem (i := 970) (by decide +kernel) rfl
theorem ml_X11_104 : Cond.methodLink RX11 104 yX11_halves ∈ jws := jmem (i := 974) (by decide +kernel) rfl
theorem ml_X11_95 : Cond.methodLink RX11 95 yX11_takes ∈ jws := jmem (i := 978) (by decide +kernel) rfl
theorem ml_X11_107 : Cond.methodLink RX11 107 yX11_against ∈ jws := jmem (i := 982) (by decide +kernel) rfl
theorem ml_X11_111 : Cond.methodLink RX11 111 yX11_lessens ∈ jws := jmem (i := 986) (by decide +kernel) rfl
theorem ml_X11_114 : Cond.methodLink RX11 114 yX11_parts ∈ jws := jmem (i := 991) (by decide +kernel) rfl
theorem ml_L_55 : Cond.methodLink RL 55 yX11_odds ∈ jws := jmem (i := 995) (by decide +kernel) rfl
theorem ml_X11_173 : Cond.methodLink RX11 173 yX11_wordsOf ∈ jws := jmem (i := 999) (by decide +kernel) rfl
theorem ml_X11_176 : Cond.methodLink RX11 176 yX11_weighs ∈ jws := jmem (i := 1003) (by decide +kernel) rfl
theorem ml_X11_167 : Cond.methodLink RX11 167 yX11_times ∈ jws := jmem (i := 1007) (by decide +kernel) rfl
theorem ml_X11_179 : Cond.methodLink RX11 179 yX11_shares ∈ jws := jmem (i := 1011) (by decide +kernel) rfl
theorem ml_X11_170 : Cond.methodLink RX11 170 yX11_multiplies ∈ jws := jmem (i := 1015) (by decide +kernel) rfl
theorem ml_X11_182 : Cond.methodLink RX11 182 yX11_adds ∈ jws := jmem (i := 1019) (by decide +kernel) rfl
theorem ml_L_59 : Cond.methodLink RL 59 yX11_likeliest ∈ jws := jmem (i := 1023) (by decide +kernel) rfl
theorem ml_L_63 : Cond.methodLink RL 63 yX11_says ∈ jws := jmem (i := 1027) (by decide +kernel) rfl
theorem ml_L_67 : Cond.methodLink RL 67 yX11_year ∈ jws := jmem (i := 1031) (by decide +kernel) rfl
theorem ml_X11_185 : Cond.methodLink RX11 185 yX11_isYear ∈ jws := jmem (i := 1035) (by decide +kernel) rfl
theorem ml_X11_188 : Cond.methodLink RX11 188 yX11_wordsIn ∈ jws := jmem (i := 1038) (by decide +kernel) rfl
theorem ml_L_71 : Cond.methodLink RL 71 yX11_asIn ∈ jws := jmem (i := 1042) (by decide +kernel) rfl
theorem ml_L_75 : Cond.methodLink RL 75 yX11_about ∈ jws := jmem (i := 1046) (by decide +kernel) rfl
theorem ml_X11_191 : Cond.methodLink RX11 191 yX11_isAbout ∈ jws := jmem (i := 1050) (by decide +kernel) rfl
theorem ml_X11_194 : Cond.methodLink RX11 194 yX11_lettersOf ∈ jws := jmem (i := 1054) (by decide +kernel) rfl
theorem ml_L_79 : Cond.methodLink RL 79 yX11_chance ∈ jws := jmem (i := 1058) (by decide +kernel) rfl
theorem ml_X11_198 : Cond.methodLink RX11 198 yX11_ways ∈ jws := jmem (i := 1062) (by decide +kernel) rfl
theorem ml_L_83 : Cond.methodLink RL 83 yX11_like ∈ jws := jmem (i := 1065) (by decide +kernel) rfl
theorem ml_X11_205 : Cond.methodLink RX11 205 yX11_runOf ∈ jws := jmem (i := 1069) (by decide +kernel) rfl
theorem ml_X11_208 : Cond.methodLink RX11 208 yX11_likeOf ∈ jws := jmem (i := 1073) (by decide +kernel) rfl
theorem ml_X11_202 : Cond.methodLink RX11 202 yX11_greater ∈ jws := jmem (i := 1077) (by decide +kernel) rfl
theorem ml_L_87 : Cond.methodLink RL 87 yX11_left ∈ jws := jmem (i := 1080) (by decide +kernel) rfl
theorem ml_L_91 : Cond.methodLink RL 91 yX11_slip ∈ jws := jmem (i := 1085) (by decide +kernel) rfl
theorem ml_L_95 : Cond.methodLink RL 95 yX11_said ∈ jws := jmem (i := 1089) (by decide +kernel) rfl
theorem ml_L_99 : Cond.methodLink RL 99 yX11_order ∈ jws := jmem (i := 1093) (by decide +kernel) rfl
theorem ml_X11_216 : Cond.methodLink RX11 216 yX11_orders ∈ jws := jmem (i := 1097) (by decide +kernel) rfl
theorem ml_X11_213 : Cond.methodLink RX11 213 yX11_againstNext ∈ jws := jmem (i := 1101) (by decide +kernel) rfl
theorem ml_L_103 : Cond.methodLink RL 103 yX11_sure ∈ jws := jmem (i := 1105) (by decide +kernel) rfl
theorem ml_L_107 : Cond.methodLink RL 107 yX11_kin ∈ jws := jmem (i := 1109) (by decide +kernel) rfl
theorem ml_L_111 : Cond.methodLink RL 111 yX11_dealt ∈ jws := jmem (i := 1115) (by decide +kernel) rfl
theorem ml_X11_229 : Cond.methodLink RX11 229 yX11_deals ∈ jws := jmem (i := 1119) (by decide +kernel) rfl
theorem ml_X11_223 : Cond.methodLink RX11 223 yX11_isFree ∈ jws := jmem (i := 1123) (by decide +kernel) rfl
theorem ml_X11_226 : Cond.methodLink RX11 226 yX11_mayRead ∈ jws := jmem (i := 1127) (by decide +kernel) rfl
theorem ml_L_116 : Cond.methodLink RL 116 yX11_bounds ∈ jws := jmem (i := 1131) (by decide +kernel) rfl
theorem ml_L_121 : Cond.methodLink RL 121 yX11_question ∈ jws := jmem (i := 1136) (by decide +kernel) rfl
theorem ml_X11_238 : Cond.methodLink RX11 238 yX11_isShare ∈ jws := jmem (i := 1141) (by decide +kernel) rfl
theorem ml_L_125 : Cond.methodLink RL 125 yX11_tells ∈ jws := jmem (i := 1145) (by decide +kernel) rfl
theorem ml_X11_241 : Cond.methodLink RX11 241 yX11_tellsOf ∈ jws := jmem (i := 1149) (by decide +kernel) rfl
theorem ml_X11_245 : Cond.methodLink RX11 245 yX11_wholeOf ∈ jws := jmem (i := 1153) (by decide +kernel) rfl
theorem ml_L_129 : Cond.methodLink RL 129 yX11_form ∈ jws := jmem (i := 1157) (by decide +kernel) rfl
theorem ml_X11_251 : Cond.methodLink RX11 251 yX11_minutesOf ∈ jws := jmem (i := 1162) (by decide +kernel) rfl
theorem ml_L_141 : Cond.methodLink RL 141 yX11_count ∈ jws := jmem (i := 1166) (by decide +kernel) rfl
theorem ml_L_146 : Cond.methodLink RL 146 yX11_digest ∈ jws := jmem (i := 1170) (by decide +kernel) rfl
theorem ml_X11_258 : Cond.methodLink RX11 258 yX11_mixed ∈ jws := jmem (i := 1175) (by decide +kernel) rfl
theorem ml_X11_262 : Cond.methodLink RX11 262 yX11_sign ∈ jws := jmem (i := 1179) (by decide +kernel) rfl
theorem ml_X10_9 : (RX10, 9, yX3_init) ∈ jnest := by simp [jnest]
theorem ml_X1_17 : (RX1, 17, yX0_init) ∈ jnest := by simp [jnest]
theorem ml_X10_60 : (RX10, 60, yX6_init) ∈ jnest := by simp [jnest]
theorem ml_X5_11 : (RX5, 11, yX0_init) ∈ jnest := by simp [jnest]
theorem ml_X3_67 : (RX3, 67, yX10_digestOfRow) ∈ jnest := by simp [jnest]
theorem ml_X4_62 : (RX4, 62, yX10_digestOfRow) ∈ jnest := by simp [jnest]
theorem cm_X0_init : jcm mX0_init 0 := ⟨jmem (i := 144) (by decide +kernel) rfl, jmem (i := 6) (by decide +kernel) rfl, rfl, by decide +kernel, ⟨by decide +kernel, by decide +kernel⟩, by decide +kernel⟩
theorem im_X0_init : Cond.instanceMethod yX0_init ∈ jws := jmem (i := 143) (by decide +kernel) rfl
theorem cm_X0_put : jcm mX0_put 1 := ⟨jmem (i := 296) (by decide +kernel) rfl, jmem (i := 6) (by decide +kernel) rfl, rfl, by decide +kernel, ⟨by decide +kernel, by decide +kernel⟩, by decide +kernel⟩
theorem im_X0_put : Cond.instanceMethod yX0_put ∈ jws := jmem (i := 294) (by decide +kernel) rfl
theorem se_X0_put : Cond.selects RX0 yX0_put yX0_put ∈ jws := jmem (i := 295) (by decide +kernel) rfl
theorem cm_X0_copy : jcm mX0_copy 1 := ⟨jmem (i := 501) (by decide +kernel) rfl, jmem (i := 6) (by decide +kernel) rfl, rfl, by decide +kernel, ⟨by decide +kernel, by decide +kernel⟩, by decide +kernel⟩
theorem im_X0_copy : Cond.instanceMethod yX0_copy ∈ jws := jmem (i := 499) (by decide +kernel) rfl
theorem se_X0_copy : Cond.selects RX0 yX0_copy yX0_copy ∈ jws := jmem (i := 500) (by decide +kernel) rfl
theorem cm_X0_carryOn : jcm mX0_carryOn 1 := ⟨jmem (i := 300) (by decide +kernel) rfl, jmem (i := 6) (by decide +kernel) rfl, rfl, by decide +kernel, ⟨by decide +kernel, by decide +kernel⟩, by decide +kernel⟩
theorem im_X0_carryOn : Cond.instanceMethod yX0_carryOn ∈ jws := jmem (i := 299) (by decide +kernel) rfl
theorem se_X0_carryOn : Cond.selects RX0 yX0_carryOn yX0_carryOn ∈ jws := jmemS (i := 0) (q := (yX0_carryOn, 2)) (by decide +kernel) rfl
theorem cm_X0_multiply : jcm mX0_multiply 1 := ⟨jmem (i := 489) (by decide +kernel) rfl, jmem (i := 6) (by decide +kernel) rfl, rfl, by decide +kernel, ⟨by decide +kernel, by decide +kernel⟩, by decide +kernel⟩
theorem im_X0_multiply : Cond.instanceMethod yX0_multiply ∈ jws := jmem (i := 487) (by decide +kernel) rfl
theorem se_X0_multiply : Cond.selects RX0 yX0_multiply yX0_multiply ∈ jws := jmem (i := 488) (by decide +kernel) rfl
theorem cm_X0_add : jcm mX0_add 1 := ⟨jmem (i := 493) (by decide +kernel) rfl, jmem (i := 6) (by decide +kernel) rfl, rfl, by decide +kernel, ⟨by decide +kernel, by decide +kernel⟩, by decide +kernel⟩
theorem im_X0_add : Cond.instanceMethod yX0_add ∈ jws := jmem (i := 491) (by decide +kernel) rfl
theorem se_X0_add : Cond.selects RX0 yX0_add yX0_add ∈ jws := jmem (i := 492) (by decide +kernel) rfl
theorem cm_X0_restOf : jcm mX0_restOf 1 := ⟨jmem (i := 508) (by decide +kernel) rfl, jmem (i := 6) (by decide +kernel) rfl, rfl, by decide +kernel, ⟨by decide +kernel, by decide +kernel⟩, by decide +kernel⟩
theorem im_X0_restOf : Cond.instanceMethod yX0_restOf ∈ jws := jmem (i := 506) (by decide +kernel) rfl
theorem se_X0_restOf : Cond.selects RX0 yX0_restOf yX0_restOf ∈ jws := jmem (i := 507) (by decide +kernel) rfl
theorem cm_X0_divide : jcm mX0_divide 1 := ⟨jmem (i := 512) (by decide +kernel) rfl, jmem (i := 6) (by decide +kernel) rfl, rfl, by decide +kernel, ⟨by decide +kernel, by decide +kernel⟩, by decide +kernel⟩
theorem im_X0_divide : Cond.instanceMethod yX0_divide ∈ jws := jmem (i := 510) (by decide +kernel) rfl
theorem se_X0_divide : Cond.selects RX0 yX0_divide yX0_divide ∈ jws := jmem (i := 511) (by decide +kernel) rfl
theorem cm_X0_isAbove : jcm mX0_isAbove 1 := ⟨jmem (i := 524) (by decide +kernel) rfl, jmem (i := 6) (by decide +kernel) rfl, rfl, by decide +kernel, ⟨by decide +kernel, by decide +kernel⟩, by decide +kernel⟩
theorem im_X0_isAbove : Cond.instanceMethod yX0_isAbove ∈ jws := jmem (i := 522) (by decide +kernel) rfl
theorem se_X0_isAbove : Cond.selects RX0 yX0_isAbove yX0_isAbove ∈ jws := jmem (i := 523) (by decide +kernel) rfl
theorem cm_X1_init : jcm mX1_init 3 := ⟨jmem (i := 137) (by decide +kernel) rfl, jmem (i := 5) (by decide +kernel) rfl, rfl, by decide +kernel, ⟨by decide +kernel, by decide +kernel⟩, by decide +kernel⟩
theorem im_X1_init : Cond.instanceMethod yX1_init ∈ jws := jmem (i := 136) (by decide +kernel) rfl
theorem cm_X1_wordsFor : jcm mX1_wordsFor 1 := ⟨jmem (i := 469) (by decide +kernel) rfl, jmem (i := 5) (by decide +kernel) rfl, rfl, by decide +kernel, ⟨by decide +kernel, by decide +kernel⟩, by decide +kernel⟩
theorem im_X1_wordsFor : Cond.instanceMethod yX1_wordsFor ∈ jws := jmem (i := 467) (by decide +kernel) rfl
theorem se_X1_wordsFor : Cond.selects RX1 yX1_wordsFor yX1_wordsFor ∈ jws := jmem (i := 468) (by decide +kernel) rfl
theorem cm_X1_takeFor : jcm mX1_takeFor 1 := ⟨jmem (i := 473) (by decide +kernel) rfl, jmem (i := 5) (by decide +kernel) rfl, rfl, by decide +kernel, ⟨by decide +kernel, by decide +kernel⟩, by decide +kernel⟩
theorem im_X1_takeFor : Cond.instanceMethod yX1_takeFor ∈ jws := jmem (i := 471) (by decide +kernel) rfl
theorem se_X1_takeFor : Cond.selects RX1 yX1_takeFor yX1_takeFor ∈ jws := jmem (i := 472) (by decide +kernel) rfl
theorem cm_X1_takeLetter : jcm mX1_takeLetter 1 := ⟨jmem (i := 479) (by decide +kernel) rfl, jmem (i := 5) (by decide +kernel) rfl, rfl, by decide +kernel, ⟨by decide +kernel, by decide +kernel⟩, by decide +kernel⟩
theorem im_X1_takeLetter : Cond.instanceMethod yX1_takeLetter ∈ jws := jmem (i := 478) (by decide +kernel) rfl
theorem se_X1_takeLetter : Cond.selects RX1 yX1_takeLetter yX1_takeLetter ∈ jws := jmemS (i := 7) (q := (yX1_takeLetter, 5)) (by decide +kernel) rfl
theorem cm_X1_factorOf : jcm mX1_factorOf 3 := ⟨jmem (i := 483) (by decide +kernel) rfl, jmem (i := 5) (by decide +kernel) rfl, rfl, by decide +kernel, ⟨by decide +kernel, by decide +kernel⟩, by decide +kernel⟩
theorem im_X1_factorOf : Cond.instanceMethod yX1_factorOf ∈ jws := jmem (i := 482) (by decide +kernel) rfl
theorem se_X1_factorOf : Cond.selects RX1 yX1_factorOf yX1_factorOf ∈ jws := jmemS (i := 8) (q := (yX1_factorOf, 5)) (by decide +kernel) rfl
theorem cm_X1_greatest : jcm mX1_greatest 0 := ⟨jmem (i := 520) (by decide +kernel) rfl, jmem (i := 5) (by decide +kernel) rfl, rfl, by decide +kernel, ⟨by decide +kernel, by decide +kernel⟩, by decide +kernel⟩
theorem im_X1_greatest : Cond.instanceMethod yX1_greatest ∈ jws := jmem (i := 518) (by decide +kernel) rfl
theorem se_X1_greatest : Cond.selects RX1 yX1_greatest yX1_greatest ∈ jws := jmem (i := 519) (by decide +kernel) rfl
theorem cm_X2_init : jcm mX2_init 1 := ⟨jmem (i := 239) (by decide +kernel) rfl, jmem (i := 10) (by decide +kernel) rfl, rfl, by decide +kernel, ⟨by decide +kernel, by decide +kernel⟩, by decide +kernel⟩
theorem im_X2_init : Cond.instanceMethod yX2_init ∈ jws := jmem (i := 238) (by decide +kernel) rfl
theorem cm_X2_waysOf : jcm mX2_waysOf 1 := ⟨jmem (i := 677) (by decide +kernel) rfl, jmem (i := 10) (by decide +kernel) rfl, rfl, by decide +kernel, ⟨by decide +kernel, by decide +kernel⟩, by decide +kernel⟩
theorem im_X2_waysOf : Cond.instanceMethod yX2_waysOf ∈ jws := jmem (i := 675) (by decide +kernel) rfl
theorem se_X2_waysOf : Cond.selects RX2 yX2_waysOf yX2_waysOf ∈ jws := jmem (i := 676) (by decide +kernel) rfl
theorem cm_X2_waysBehind : jcm mX2_waysBehind 1 := ⟨jmem (i := 681) (by decide +kernel) rfl, jmem (i := 10) (by decide +kernel) rfl, rfl, by decide +kernel, ⟨by decide +kernel, by decide +kernel⟩, by decide +kernel⟩
theorem im_X2_waysBehind : Cond.instanceMethod yX2_waysBehind ∈ jws := jmem (i := 680) (by decide +kernel) rfl
theorem se_X2_waysBehind : Cond.selects RX2 yX2_waysBehind yX2_waysBehind ∈ jws := jmemS (i := 15) (q := (yX2_waysBehind, 5)) (by decide +kernel) rfl
theorem cm_X2_canRead : jcm mX2_canRead 3 := ⟨jmem (i := 686) (by decide +kernel) rfl, jmem (i := 10) (by decide +kernel) rfl, rfl, by decide +kernel, ⟨by decide +kernel, by decide +kernel⟩, by decide +kernel⟩
theorem im_X2_canRead : Cond.instanceMethod yX2_canRead ∈ jws := jmem (i := 685) (by decide +kernel) rfl
theorem se_X2_canRead : Cond.selects RX2 yX2_canRead yX2_canRead ∈ jws := jmemS (i := 16) (q := (yX2_canRead, 5)) (by decide +kernel) rfl
theorem cm_X2_readerInFirst : jcm mX2_readerInFirst 1 := ⟨jmem (i := 690) (by decide +kernel) rfl, jmem (i := 10) (by decide +kernel) rfl, rfl, by decide +kernel, ⟨by decide +kernel, by decide +kernel⟩, by decide +kernel⟩
theorem im_X2_readerInFirst : Cond.instanceMethod yX2_readerInFirst ∈ jws := jmem (i := 688) (by decide +kernel) rfl
theorem se_X2_readerInFirst : Cond.selects RX2 yX2_readerInFirst yX2_readerInFirst ∈ jws := jmem (i := 689) (by decide +kernel) rfl
theorem cm_X2_firstReader : jcm mX2_firstReader 2 := ⟨jmem (i := 694) (by decide +kernel) rfl, jmem (i := 10) (by decide +kernel) rfl, rfl, by decide +kernel, ⟨by decide +kernel, by decide +kernel⟩, by decide +kernel⟩
theorem im_X2_firstReader : Cond.instanceMethod yX2_firstReader ∈ jws := jmem (i := 693) (by decide +kernel) rfl
theorem se_X2_firstReader : Cond.selects RX2 yX2_firstReader yX2_firstReader ∈ jws := jmemS (i := 17) (q := (yX2_firstReader, 5)) (by decide +kernel) rfl
theorem cm_X3_init : jcm mX3_init 0 := ⟨jmem (i := 29) (by decide +kernel) rfl, jmem (i := 2) (by decide +kernel) rfl, rfl, by decide +kernel, ⟨by decide +kernel, by decide +kernel⟩, by decide +kernel⟩
theorem im_X3_init : Cond.instanceMethod yX3_init ∈ jws := jmem (i := 28) (by decide +kernel) rfl
theorem cm_X3_addWord : jcm mX3_addWord 2 := ⟨jmem (i := 355) (by decide +kernel) rfl, jmem (i := 2) (by decide +kernel) rfl, rfl, by decide +kernel, ⟨by decide +kernel, by decide +kernel⟩, by decide +kernel⟩
theorem im_X3_addWord : Cond.instanceMethod yX3_addWord ∈ jws := jmem (i := 353) (by decide +kernel) rfl
theorem se_X3_addWord : Cond.selects RX3 yX3_addWord yX3_addWord ∈ jws := jmem (i := 354) (by decide +kernel) rfl
theorem cm_X3_addHand : jcm mX3_addHand 1 := ⟨jmem (i := 367) (by decide +kernel) rfl, jmem (i := 2) (by decide +kernel) rfl, rfl, by decide +kernel, ⟨by decide +kernel, by decide +kernel⟩, by decide +kernel⟩
theorem im_X3_addHand : Cond.instanceMethod yX3_addHand ∈ jws := jmem (i := 365) (by decide +kernel) rfl
theorem se_X3_addHand : Cond.selects RX3 yX3_addHand yX3_addHand ∈ jws := jmem (i := 366) (by decide +kernel) rfl
theorem cm_X3_addPupil : jcm mX3_addPupil 2 := ⟨jmem (i := 375) (by decide +kernel) rfl, jmem (i := 2) (by decide +kernel) rfl, rfl, by decide +kernel, ⟨by decide +kernel, by decide +kernel⟩, by decide +kernel⟩
theorem im_X3_addPupil : Cond.instanceMethod yX3_addPupil ∈ jws := jmem (i := 373) (by decide +kernel) rfl
theorem se_X3_addPupil : Cond.selects RX3 yX3_addPupil yX3_addPupil ∈ jws := jmem (i := 374) (by decide +kernel) rfl
theorem cm_X3_addLetter : jcm mX3_addLetter 3 := ⟨jmem (i := 394) (by decide +kernel) rfl, jmem (i := 2) (by decide +kernel) rfl, rfl, by decide +kernel, ⟨by decide +kernel, by decide +kernel⟩, by decide +kernel⟩
theorem im_X3_addLetter : Cond.instanceMethod yX3_addLetter ∈ jws := jmem (i := 392) (by decide +kernel) rfl
theorem se_X3_addLetter : Cond.selects RX3 yX3_addLetter yX3_addLetter ∈ jws := jmem (i := 393) (by decide +kernel) rfl
theorem cm_X3_addToLetter : jcm mX3_addToLetter 2 := ⟨jmem (i := 410) (by decide +kernel) rfl, jmem (i := 2) (by decide +kernel) rfl, rfl, by decide +kernel, ⟨by decide +kernel, by decide +kernel⟩, by decide +kernel⟩
theorem im_X3_addToLetter : Cond.instanceMethod yX3_addToLetter ∈ jws := jmem (i := 408) (by decide +kernel) rfl
theorem se_X3_addToLetter : Cond.selects RX3 yX3_addToLetter yX3_addToLetter ∈ jws := jmem (i := 409) (by decide +kernel) rfl
theorem cm_X3_lettersOn : jcm mX3_lettersOn 2 := ⟨jmem (i := 566) (by decide +kernel) rfl, jmem (i := 2) (by decide +kernel) rfl, rfl, by decide +kernel, ⟨by decide +kernel, by decide +kernel⟩, by decide +kernel⟩
theorem im_X3_lettersOn : Cond.instanceMethod yX3_lettersOn ∈ jws := jmem (i := 564) (by decide +kernel) rfl
theorem se_X3_lettersOn : Cond.selects RX3 yX3_lettersOn yX3_lettersOn ∈ jws := jmem (i := 565) (by decide +kernel) rfl
theorem cm_X3_lettersWith : jcm mX3_lettersWith 3 := ⟨jmem (i := 574) (by decide +kernel) rfl, jmem (i := 2) (by decide +kernel) rfl, rfl, by decide +kernel, ⟨by decide +kernel, by decide +kernel⟩, by decide +kernel⟩
theorem im_X3_lettersWith : Cond.instanceMethod yX3_lettersWith ∈ jws := jmem (i := 572) (by decide +kernel) rfl
theorem se_X3_lettersWith : Cond.selects RX3 yX3_lettersWith yX3_lettersWith ∈ jws := jmem (i := 573) (by decide +kernel) rfl
theorem cm_X3_isOn : jcm mX3_isOn 3 := ⟨jmem (i := 570) (by decide +kernel) rfl, jmem (i := 2) (by decide +kernel) rfl, rfl, by decide +kernel, ⟨by decide +kernel, by decide +kernel⟩, by decide +kernel⟩
theorem im_X3_isOn : Cond.instanceMethod yX3_isOn ∈ jws := jmem (i := 569) (by decide +kernel) rfl
theorem se_X3_isOn : Cond.selects RX3 yX3_isOn yX3_isOn ∈ jws := jmemS (i := 10) (q := (yX3_isOn, 14)) (by decide +kernel) rfl
theorem cm_X3_holds : jcm mX3_holds 2 := ⟨jmem (i := 578) (by decide +kernel) rfl, jmem (i := 2) (by decide +kernel) rfl, rfl, by decide +kernel, ⟨by decide +kernel, by decide +kernel⟩, by decide +kernel⟩
theorem im_X3_holds : Cond.instanceMethod yX3_holds ∈ jws := jmem (i := 577) (by decide +kernel) rfl
theorem se_X3_holds : Cond.selects RX3 yX3_holds yX3_holds ∈ jws := jmemS (i := 11) (q := (yX3_holds, 14)) (by decide +kernel) rfl
theorem cm_X3_digestInto : jcm mX3_digestInto 1 := ⟨jmem (i := 769) (by decide +kernel) rfl, jmem (i := 2) (by decide +kernel) rfl, rfl, by decide +kernel, ⟨by decide +kernel, by decide +kernel⟩, by decide +kernel⟩
theorem im_X3_digestInto : Cond.instanceMethod yX3_digestInto ∈ jws := jmem (i := 767) (by decide +kernel) rfl
theorem se_X3_digestInto : Cond.selects RX3 yX3_digestInto yX3_digestInto ∈ jws := jmem (i := 768) (by decide +kernel) rfl
theorem cm_X4_init : jcm mX4_init 1 := ⟨jmem (i := 262) (by decide +kernel) rfl, jmem (i := 11) (by decide +kernel) rfl, rfl, by decide +kernel, ⟨by decide +kernel, by decide +kernel⟩, by decide +kernel⟩
theorem im_X4_init : Cond.instanceMethod yX4_init ∈ jws := jmem (i := 261) (by decide +kernel) rfl
theorem cm_X4_add : jcm mX4_add 5 := ⟨jmem (i := 709) (by decide +kernel) rfl, jmem (i := 11) (by decide +kernel) rfl, rfl, by decide +kernel, ⟨by decide +kernel, by decide +kernel⟩, by decide +kernel⟩
theorem im_X4_add : Cond.instanceMethod yX4_add ∈ jws := jmem (i := 707) (by decide +kernel) rfl
theorem se_X4_add : Cond.selects RX4 yX4_add yX4_add ∈ jws := jmem (i := 708) (by decide +kernel) rfl
theorem cm_X4_guessedRight : jcm mX4_guessedRight 1 := ⟨jmem (i := 717) (by decide +kernel) rfl, jmem (i := 11) (by decide +kernel) rfl, rfl, by decide +kernel, ⟨by decide +kernel, by decide +kernel⟩, by decide +kernel⟩
theorem im_X4_guessedRight : Cond.instanceMethod yX4_guessedRight ∈ jws := jmem (i := 715) (by decide +kernel) rfl
theorem se_X4_guessedRight : Cond.selects RX4 yX4_guessedRight yX4_guessedRight ∈ jws := jmem (i := 716) (by decide +kernel) rfl
theorem cm_X4_ask : jcm mX4_ask 2 := ⟨jmem (i := 721) (by decide +kernel) rfl, jmem (i := 11) (by decide +kernel) rfl, rfl, by decide +kernel, ⟨by decide +kernel, by decide +kernel⟩, by decide +kernel⟩
theorem im_X4_ask : Cond.instanceMethod yX4_ask ∈ jws := jmem (i := 720) (by decide +kernel) rfl
theorem se_X4_ask : Cond.selects RX4 yX4_ask yX4_ask ∈ jws := jmemS (i := 18) (q := (yX4_ask, 5)) (by decide +kernel) rfl
theorem cm_X4_allGuesses : jcm mX4_allGuesses 1 := ⟨jmem (i := 728) (by decide +kernel) rfl, jmem (i := 11) (by decide +kernel) rfl, rfl, by decide +kernel, ⟨by decide +kernel, by decide +kernel⟩, by decide +kernel⟩
theorem im_X4_allGuesses : Cond.instanceMethod yX4_allGuesses ∈ jws := jmem (i := 726) (by decide +kernel) rfl
theorem se_X4_allGuesses : Cond.selects RX4 yX4_allGuesses yX4_allGuesses ∈ jws := jmem (i := 727) (by decide +kernel) rfl
theorem cm_X4_hundreds : jcm mX4_hundreds 1 := ⟨jmem (i := 732) (by decide +kernel) rfl, jmem (i := 11) (by decide +kernel) rfl, rfl, by decide +kernel, ⟨by decide +kernel, by decide +kernel⟩, by decide +kernel⟩
theorem st_X4_hundreds : Cond.static yX4_hundreds ∈ jws := jmem (i := 731) (by decide +kernel) rfl
theorem cm_X4_minutesOf : jcm mX4_minutesOf 1 := ⟨jmem (i := 745) (by decide +kernel) rfl, jmem (i := 11) (by decide +kernel) rfl, rfl, by decide +kernel, ⟨by decide +kernel, by decide +kernel⟩, by decide +kernel⟩
theorem im_X4_minutesOf : Cond.instanceMethod yX4_minutesOf ∈ jws := jmem (i := 744) (by decide +kernel) rfl
theorem se_X4_minutesOf : Cond.selects RX4 yX4_minutesOf yX4_minutesOf ∈ jws := jmemS (i := 19) (q := (yX4_minutesOf, 5)) (by decide +kernel) rfl
theorem cm_X4_bestWithin : jcm mX4_bestWithin 1 := ⟨jmem (i := 741) (by decide +kernel) rfl, jmem (i := 11) (by decide +kernel) rfl, rfl, by decide +kernel, ⟨by decide +kernel, by decide +kernel⟩, by decide +kernel⟩
theorem im_X4_bestWithin : Cond.instanceMethod yX4_bestWithin ∈ jws := jmem (i := 739) (by decide +kernel) rfl
theorem se_X4_bestWithin : Cond.selects RX4 yX4_bestWithin yX4_bestWithin ∈ jws := jmem (i := 740) (by decide +kernel) rfl
theorem cm_X4_digestInto : jcm mX4_digestInto 1 := ⟨jmem (i := 783) (by decide +kernel) rfl, jmem (i := 11) (by decide +kernel) rfl, rfl, by decide +kernel, ⟨by decide +kernel, by decide +kernel⟩, by decide +kernel⟩
theorem im_X4_digestInto : Cond.instanceMethod yX4_digestInto ∈ jws := jmem (i := 781) (by decide +kernel) rfl
theorem se_X4_digestInto : Cond.selects RX4 yX4_digestInto yX4_digestInto ∈ jws := jmem (i := 782) (by decide +kernel) rfl
theorem cm_X5_init : jcm mX5_init 0 := ⟨jmem (i := 289) (by decide +kernel) rfl, jmem (i := 12) (by decide +kernel) rfl, rfl, by decide +kernel, ⟨by decide +kernel, by decide +kernel⟩, by decide +kernel⟩
theorem im_X5_init : Cond.instanceMethod yX5_init ∈ jws := jmem (i := 288) (by decide +kernel) rfl
theorem cm_X5_put : jcm mX5_put 2 := ⟨jmem (i := 458) (by decide +kernel) rfl, jmem (i := 12) (by decide +kernel) rfl, rfl, by decide +kernel, ⟨by decide +kernel, by decide +kernel⟩, by decide +kernel⟩
theorem im_X5_put : Cond.instanceMethod yX5_put ∈ jws := jmem (i := 456) (by decide +kernel) rfl
theorem se_X5_put : Cond.selects RX5 yX5_put yX5_put ∈ jws := jmem (i := 457) (by decide +kernel) rfl
theorem cm_X5_commonOf : jcm mX5_commonOf 2 := ⟨jmem (i := 461) (by decide +kernel) rfl, jmem (i := 12) (by decide +kernel) rfl, rfl, by decide +kernel, ⟨by decide +kernel, by decide +kernel⟩, by decide +kernel⟩
theorem st_X5_commonOf : Cond.static yX5_commonOf ∈ jws := jmem (i := 460) (by decide +kernel) rfl
theorem cm_X5_putBig : jcm mX5_putBig 2 := ⟨jmem (i := 497) (by decide +kernel) rfl, jmem (i := 12) (by decide +kernel) rfl, rfl, by decide +kernel, ⟨by decide +kernel, by decide +kernel⟩, by decide +kernel⟩
theorem im_X5_putBig : Cond.instanceMethod yX5_putBig ∈ jws := jmem (i := 495) (by decide +kernel) rfl
theorem se_X5_putBig : Cond.selects RX5 yX5_putBig yX5_putBig ∈ jws := jmem (i := 496) (by decide +kernel) rfl
theorem cm_X6_init : jcm mX6_init 0 := ⟨jmem (i := 209) (by decide +kernel) rfl, jmem (i := 9) (by decide +kernel) rfl, rfl, by decide +kernel, ⟨by decide +kernel, by decide +kernel⟩, by decide +kernel⟩
theorem im_X6_init : Cond.instanceMethod yX6_init ∈ jws := jmem (i := 208) (by decide +kernel) rfl
theorem cm_X6_add : jcm mX6_add 3 := ⟨jmem (i := 624) (by decide +kernel) rfl, jmem (i := 9) (by decide +kernel) rfl, rfl, by decide +kernel, ⟨by decide +kernel, by decide +kernel⟩, by decide +kernel⟩
theorem im_X6_add : Cond.instanceMethod yX6_add ∈ jws := jmem (i := 622) (by decide +kernel) rfl
theorem se_X6_add : Cond.selects RX6 yX6_add yX6_add ∈ jws := jmem (i := 623) (by decide +kernel) rfl
theorem cm_X6_fewestAgainst : jcm mX6_fewestAgainst 3 := ⟨jmem (i := 632) (by decide +kernel) rfl, jmem (i := 9) (by decide +kernel) rfl, rfl, by decide +kernel, ⟨by decide +kernel, by decide +kernel⟩, by decide +kernel⟩
theorem im_X6_fewestAgainst : Cond.instanceMethod yX6_fewestAgainst ∈ jws := jmem (i := 630) (by decide +kernel) rfl
theorem se_X6_fewestAgainst : Cond.selects RX6 yX6_fewestAgainst yX6_fewestAgainst ∈ jws := jmem (i := 631) (by decide +kernel) rfl
theorem cm_X6_takeAhead : jcm mX6_takeAhead 1 := ⟨jmem (i := 636) (by decide +kernel) rfl, jmem (i := 9) (by decide +kernel) rfl, rfl, by decide +kernel, ⟨by decide +kernel, by decide +kernel⟩, by decide +kernel⟩
theorem im_X6_takeAhead : Cond.instanceMethod yX6_takeAhead ∈ jws := jmem (i := 635) (by decide +kernel) rfl
theorem se_X6_takeAhead : Cond.selects RX6 yX6_takeAhead yX6_takeAhead ∈ jws := jmemS (i := 12) (q := (yX6_takeAhead, 7)) (by decide +kernel) rfl
theorem cm_X6_againstFirst : jcm mX6_againstFirst 2 := ⟨jmem (i := 644) (by decide +kernel) rfl, jmem (i := 9) (by decide +kernel) rfl, rfl, by decide +kernel, ⟨by decide +kernel, by decide +kernel⟩, by decide +kernel⟩
theorem im_X6_againstFirst : Cond.instanceMethod yX6_againstFirst ∈ jws := jmem (i := 643) (by decide +kernel) rfl
theorem se_X6_againstFirst : Cond.selects RX6 yX6_againstFirst yX6_againstFirst ∈ jws := jmemS (i := 13) (q := (yX6_againstFirst, 7)) (by decide +kernel) rfl
theorem cm_X6_pupilInPlace : jcm mX6_pupilInPlace 2 := ⟨jmem (i := 651) (by decide +kernel) rfl, jmem (i := 9) (by decide +kernel) rfl, rfl, by decide +kernel, ⟨by decide +kernel, by decide +kernel⟩, by decide +kernel⟩
theorem im_X6_pupilInPlace : Cond.instanceMethod yX6_pupilInPlace ∈ jws := jmem (i := 649) (by decide +kernel) rfl
theorem se_X6_pupilInPlace : Cond.selects RX6 yX6_pupilInPlace yX6_pupilInPlace ∈ jws := jmem (i := 650) (by decide +kernel) rfl
theorem cm_X6_firstOf : jcm mX6_firstOf 2 := ⟨jmem (i := 655) (by decide +kernel) rfl, jmem (i := 9) (by decide +kernel) rfl, rfl, by decide +kernel, ⟨by decide +kernel, by decide +kernel⟩, by decide +kernel⟩
theorem im_X6_firstOf : Cond.instanceMethod yX6_firstOf ∈ jws := jmem (i := 654) (by decide +kernel) rfl
theorem se_X6_firstOf : Cond.selects RX6 yX6_firstOf yX6_firstOf ∈ jws := jmemS (i := 14) (q := (yX6_firstOf, 7)) (by decide +kernel) rfl
theorem cm_X6_digestInto : jcm mX6_digestInto 1 := ⟨jmem (i := 778) (by decide +kernel) rfl, jmem (i := 9) (by decide +kernel) rfl, rfl, by decide +kernel, ⟨by decide +kernel, by decide +kernel⟩, by decide +kernel⟩
theorem im_X6_digestInto : Cond.instanceMethod yX6_digestInto ∈ jws := jmem (i := 776) (by decide +kernel) rfl
theorem se_X6_digestInto : Cond.selects RX6 yX6_digestInto yX6_digestInto ∈ jws := jmem (i := 777) (by decide +kernel) rfl
theorem cm_X7_init : jcm mX7_init 1 := ⟨jmem (i := 195) (by decide +kernel) rfl, jmem (i := 8) (by decide +kernel) rfl, rfl, by decide +kernel, ⟨by decide +kernel, by decide +kernel⟩, by decide +kernel⟩
theorem im_X7_init : Cond.instanceMethod yX7_init ∈ jws := jmem (i := 194) (by decide +kernel) rfl
theorem cm_X7_longestRun : jcm mX7_longestRun 2 := ⟨jmem (i := 596) (by decide +kernel) rfl, jmem (i := 8) (by decide +kernel) rfl, rfl, by decide +kernel, ⟨by decide +kernel, by decide +kernel⟩, by decide +kernel⟩
theorem im_X7_longestRun : Cond.instanceMethod yX7_longestRun ∈ jws := jmem (i := 594) (by decide +kernel) rfl
theorem se_X7_longestRun : Cond.selects RX7 yX7_longestRun yX7_longestRun ∈ jws := jmem (i := 595) (by decide +kernel) rfl
theorem cm_X7_mostInOrder : jcm mX7_mostInOrder 2 := ⟨jmem (i := 603) (by decide +kernel) rfl, jmem (i := 8) (by decide +kernel) rfl, rfl, by decide +kernel, ⟨by decide +kernel, by decide +kernel⟩, by decide +kernel⟩
theorem im_X7_mostInOrder : Cond.instanceMethod yX7_mostInOrder ∈ jws := jmem (i := 601) (by decide +kernel) rfl
theorem se_X7_mostInOrder : Cond.selects RX7 yX7_mostInOrder yX7_mostInOrder ∈ jws := jmem (i := 602) (by decide +kernel) rfl
theorem cm_X7_leftFrom : jcm mX7_leftFrom 2 := ⟨jmem (i := 611) (by decide +kernel) rfl, jmem (i := 8) (by decide +kernel) rfl, rfl, by decide +kernel, ⟨by decide +kernel, by decide +kernel⟩, by decide +kernel⟩
theorem im_X7_leftFrom : Cond.instanceMethod yX7_leftFrom ∈ jws := jmem (i := 609) (by decide +kernel) rfl
theorem se_X7_leftFrom : Cond.selects RX7 yX7_leftFrom yX7_leftFrom ∈ jws := jmem (i := 610) (by decide +kernel) rfl
theorem cm_X8_init : jcm mX8_init 1 := ⟨jmem (i := 117) (by decide +kernel) rfl, jmem (i := 3) (by decide +kernel) rfl, rfl, by decide +kernel, ⟨by decide +kernel, by decide +kernel⟩, by decide +kernel⟩
theorem im_X8_init : Cond.instanceMethod yX8_init ∈ jws := jmem (i := 116) (by decide +kernel) rfl
theorem cm_X8_takeAllBut : jcm mX8_takeAllBut 1 := ⟨jmem (i := 425) (by decide +kernel) rfl, jmem (i := 3) (by decide +kernel) rfl, rfl, by decide +kernel, ⟨by decide +kernel, by decide +kernel⟩, by decide +kernel⟩
theorem im_X8_takeAllBut : Cond.instanceMethod yX8_takeAllBut ∈ jws := jmem (i := 423) (by decide +kernel) rfl
theorem se_X8_takeAllBut : Cond.selects RX8 yX8_takeAllBut yX8_takeAllBut ∈ jws := jmem (i := 424) (by decide +kernel) rfl
theorem cm_X8_takeLetter : jcm mX8_takeLetter 2 := ⟨jmem (i := 433) (by decide +kernel) rfl, jmem (i := 3) (by decide +kernel) rfl, rfl, by decide +kernel, ⟨by decide +kernel, by decide +kernel⟩, by decide +kernel⟩
theorem im_X8_takeLetter : Cond.instanceMethod yX8_takeLetter ∈ jws := jmem (i := 432) (by decide +kernel) rfl
theorem se_X8_takeLetter : Cond.selects RX8 yX8_takeLetter yX8_takeLetter ∈ jws := jmemS (i := 5) (q := (yX8_takeLetter, 3)) (by decide +kernel) rfl
theorem cm_X8_rowOf : jcm mX8_rowOf 2 := ⟨jmem (i := 429) (by decide +kernel) rfl, jmem (i := 3) (by decide +kernel) rfl, rfl, by decide +kernel, ⟨by decide +kernel, by decide +kernel⟩, by decide +kernel⟩
theorem st_X8_rowOf : Cond.static yX8_rowOf ∈ jws := jmem (i := 428) (by decide +kernel) rfl
theorem cm_X8_usesOf : jcm mX8_usesOf 3 := ⟨jmem (i := 437) (by decide +kernel) rfl, jmem (i := 3) (by decide +kernel) rfl, rfl, by decide +kernel, ⟨by decide +kernel, by decide +kernel⟩, by decide +kernel⟩
theorem im_X8_usesOf : Cond.instanceMethod yX8_usesOf ∈ jws := jmem (i := 435) (by decide +kernel) rfl
theorem se_X8_usesOf : Cond.selects RX8 yX8_usesOf yX8_usesOf ∈ jws := jmem (i := 436) (by decide +kernel) rfl
theorem cm_X8_usesOfAll : jcm mX8_usesOfAll 2 := ⟨jmem (i := 454) (by decide +kernel) rfl, jmem (i := 3) (by decide +kernel) rfl, rfl, by decide +kernel, ⟨by decide +kernel, by decide +kernel⟩, by decide +kernel⟩
theorem im_X8_usesOfAll : Cond.instanceMethod yX8_usesOfAll ∈ jws := jmem (i := 453) (by decide +kernel) rfl
theorem se_X8_usesOfAll : Cond.selects RX8 yX8_usesOfAll yX8_usesOfAll ∈ jws := jmemS (i := 6) (q := (yX8_usesOfAll, 3)) (by decide +kernel) rfl
theorem cm_X8_meantAbove : jcm mX8_meantAbove 3 := ⟨jmem (i := 445) (by decide +kernel) rfl, jmem (i := 3) (by decide +kernel) rfl, rfl, by decide +kernel, ⟨by decide +kernel, by decide +kernel⟩, by decide +kernel⟩
theorem im_X8_meantAbove : Cond.instanceMethod yX8_meantAbove ∈ jws := jmem (i := 443) (by decide +kernel) rfl
theorem se_X8_meantAbove : Cond.selects RX8 yX8_meantAbove yX8_meantAbove ∈ jws := jmem (i := 444) (by decide +kernel) rfl
theorem cm_X8_meantBelow : jcm mX8_meantBelow 2 := ⟨jmem (i := 450) (by decide +kernel) rfl, jmem (i := 3) (by decide +kernel) rfl, rfl, by decide +kernel, ⟨by decide +kernel, by decide +kernel⟩, by decide +kernel⟩
theorem im_X8_meantBelow : Cond.instanceMethod yX8_meantBelow ∈ jws := jmem (i := 448) (by decide +kernel) rfl
theorem se_X8_meantBelow : Cond.selects RX8 yX8_meantBelow yX8_meantBelow ∈ jws := jmem (i := 449) (by decide +kernel) rfl
theorem cm_X9_init : jcm mX9_init 1 := ⟨jmem (i := 177) (by decide +kernel) rfl, jmem (i := 7) (by decide +kernel) rfl, rfl, by decide +kernel, ⟨by decide +kernel, by decide +kernel⟩, by decide +kernel⟩
theorem im_X9_init : Cond.instanceMethod yX9_init ∈ jws := jmem (i := 176) (by decide +kernel) rfl
theorem cm_X9_take : jcm mX9_take 3 := ⟨jmem (i := 536) (by decide +kernel) rfl, jmem (i := 7) (by decide +kernel) rfl, rfl, by decide +kernel, ⟨by decide +kernel, by decide +kernel⟩, by decide +kernel⟩
theorem im_X9_take : Cond.instanceMethod yX9_take ∈ jws := jmem (i := 534) (by decide +kernel) rfl
theorem se_X9_take : Cond.selects RX9 yX9_take yX9_take ∈ jws := jmem (i := 535) (by decide +kernel) rfl
theorem cm_X9_takeLetter : jcm mX9_takeLetter 2 := ⟨jmem (i := 541) (by decide +kernel) rfl, jmem (i := 7) (by decide +kernel) rfl, rfl, by decide +kernel, ⟨by decide +kernel, by decide +kernel⟩, by decide +kernel⟩
theorem im_X9_takeLetter : Cond.instanceMethod yX9_takeLetter ∈ jws := jmem (i := 540) (by decide +kernel) rfl
theorem se_X9_takeLetter : Cond.selects RX9 yX9_takeLetter yX9_takeLetter ∈ jws := jmemS (i := 9) (q := (yX9_takeLetter, 3)) (by decide +kernel) rfl
theorem cm_X9_wordsUpTo : jcm mX9_wordsUpTo 2 := ⟨jmem (i := 545) (by decide +kernel) rfl, jmem (i := 7) (by decide +kernel) rfl, rfl, by decide +kernel, ⟨by decide +kernel, by decide +kernel⟩, by decide +kernel⟩
theorem im_X9_wordsUpTo : Cond.instanceMethod yX9_wordsUpTo ∈ jws := jmem (i := 543) (by decide +kernel) rfl
theorem se_X9_wordsUpTo : Cond.selects RX9 yX9_wordsUpTo yX9_wordsUpTo ∈ jws := jmem (i := 544) (by decide +kernel) rfl
theorem cm_X9_sumOfRanks : jcm mX9_sumOfRanks 1 := ⟨jmem (i := 549) (by decide +kernel) rfl, jmem (i := 7) (by decide +kernel) rfl, rfl, by decide +kernel, ⟨by decide +kernel, by decide +kernel⟩, by decide +kernel⟩
theorem im_X9_sumOfRanks : Cond.instanceMethod yX9_sumOfRanks ∈ jws := jmem (i := 547) (by decide +kernel) rfl
theorem se_X9_sumOfRanks : Cond.selects RX9 yX9_sumOfRanks yX9_sumOfRanks ∈ jws := jmem (i := 548) (by decide +kernel) rfl
theorem cm_X9_rankInSecond : jcm mX9_rankInSecond 1 := ⟨jmem (i := 557) (by decide +kernel) rfl, jmem (i := 7) (by decide +kernel) rfl, rfl, by decide +kernel, ⟨by decide +kernel, by decide +kernel⟩, by decide +kernel⟩
theorem im_X9_rankInSecond : Cond.instanceMethod yX9_rankInSecond ∈ jws := jmem (i := 555) (by decide +kernel) rfl
theorem se_X9_rankInSecond : Cond.selects RX9 yX9_rankInSecond yX9_rankInSecond ∈ jws := jmem (i := 556) (by decide +kernel) rfl
theorem cm_X10_init : jcm mX10_init 0 := ⟨jmem (i := 21) (by decide +kernel) rfl, jmem (i := 1) (by decide +kernel) rfl, rfl, by decide +kernel, ⟨by decide +kernel, by decide +kernel⟩, by decide +kernel⟩
theorem im_X10_init : Cond.instanceMethod yX10_init ∈ jws := jmem (i := 20) (by decide +kernel) rfl
theorem cm_X10_word : jcm mX10_word 2 := ⟨jmem (i := 345) (by decide +kernel) rfl, jmem (i := 1) (by decide +kernel) rfl, rfl, by decide +kernel, ⟨by decide +kernel, by decide +kernel⟩, by decide +kernel⟩
theorem im_X10_word : Cond.instanceMethod yX10_word ∈ jws := jmem (i := 343) (by decide +kernel) rfl
theorem se_X10_word : Cond.selects RX10 yX10_word yX10_word ∈ jws := jmem (i := 344) (by decide +kernel) rfl
theorem cm_X10_hand : jcm mX10_hand 1 := ⟨jmem (i := 359) (by decide +kernel) rfl, jmem (i := 1) (by decide +kernel) rfl, rfl, by decide +kernel, ⟨by decide +kernel, by decide +kernel⟩, by decide +kernel⟩
theorem im_X10_hand : Cond.instanceMethod yX10_hand ∈ jws := jmem (i := 357) (by decide +kernel) rfl
theorem se_X10_hand : Cond.selects RX10 yX10_hand yX10_hand ∈ jws := jmem (i := 358) (by decide +kernel) rfl
theorem cm_X10_pupil : jcm mX10_pupil 2 := ⟨jmem (i := 371) (by decide +kernel) rfl, jmem (i := 1) (by decide +kernel) rfl, rfl, by decide +kernel, ⟨by decide +kernel, by decide +kernel⟩, by decide +kernel⟩
theorem im_X10_pupil : Cond.instanceMethod yX10_pupil ∈ jws := jmem (i := 369) (by decide +kernel) rfl
theorem se_X10_pupil : Cond.selects RX10 yX10_pupil yX10_pupil ∈ jws := jmem (i := 370) (by decide +kernel) rfl
theorem cm_X10_became : jcm mX10_became 2 := ⟨jmem (i := 379) (by decide +kernel) rfl, jmem (i := 1) (by decide +kernel) rfl, rfl, by decide +kernel, ⟨by decide +kernel, by decide +kernel⟩, by decide +kernel⟩
theorem im_X10_became : Cond.instanceMethod yX10_became ∈ jws := jmem (i := 377) (by decide +kernel) rfl
theorem se_X10_became : Cond.selects RX10 yX10_became yX10_became ∈ jws := jmem (i := 378) (by decide +kernel) rfl
theorem cm_X10_letter : jcm mX10_letter 3 := ⟨jmem (i := 387) (by decide +kernel) rfl, jmem (i := 1) (by decide +kernel) rfl, rfl, by decide +kernel, ⟨by decide +kernel, by decide +kernel⟩, by decide +kernel⟩
theorem im_X10_letter : Cond.instanceMethod yX10_letter ∈ jws := jmem (i := 385) (by decide +kernel) rfl
theorem se_X10_letter : Cond.selects RX10 yX10_letter yX10_letter ∈ jws := jmem (i := 386) (by decide +kernel) rfl
theorem cm_X10_write : jcm mX10_write 2 := ⟨jmem (i := 398) (by decide +kernel) rfl, jmem (i := 1) (by decide +kernel) rfl, rfl, by decide +kernel, ⟨by decide +kernel, by decide +kernel⟩, by decide +kernel⟩
theorem im_X10_write : Cond.instanceMethod yX10_write ∈ jws := jmem (i := 396) (by decide +kernel) rfl
theorem se_X10_write : Cond.selects RX10 yX10_write yX10_write ∈ jws := jmem (i := 397) (by decide +kernel) rfl
theorem cm_X10_weight : jcm mX10_weight 2 := ⟨jmem (i := 414) (by decide +kernel) rfl, jmem (i := 1) (by decide +kernel) rfl, rfl, by decide +kernel, ⟨by decide +kernel, by decide +kernel⟩, by decide +kernel⟩
theorem im_X10_weight : Cond.instanceMethod yX10_weight ∈ jws := jmem (i := 412) (by decide +kernel) rfl
theorem se_X10_weight : Cond.selects RX10 yX10_weight yX10_weight ∈ jws := jmem (i := 413) (by decide +kernel) rfl
theorem cm_X10_uses : jcm mX10_uses 3 := ⟨jmem (i := 421) (by decide +kernel) rfl, jmem (i := 1) (by decide +kernel) rfl, rfl, by decide +kernel, ⟨by decide +kernel, by decide +kernel⟩, by decide +kernel⟩
theorem im_X10_uses : Cond.instanceMethod yX10_uses ∈ jws := jmem (i := 419) (by decide +kernel) rfl
theorem se_X10_uses : Cond.selects RX10 yX10_uses yX10_uses ∈ jws := jmem (i := 420) (by decide +kernel) rfl
theorem cm_X10_means : jcm mX10_means 3 := ⟨jmem (i := 441) (by decide +kernel) rfl, jmem (i := 1) (by decide +kernel) rfl, rfl, by decide +kernel, ⟨by decide +kernel, by decide +kernel⟩, by decide +kernel⟩
theorem im_X10_means : Cond.instanceMethod yX10_means ∈ jws := jmem (i := 439) (by decide +kernel) rfl
theorem se_X10_means : Cond.selects RX10 yX10_means yX10_means ∈ jws := jmem (i := 440) (by decide +kernel) rfl
theorem cm_X10_odds : jcm mX10_odds 2 := ⟨jmem (i := 465) (by decide +kernel) rfl, jmem (i := 1) (by decide +kernel) rfl, rfl, by decide +kernel, ⟨by decide +kernel, by decide +kernel⟩, by decide +kernel⟩
theorem im_X10_odds : Cond.instanceMethod yX10_odds ∈ jws := jmem (i := 463) (by decide +kernel) rfl
theorem se_X10_odds : Cond.selects RX10 yX10_odds yX10_odds ∈ jws := jmem (i := 464) (by decide +kernel) rfl
theorem cm_X10_likeliest : jcm mX10_likeliest 1 := ⟨jmem (i := 516) (by decide +kernel) rfl, jmem (i := 1) (by decide +kernel) rfl, rfl, by decide +kernel, ⟨by decide +kernel, by decide +kernel⟩, by decide +kernel⟩
theorem im_X10_likeliest : Cond.instanceMethod yX10_likeliest ∈ jws := jmem (i := 514) (by decide +kernel) rfl
theorem se_X10_likeliest : Cond.selects RX10 yX10_likeliest yX10_likeliest ∈ jws := jmem (i := 515) (by decide +kernel) rfl
theorem cm_X10_says : jcm mX10_says 1 := ⟨jmem (i := 528) (by decide +kernel) rfl, jmem (i := 1) (by decide +kernel) rfl, rfl, by decide +kernel, ⟨by decide +kernel, by decide +kernel⟩, by decide +kernel⟩
theorem im_X10_says : Cond.instanceMethod yX10_says ∈ jws := jmem (i := 526) (by decide +kernel) rfl
theorem se_X10_says : Cond.selects RX10 yX10_says yX10_says ∈ jws := jmem (i := 527) (by decide +kernel) rfl
theorem cm_X10_year : jcm mX10_year 2 := ⟨jmem (i := 532) (by decide +kernel) rfl, jmem (i := 1) (by decide +kernel) rfl, rfl, by decide +kernel, ⟨by decide +kernel, by decide +kernel⟩, by decide +kernel⟩
theorem im_X10_year : Cond.instanceMethod yX10_year ∈ jws := jmem (i := 530) (by decide +kernel) rfl
theorem se_X10_year : Cond.selects RX10 yX10_year yX10_year ∈ jws := jmem (i := 531) (by decide +kernel) rfl
theorem cm_X10_asIn : jcm mX10_asIn 3 := ⟨jmem (i := 553) (by decide +kernel) rfl, jmem (i := 1) (by decide +kernel) rfl, rfl, by decide +kernel, ⟨by decide +kernel, by decide +kernel⟩, by decide +kernel⟩
theorem im_X10_asIn : Cond.instanceMethod yX10_asIn ∈ jws := jmem (i := 551) (by decide +kernel) rfl
theorem se_X10_asIn : Cond.selects RX10 yX10_asIn yX10_asIn ∈ jws := jmem (i := 552) (by decide +kernel) rfl
theorem cm_X10_about : jcm mX10_about 3 := ⟨jmem (i := 562) (by decide +kernel) rfl, jmem (i := 1) (by decide +kernel) rfl, rfl, by decide +kernel, ⟨by decide +kernel, by decide +kernel⟩, by decide +kernel⟩
theorem im_X10_about : Cond.instanceMethod yX10_about ∈ jws := jmem (i := 560) (by decide +kernel) rfl
theorem se_X10_about : Cond.selects RX10 yX10_about yX10_about ∈ jws := jmem (i := 561) (by decide +kernel) rfl
theorem cm_X10_chance : jcm mX10_chance 3 := ⟨jmem (i := 582) (by decide +kernel) rfl, jmem (i := 1) (by decide +kernel) rfl, rfl, by decide +kernel, ⟨by decide +kernel, by decide +kernel⟩, by decide +kernel⟩
theorem im_X10_chance : Cond.instanceMethod yX10_chance ∈ jws := jmem (i := 580) (by decide +kernel) rfl
theorem se_X10_chance : Cond.selects RX10 yX10_chance yX10_chance ∈ jws := jmem (i := 581) (by decide +kernel) rfl
theorem cm_X10_like : jcm mX10_like 3 := ⟨jmem (i := 592) (by decide +kernel) rfl, jmem (i := 1) (by decide +kernel) rfl, rfl, by decide +kernel, ⟨by decide +kernel, by decide +kernel⟩, by decide +kernel⟩
theorem im_X10_like : Cond.instanceMethod yX10_like ∈ jws := jmem (i := 590) (by decide +kernel) rfl
theorem se_X10_like : Cond.selects RX10 yX10_like yX10_like ∈ jws := jmem (i := 591) (by decide +kernel) rfl
theorem cm_X10_left : jcm mX10_left 2 := ⟨jmem (i := 607) (by decide +kernel) rfl, jmem (i := 1) (by decide +kernel) rfl, rfl, by decide +kernel, ⟨by decide +kernel, by decide +kernel⟩, by decide +kernel⟩
theorem im_X10_left : Cond.instanceMethod yX10_left ∈ jws := jmem (i := 605) (by decide +kernel) rfl
theorem se_X10_left : Cond.selects RX10 yX10_left yX10_left ∈ jws := jmem (i := 606) (by decide +kernel) rfl
theorem cm_X10_slip : jcm mX10_slip 1 := ⟨jmem (i := 616) (by decide +kernel) rfl, jmem (i := 1) (by decide +kernel) rfl, rfl, by decide +kernel, ⟨by decide +kernel, by decide +kernel⟩, by decide +kernel⟩
theorem im_X10_slip : Cond.instanceMethod yX10_slip ∈ jws := jmem (i := 614) (by decide +kernel) rfl
theorem se_X10_slip : Cond.selects RX10 yX10_slip yX10_slip ∈ jws := jmem (i := 615) (by decide +kernel) rfl
theorem cm_X10_said : jcm mX10_said 3 := ⟨jmem (i := 620) (by decide +kernel) rfl, jmem (i := 1) (by decide +kernel) rfl, rfl, by decide +kernel, ⟨by decide +kernel, by decide +kernel⟩, by decide +kernel⟩
theorem im_X10_said : Cond.instanceMethod yX10_said ∈ jws := jmem (i := 618) (by decide +kernel) rfl
theorem se_X10_said : Cond.selects RX10 yX10_said yX10_said ∈ jws := jmem (i := 619) (by decide +kernel) rfl
theorem cm_X10_order : jcm mX10_order 1 := ⟨jmem (i := 628) (by decide +kernel) rfl, jmem (i := 1) (by decide +kernel) rfl, rfl, by decide +kernel, ⟨by decide +kernel, by decide +kernel⟩, by decide +kernel⟩
theorem im_X10_order : Cond.instanceMethod yX10_order ∈ jws := jmem (i := 626) (by decide +kernel) rfl
theorem se_X10_order : Cond.selects RX10 yX10_order yX10_order ∈ jws := jmem (i := 627) (by decide +kernel) rfl
theorem cm_X10_sure : jcm mX10_sure 2 := ⟨jmem (i := 659) (by decide +kernel) rfl, jmem (i := 1) (by decide +kernel) rfl, rfl, by decide +kernel, ⟨by decide +kernel, by decide +kernel⟩, by decide +kernel⟩
theorem im_X10_sure : Cond.instanceMethod yX10_sure ∈ jws := jmem (i := 657) (by decide +kernel) rfl
theorem se_X10_sure : Cond.selects RX10 yX10_sure yX10_sure ∈ jws := jmem (i := 658) (by decide +kernel) rfl
theorem cm_X10_kin : jcm mX10_kin 2 := ⟨jmem (i := 663) (by decide +kernel) rfl, jmem (i := 1) (by decide +kernel) rfl, rfl, by decide +kernel, ⟨by decide +kernel, by decide +kernel⟩, by decide +kernel⟩
theorem im_X10_kin : Cond.instanceMethod yX10_kin ∈ jws := jmem (i := 661) (by decide +kernel) rfl
theorem se_X10_kin : Cond.selects RX10 yX10_kin yX10_kin ∈ jws := jmem (i := 662) (by decide +kernel) rfl
theorem cm_X10_dealt : jcm mX10_dealt 2 := ⟨jmem (i := 667) (by decide +kernel) rfl, jmem (i := 1) (by decide +kernel) rfl, rfl, by decide +kernel, ⟨by decide +kernel, by decide +kernel⟩, by decide +kernel⟩
theorem im_X10_dealt : Cond.instanceMethod yX10_dealt ∈ jws := jmem (i := 665) (by decide +kernel) rfl
theorem se_X10_dealt : Cond.selects RX10 yX10_dealt yX10_dealt ∈ jws := jmem (i := 666) (by decide +kernel) rfl
theorem cm_X10_bounds : jcm mX10_bounds 4 := ⟨jmem (i := 698) (by decide +kernel) rfl, jmem (i := 1) (by decide +kernel) rfl, rfl, by decide +kernel, ⟨by decide +kernel, by decide +kernel⟩, by decide +kernel⟩
theorem im_X10_bounds : Cond.instanceMethod yX10_bounds ∈ jws := jmem (i := 696) (by decide +kernel) rfl
theorem se_X10_bounds : Cond.selects RX10 yX10_bounds yX10_bounds ∈ jws := jmem (i := 697) (by decide +kernel) rfl
theorem cm_X10_question : jcm mX10_question 5 := ⟨jmem (i := 702) (by decide +kernel) rfl, jmem (i := 1) (by decide +kernel) rfl, rfl, by decide +kernel, ⟨by decide +kernel, by decide +kernel⟩, by decide +kernel⟩
theorem im_X10_question : Cond.instanceMethod yX10_question ∈ jws := jmem (i := 700) (by decide +kernel) rfl
theorem se_X10_question : Cond.selects RX10 yX10_question yX10_question ∈ jws := jmem (i := 701) (by decide +kernel) rfl
theorem cm_X10_tells : jcm mX10_tells 1 := ⟨jmem (i := 713) (by decide +kernel) rfl, jmem (i := 1) (by decide +kernel) rfl, rfl, by decide +kernel, ⟨by decide +kernel, by decide +kernel⟩, by decide +kernel⟩
theorem im_X10_tells : Cond.instanceMethod yX10_tells ∈ jws := jmem (i := 711) (by decide +kernel) rfl
theorem se_X10_tells : Cond.selects RX10 yX10_tells yX10_tells ∈ jws := jmem (i := 712) (by decide +kernel) rfl
theorem cm_X10_form : jcm mX10_form 1 := ⟨jmem (i := 737) (by decide +kernel) rfl, jmem (i := 1) (by decide +kernel) rfl, rfl, by decide +kernel, ⟨by decide +kernel, by decide +kernel⟩, by decide +kernel⟩
theorem im_X10_form : Cond.instanceMethod yX10_form ∈ jws := jmem (i := 735) (by decide +kernel) rfl
theorem se_X10_form : Cond.selects RX10 yX10_form yX10_form ∈ jws := jmem (i := 736) (by decide +kernel) rfl
theorem cm_X10_sign : jcm mX10_sign 1 := ⟨jmem (i := 750) (by decide +kernel) rfl, jmem (i := 1) (by decide +kernel) rfl, rfl, by decide +kernel, ⟨by decide +kernel, by decide +kernel⟩, by decide +kernel⟩
theorem im_X10_sign : Cond.instanceMethod yX10_sign ∈ jws := jmem (i := 748) (by decide +kernel) rfl
theorem se_X10_sign : Cond.selects RX10 yX10_sign yX10_sign ∈ jws := jmem (i := 749) (by decide +kernel) rfl
theorem cm_X10_limb : jcm mX10_limb 2 := ⟨jmem (i := 754) (by decide +kernel) rfl, jmem (i := 1) (by decide +kernel) rfl, rfl, by decide +kernel, ⟨by decide +kernel, by decide +kernel⟩, by decide +kernel⟩
theorem im_X10_limb : Cond.instanceMethod yX10_limb ∈ jws := jmem (i := 752) (by decide +kernel) rfl
theorem se_X10_limb : Cond.selects RX10 yX10_limb yX10_limb ∈ jws := jmem (i := 753) (by decide +kernel) rfl
theorem cm_X10_count : jcm mX10_count 1 := ⟨jmem (i := 758) (by decide +kernel) rfl, jmem (i := 1) (by decide +kernel) rfl, rfl, by decide +kernel, ⟨by decide +kernel, by decide +kernel⟩, by decide +kernel⟩
theorem im_X10_count : Cond.instanceMethod yX10_count ∈ jws := jmem (i := 756) (by decide +kernel) rfl
theorem se_X10_count : Cond.selects RX10 yX10_count yX10_count ∈ jws := jmem (i := 757) (by decide +kernel) rfl
theorem cm_X10_digest : jcm mX10_digest 0 := ⟨jmem (i := 762) (by decide +kernel) rfl, jmem (i := 1) (by decide +kernel) rfl, rfl, by decide +kernel, ⟨by decide +kernel, by decide +kernel⟩, by decide +kernel⟩
theorem im_X10_digest : Cond.instanceMethod yX10_digest ∈ jws := jmem (i := 760) (by decide +kernel) rfl
theorem se_X10_digest : Cond.selects RX10 yX10_digest yX10_digest ∈ jws := jmem (i := 761) (by decide +kernel) rfl
theorem cm_X10_digestOfRow : jcm mX10_digestOfRow 3 := ⟨jmem (i := 773) (by decide +kernel) rfl, jmem (i := 1) (by decide +kernel) rfl, rfl, by decide +kernel, ⟨by decide +kernel, by decide +kernel⟩, by decide +kernel⟩
theorem st_X10_digestOfRow : Cond.static yX10_digestOfRow ∈ jws := jmem (i := 772) (by decide +kernel) rfl
theorem cm_X10_within : jcm mX10_within 3 := ⟨jmem (i := 351) (by decide +kernel) rfl, jmem (i := 1) (by decide +kernel) rfl, rfl, by decide +kernel, ⟨by decide +kernel, by decide +kernel⟩, by decide +kernel⟩
theorem st_X10_within : Cond.static yX10_within ∈ jws := jmem (i := 350) (by decide +kernel) rfl
theorem cm_X10_isRank : jcm mX10_isRank 1 := ⟨jmem (i := 348) (by decide +kernel) rfl, jmem (i := 1) (by decide +kernel) rfl, rfl, by decide +kernel, ⟨by decide +kernel, by decide +kernel⟩, by decide +kernel⟩
theorem st_X10_isRank : Cond.static yX10_isRank ∈ jws := jmem (i := 347) (by decide +kernel) rfl
theorem cm_X10_isYear : jcm mX10_isYear 1 := ⟨jmem (i := 390) (by decide +kernel) rfl, jmem (i := 1) (by decide +kernel) rfl, rfl, by decide +kernel, ⟨by decide +kernel, by decide +kernel⟩, by decide +kernel⟩
theorem st_X10_isYear : Cond.static yX10_isYear ∈ jws := jmem (i := 389) (by decide +kernel) rfl
theorem cm_X10_isGift : jcm mX10_isGift 1 := ⟨jmem (i := 417) (by decide +kernel) rfl, jmem (i := 1) (by decide +kernel) rfl, rfl, by decide +kernel, ⟨by decide +kernel, by decide +kernel⟩, by decide +kernel⟩
theorem st_X10_isGift : Cond.static yX10_isGift ∈ jws := jmem (i := 416) (by decide +kernel) rfl
theorem cm_X10_isPercent : jcm mX10_isPercent 1 := ⟨jmem (i := 705) (by decide +kernel) rfl, jmem (i := 1) (by decide +kernel) rfl, rfl, by decide +kernel, ⟨by decide +kernel, by decide +kernel⟩, by decide +kernel⟩
theorem st_X10_isPercent : Cond.static yX10_isPercent ∈ jws := jmem (i := 704) (by decide +kernel) rfl
theorem cm_X10_isWord : jcm mX10_isWord 1 := ⟨jmem (i := 406) (by decide +kernel) rfl, jmem (i := 1) (by decide +kernel) rfl, rfl, by decide +kernel, ⟨by decide +kernel, by decide +kernel⟩, by decide +kernel⟩
theorem im_X10_isWord : Cond.instanceMethod yX10_isWord ∈ jws := jmem (i := 405) (by decide +kernel) rfl
theorem se_X10_isWord : Cond.selects RX10 yX10_isWord yX10_isWord ∈ jws := jmemS (i := 4) (q := (yX10_isWord, 10)) (by decide +kernel) rfl
theorem cm_X10_isHand : jcm mX10_isHand 1 := ⟨jmem (i := 363) (by decide +kernel) rfl, jmem (i := 1) (by decide +kernel) rfl, rfl, by decide +kernel, ⟨by decide +kernel, by decide +kernel⟩, by decide +kernel⟩
theorem im_X10_isHand : Cond.instanceMethod yX10_isHand ∈ jws := jmem (i := 362) (by decide +kernel) rfl
theorem se_X10_isHand : Cond.selects RX10 yX10_isHand yX10_isHand ∈ jws := jmemS (i := 1) (q := (yX10_isHand, 10)) (by decide +kernel) rfl
theorem cm_X10_isPupil : jcm mX10_isPupil 1 := ⟨jmem (i := 383) (by decide +kernel) rfl, jmem (i := 1) (by decide +kernel) rfl, rfl, by decide +kernel, ⟨by decide +kernel, by decide +kernel⟩, by decide +kernel⟩
theorem im_X10_isPupil : Cond.instanceMethod yX10_isPupil ∈ jws := jmem (i := 382) (by decide +kernel) rfl
theorem se_X10_isPupil : Cond.selects RX10 yX10_isPupil yX10_isPupil ∈ jws := jmemS (i := 2) (q := (yX10_isPupil, 10)) (by decide +kernel) rfl
theorem cm_X10_isLetter : jcm mX10_isLetter 1 := ⟨jmem (i := 402) (by decide +kernel) rfl, jmem (i := 1) (by decide +kernel) rfl, rfl, by decide +kernel, ⟨by decide +kernel, by decide +kernel⟩, by decide +kernel⟩
theorem im_X10_isLetter : Cond.instanceMethod yX10_isLetter ∈ jws := jmem (i := 401) (by decide +kernel) rfl
theorem se_X10_isLetter : Cond.selects RX10 yX10_isLetter yX10_isLetter ∈ jws := jmemS (i := 3) (q := (yX10_isLetter, 10)) (by decide +kernel) rfl
theorem cm_X10_choices : jcm mX10_choices 2 := ⟨jmem (i := 585) (by decide +kernel) rfl, jmem (i := 1) (by decide +kernel) rfl, rfl, by decide +kernel, ⟨by decide +kernel, by decide +kernel⟩, by decide +kernel⟩
theorem st_X10_choices : Cond.static yX10_choices ∈ jws := jmem (i := 584) (by decide +kernel) rfl
theorem cm_X11_in : jcm mX11_in 3 := ⟨jmem (i := 889) (by decide +kernel) rfl, jmem (i := 13) (by decide +kernel) rfl, rfl, by decide +kernel, ⟨by decide +kernel, by decide +kernel⟩, by decide +kernel⟩
theorem st_X11_in : Cond.static yX11_in ∈ jws := jmem (i := 888) (by decide +kernel) rfl
theorem cm_X11_init : jcm mX11_init 0 := ⟨jmem (i := 792) (by decide +kernel) rfl, jmem (i := 13) (by decide +kernel) rfl, rfl, by decide +kernel, ⟨by decide +kernel, by decide +kernel⟩, by decide +kernel⟩
theorem im_X11_init : Cond.instanceMethod yX11_init ∈ jws := jmem (i := 791) (by decide +kernel) rfl
theorem cm_X11_trims : jcm mX11_trims 1 := ⟨jmem (i := 802) (by decide +kernel) rfl, jmem (i := 13) (by decide +kernel) rfl, rfl, by decide +kernel, ⟨by decide +kernel, by decide +kernel⟩, by decide +kernel⟩
theorem im_X11_trims : Cond.instanceMethod yX11_trims ∈ jws := jmem (i := 801) (by decide +kernel) rfl
theorem se_X11_trims : Cond.selects RX11 yX11_trims yX11_trims ∈ jws := jmemS (i := 21) (q := (yX11_trims, 25)) (by decide +kernel) rfl
theorem cm_X11_sets : jcm mX11_sets 2 := ⟨jmem (i := 797) (by decide +kernel) rfl, jmem (i := 13) (by decide +kernel) rfl, rfl, by decide +kernel, ⟨by decide +kernel, by decide +kernel⟩, by decide +kernel⟩
theorem im_X11_sets : Cond.instanceMethod yX11_sets ∈ jws := jmem (i := 796) (by decide +kernel) rfl
theorem se_X11_sets : Cond.selects RX11 yX11_sets yX11_sets ∈ jws := jmemS (i := 20) (q := (yX11_sets, 25)) (by decide +kernel) rfl
theorem cm_X11_takes : jcm mX11_takes 2 := ⟨jmem (i := 981) (by decide +kernel) rfl, jmem (i := 13) (by decide +kernel) rfl, rfl, by decide +kernel, ⟨by decide +kernel, by decide +kernel⟩, by decide +kernel⟩
theorem im_X11_takes : Cond.instanceMethod yX11_takes ∈ jws := jmem (i := 980) (by decide +kernel) rfl
theorem se_X11_takes : Cond.selects RX11 yX11_takes yX11_takes ∈ jws := jmemS (i := 33) (q := (yX11_takes, 25)) (by decide +kernel) rfl
theorem cm_X11_times : jcm mX11_times 2 := ⟨jmem (i := 1010) (by decide +kernel) rfl, jmem (i := 13) (by decide +kernel) rfl, rfl, by decide +kernel, ⟨by decide +kernel, by decide +kernel⟩, by decide +kernel⟩
theorem im_X11_times : Cond.instanceMethod yX11_times ∈ jws := jmem (i := 1009) (by decide +kernel) rfl
theorem se_X11_times : Cond.selects RX11 yX11_times yX11_times ∈ jws := jmemS (i := 39) (q := (yX11_times, 25)) (by decide +kernel) rfl
theorem cm_X11_multiplies : jcm mX11_multiplies 2 := ⟨jmem (i := 1018) (by decide +kernel) rfl, jmem (i := 13) (by decide +kernel) rfl, rfl, by decide +kernel, ⟨by decide +kernel, by decide +kernel⟩, by decide +kernel⟩
theorem im_X11_multiplies : Cond.instanceMethod yX11_multiplies ∈ jws := jmem (i := 1017) (by decide +kernel) rfl
theorem se_X11_multiplies : Cond.selects RX11 yX11_multiplies yX11_multiplies ∈ jws := jmemS (i := 41) (q := (yX11_multiplies, 25)) (by decide +kernel) rfl
theorem cm_X11_adds : jcm mX11_adds 2 := ⟨jmem (i := 1022) (by decide +kernel) rfl, jmem (i := 13) (by decide +kernel) rfl, rfl, by decide +kernel, ⟨by decide +kernel, by decide +kernel⟩, by decide +kernel⟩
theorem im_X11_adds : Cond.instanceMethod yX11_adds ∈ jws := jmem (i := 1021) (by decide +kernel) rfl
theorem se_X11_adds : Cond.selects RX11 yX11_adds yX11_adds ∈ jws := jmemS (i := 42) (q := (yX11_adds, 25)) (by decide +kernel) rfl
theorem cm_X11_lessens : jcm mX11_lessens 2 := ⟨jmem (i := 989) (by decide +kernel) rfl, jmem (i := 13) (by decide +kernel) rfl, rfl, by decide +kernel, ⟨by decide +kernel, by decide +kernel⟩, by decide +kernel⟩
theorem im_X11_lessens : Cond.instanceMethod yX11_lessens ∈ jws := jmem (i := 988) (by decide +kernel) rfl
theorem se_X11_lessens : Cond.selects RX11 yX11_lessens yX11_lessens ∈ jws := jmemS (i := 35) (q := (yX11_lessens, 25)) (by decide +kernel) rfl
theorem cm_X11_against : jcm mX11_against 2 := ⟨jmem (i := 985) (by decide +kernel) rfl, jmem (i := 13) (by decide +kernel) rfl, rfl, by decide +kernel, ⟨by decide +kernel, by decide +kernel⟩, by decide +kernel⟩
theorem im_X11_against : Cond.instanceMethod yX11_against ∈ jws := jmem (i := 984) (by decide +kernel) rfl
theorem se_X11_against : Cond.selects RX11 yX11_against yX11_against ∈ jws := jmemS (i := 34) (q := (yX11_against, 25)) (by decide +kernel) rfl
theorem cm_X11_isEven : jcm mX11_isEven 1 := ⟨jmem (i := 973) (by decide +kernel) rfl, jmem (i := 13) (by decide +kernel) rfl, rfl, by decide +kernel, ⟨by decide +kernel, by decide +kernel⟩, by decide +kernel⟩
theorem im_X11_isEven : Cond.instanceMethod yX11_isEven ∈ jws := jmem (i := 972) (by decide +kernel) rfl
theorem se_X11_isEven : Cond.selects RX11 yX11_isEven yX11_isEven ∈ jws := jmemS (i := 31) (q := (yX11_isEven, 25)) (by decide +kernel) rfl
theorem cm_X11_halves : jcm mX11_halves 1 := ⟨jmem (i := 977) (by decide +kernel) rfl, jmem (i := 13) (by decide +kernel) rfl, rfl, by decide +kernel, ⟨by decide +kernel, by decide +kernel⟩, by decide +kernel⟩
theorem im_X11_halves : Cond.instanceMethod yX11_halves ∈ jws := jmem (i := 976) (by decide +kernel) rfl
theorem se_X11_halves : Cond.selects RX11 yX11_halves yX11_halves ∈ jws := jmemS (i := 32) (q := (yX11_halves, 25)) (by decide +kernel) rfl
theorem cm_X11_lowers : jcm mX11_lowers 0 := ⟨jmem (i := 969) (by decide +kernel) rfl, jmem (i := 13) (by decide +kernel) rfl, rfl, by decide +kernel, ⟨by decide +kernel, by decide +kernel⟩, by decide +kernel⟩
theorem im_X11_lowers : Cond.instanceMethod yX11_lowers ∈ jws := jmem (i := 968) (by decide +kernel) rfl
theorem se_X11_lowers : Cond.selects RX11 yX11_lowers yX11_lowers ∈ jws := jmemS (i := 30) (q := (yX11_lowers, 25)) (by decide +kernel) rfl
theorem cm_X11_parts : jcm mX11_parts 1 := ⟨jmem (i := 994) (by decide +kernel) rfl, jmem (i := 13) (by decide +kernel) rfl, rfl, by decide +kernel, ⟨by decide +kernel, by decide +kernel⟩, by decide +kernel⟩
theorem im_X11_parts : Cond.instanceMethod yX11_parts ∈ jws := jmem (i := 993) (by decide +kernel) rfl
theorem se_X11_parts : Cond.selects RX11 yX11_parts yX11_parts ∈ jws := jmemS (i := 36) (q := (yX11_parts, 25)) (by decide +kernel) rfl
theorem cm_X11_told : jcm mX11_told 2 := ⟨jmem (i := 965) (by decide +kernel) rfl, jmem (i := 13) (by decide +kernel) rfl, rfl, by decide +kernel, ⟨by decide +kernel, by decide +kernel⟩, by decide +kernel⟩
theorem im_X11_told : Cond.instanceMethod yX11_told ∈ jws := jmem (i := 964) (by decide +kernel) rfl
theorem se_X11_told : Cond.selects RX11 yX11_told yX11_told ∈ jws := jmemS (i := 29) (q := (yX11_told, 25)) (by decide +kernel) rfl
theorem cm_X11_sign : jcm mX11_sign 1 := ⟨jmem (i := 882) (by decide +kernel) rfl, jmem (i := 13) (by decide +kernel) rfl, rfl, by decide +kernel, ⟨by decide +kernel, by decide +kernel⟩, by decide +kernel⟩
theorem im_X11_sign : Cond.instanceMethod yX11_sign ∈ jws := jmem (i := 880) (by decide +kernel) rfl
theorem se_X11_sign : Cond.selects RX11 yX11_sign yX11_sign ∈ jws := jmem (i := 881) (by decide +kernel) rfl
theorem cm_X11_limb : jcm mX11_limb 2 := ⟨jmem (i := 886) (by decide +kernel) rfl, jmem (i := 13) (by decide +kernel) rfl, rfl, by decide +kernel, ⟨by decide +kernel, by decide +kernel⟩, by decide +kernel⟩
theorem im_X11_limb : Cond.instanceMethod yX11_limb ∈ jws := jmem (i := 884) (by decide +kernel) rfl
theorem se_X11_limb : Cond.selects RX11 yX11_limb yX11_limb ∈ jws := jmem (i := 885) (by decide +kernel) rfl
theorem cm_X11_is : jcm mX11_is 2 := ⟨jmem (i := 917) (by decide +kernel) rfl, jmem (i := 13) (by decide +kernel) rfl, rfl, by decide +kernel, ⟨by decide +kernel, by decide +kernel⟩, by decide +kernel⟩
theorem im_X11_is : Cond.instanceMethod yX11_is ∈ jws := jmem (i := 916) (by decide +kernel) rfl
theorem se_X11_is : Cond.selects RX11 yX11_is yX11_is ∈ jws := jmemS (i := 23) (q := (yX11_is, 25)) (by decide +kernel) rfl
theorem cm_X11_next : jcm mX11_next 1 := ⟨jmem (i := 899) (by decide +kernel) rfl, jmem (i := 13) (by decide +kernel) rfl, rfl, by decide +kernel, ⟨by decide +kernel, by decide +kernel⟩, by decide +kernel⟩
theorem im_X11_next : Cond.instanceMethod yX11_next ∈ jws := jmem (i := 898) (by decide +kernel) rfl
theorem se_X11_next : Cond.selects RX11 yX11_next yX11_next ∈ jws := jmemS (i := 22) (q := (yX11_next, 25)) (by decide +kernel) rfl
theorem cm_X11_word : jcm mX11_word 2 := ⟨jmem (i := 893) (by decide +kernel) rfl, jmem (i := 13) (by decide +kernel) rfl, rfl, by decide +kernel, ⟨by decide +kernel, by decide +kernel⟩, by decide +kernel⟩
theorem im_X11_word : Cond.instanceMethod yX11_word ∈ jws := jmem (i := 891) (by decide +kernel) rfl
theorem se_X11_word : Cond.selects RX11 yX11_word yX11_word ∈ jws := jmem (i := 892) (by decide +kernel) rfl
theorem cm_X11_hand : jcm mX11_hand 1 := ⟨jmem (i := 903) (by decide +kernel) rfl, jmem (i := 13) (by decide +kernel) rfl, rfl, by decide +kernel, ⟨by decide +kernel, by decide +kernel⟩, by decide +kernel⟩
theorem im_X11_hand : Cond.instanceMethod yX11_hand ∈ jws := jmem (i := 901) (by decide +kernel) rfl
theorem se_X11_hand : Cond.selects RX11 yX11_hand yX11_hand ∈ jws := jmem (i := 902) (by decide +kernel) rfl
theorem cm_X11_pupil : jcm mX11_pupil 2 := ⟨jmem (i := 908) (by decide +kernel) rfl, jmem (i := 13) (by decide +kernel) rfl, rfl, by decide +kernel, ⟨by decide +kernel, by decide +kernel⟩, by decide +kernel⟩
theorem im_X11_pupil : Cond.instanceMethod yX11_pupil ∈ jws := jmem (i := 906) (by decide +kernel) rfl
theorem se_X11_pupil : Cond.selects RX11 yX11_pupil yX11_pupil ∈ jws := jmem (i := 907) (by decide +kernel) rfl
theorem cm_X11_became : jcm mX11_became 2 := ⟨jmem (i := 913) (by decide +kernel) rfl, jmem (i := 13) (by decide +kernel) rfl, rfl, by decide +kernel, ⟨by decide +kernel, by decide +kernel⟩, by decide +kernel⟩
theorem im_X11_became : Cond.instanceMethod yX11_became ∈ jws := jmem (i := 911) (by decide +kernel) rfl
theorem se_X11_became : Cond.selects RX11 yX11_became yX11_became ∈ jws := jmem (i := 912) (by decide +kernel) rfl
theorem cm_X11_letter : jcm mX11_letter 3 := ⟨jmem (i := 921) (by decide +kernel) rfl, jmem (i := 13) (by decide +kernel) rfl, rfl, by decide +kernel, ⟨by decide +kernel, by decide +kernel⟩, by decide +kernel⟩
theorem im_X11_letter : Cond.instanceMethod yX11_letter ∈ jws := jmem (i := 919) (by decide +kernel) rfl
theorem se_X11_letter : Cond.selects RX11 yX11_letter yX11_letter ∈ jws := jmem (i := 920) (by decide +kernel) rfl
theorem cm_X11_write : jcm mX11_write 2 := ⟨jmem (i := 926) (by decide +kernel) rfl, jmem (i := 13) (by decide +kernel) rfl, rfl, by decide +kernel, ⟨by decide +kernel, by decide +kernel⟩, by decide +kernel⟩
theorem im_X11_write : Cond.instanceMethod yX11_write ∈ jws := jmem (i := 924) (by decide +kernel) rfl
theorem se_X11_write : Cond.selects RX11 yX11_write yX11_write ∈ jws := jmem (i := 925) (by decide +kernel) rfl
theorem cm_X11_isGift : jcm mX11_isGift 1 := ⟨jmem (i := 933) (by decide +kernel) rfl, jmem (i := 13) (by decide +kernel) rfl, rfl, by decide +kernel, ⟨by decide +kernel, by decide +kernel⟩, by decide +kernel⟩
theorem st_X11_isGift : Cond.static yX11_isGift ∈ jws := jmem (i := 932) (by decide +kernel) rfl
theorem cm_X11_weight : jcm mX11_weight 2 := ⟨jmem (i := 930) (by decide +kernel) rfl, jmem (i := 13) (by decide +kernel) rfl, rfl, by decide +kernel, ⟨by decide +kernel, by decide +kernel⟩, by decide +kernel⟩
theorem im_X11_weight : Cond.instanceMethod yX11_weight ∈ jws := jmem (i := 928) (by decide +kernel) rfl
theorem se_X11_weight : Cond.selects RX11 yX11_weight yX11_weight ∈ jws := jmem (i := 929) (by decide +kernel) rfl
theorem cm_X11_stands : jcm mX11_stands 2 := ⟨jmem (i := 949) (by decide +kernel) rfl, jmem (i := 13) (by decide +kernel) rfl, rfl, by decide +kernel, ⟨by decide +kernel, by decide +kernel⟩, by decide +kernel⟩
theorem im_X11_stands : Cond.instanceMethod yX11_stands ∈ jws := jmem (i := 948) (by decide +kernel) rfl
theorem se_X11_stands : Cond.selects RX11 yX11_stands yX11_stands ∈ jws := jmemS (i := 26) (q := (yX11_stands, 25)) (by decide +kernel) rfl
theorem cm_X11_usesOf : jcm mX11_usesOf 4 := ⟨jmem (i := 945) (by decide +kernel) rfl, jmem (i := 13) (by decide +kernel) rfl, rfl, by decide +kernel, ⟨by decide +kernel, by decide +kernel⟩, by decide +kernel⟩
theorem im_X11_usesOf : Cond.instanceMethod yX11_usesOf ∈ jws := jmem (i := 944) (by decide +kernel) rfl
theorem se_X11_usesOf : Cond.selects RX11 yX11_usesOf yX11_usesOf ∈ jws := jmemS (i := 25) (q := (yX11_usesOf, 25)) (by decide +kernel) rfl
theorem cm_X11_isUse : jcm mX11_isUse 3 := ⟨jmem (i := 941) (by decide +kernel) rfl, jmem (i := 13) (by decide +kernel) rfl, rfl, by decide +kernel, ⟨by decide +kernel, by decide +kernel⟩, by decide +kernel⟩
theorem im_X11_isUse : Cond.instanceMethod yX11_isUse ∈ jws := jmem (i := 940) (by decide +kernel) rfl
theorem se_X11_isUse : Cond.selects RX11 yX11_isUse yX11_isUse ∈ jws := jmemS (i := 24) (q := (yX11_isUse, 25)) (by decide +kernel) rfl
theorem cm_X11_uses : jcm mX11_uses 3 := ⟨jmem (i := 937) (by decide +kernel) rfl, jmem (i := 13) (by decide +kernel) rfl, rfl, by decide +kernel, ⟨by decide +kernel, by decide +kernel⟩, by decide +kernel⟩
theorem im_X11_uses : Cond.instanceMethod yX11_uses ∈ jws := jmem (i := 935) (by decide +kernel) rfl
theorem se_X11_uses : Cond.selects RX11 yX11_uses yX11_uses ∈ jws := jmem (i := 936) (by decide +kernel) rfl
theorem cm_X11_meanUp : jcm mX11_meanUp 4 := ⟨jmem (i := 957) (by decide +kernel) rfl, jmem (i := 13) (by decide +kernel) rfl, rfl, by decide +kernel, ⟨by decide +kernel, by decide +kernel⟩, by decide +kernel⟩
theorem im_X11_meanUp : Cond.instanceMethod yX11_meanUp ∈ jws := jmem (i := 956) (by decide +kernel) rfl
theorem se_X11_meanUp : Cond.selects RX11 yX11_meanUp yX11_meanUp ∈ jws := jmemS (i := 27) (q := (yX11_meanUp, 25)) (by decide +kernel) rfl
theorem cm_X11_meanDown : jcm mX11_meanDown 3 := ⟨jmem (i := 961) (by decide +kernel) rfl, jmem (i := 13) (by decide +kernel) rfl, rfl, by decide +kernel, ⟨by decide +kernel, by decide +kernel⟩, by decide +kernel⟩
theorem im_X11_meanDown : Cond.instanceMethod yX11_meanDown ∈ jws := jmem (i := 960) (by decide +kernel) rfl
theorem se_X11_meanDown : Cond.selects RX11 yX11_meanDown yX11_meanDown ∈ jws := jmemS (i := 28) (q := (yX11_meanDown, 25)) (by decide +kernel) rfl
theorem cm_X11_means : jcm mX11_means 3 := ⟨jmem (i := 953) (by decide +kernel) rfl, jmem (i := 13) (by decide +kernel) rfl, rfl, by decide +kernel, ⟨by decide +kernel, by decide +kernel⟩, by decide +kernel⟩
theorem im_X11_means : Cond.instanceMethod yX11_means ∈ jws := jmem (i := 951) (by decide +kernel) rfl
theorem se_X11_means : Cond.selects RX11 yX11_means yX11_means ∈ jws := jmem (i := 952) (by decide +kernel) rfl
theorem cm_X11_wordsOf : jcm mX11_wordsOf 1 := ⟨jmem (i := 1002) (by decide +kernel) rfl, jmem (i := 13) (by decide +kernel) rfl, rfl, by decide +kernel, ⟨by decide +kernel, by decide +kernel⟩, by decide +kernel⟩
theorem im_X11_wordsOf : Cond.instanceMethod yX11_wordsOf ∈ jws := jmem (i := 1001) (by decide +kernel) rfl
theorem se_X11_wordsOf : Cond.selects RX11 yX11_wordsOf yX11_wordsOf ∈ jws := jmemS (i := 37) (q := (yX11_wordsOf, 25)) (by decide +kernel) rfl
theorem cm_X11_weighs : jcm mX11_weighs 1 := ⟨jmem (i := 1006) (by decide +kernel) rfl, jmem (i := 13) (by decide +kernel) rfl, rfl, by decide +kernel, ⟨by decide +kernel, by decide +kernel⟩, by decide +kernel⟩
theorem im_X11_weighs : Cond.instanceMethod yX11_weighs ∈ jws := jmem (i := 1005) (by decide +kernel) rfl
theorem se_X11_weighs : Cond.selects RX11 yX11_weighs yX11_weighs ∈ jws := jmemS (i := 38) (q := (yX11_weighs, 25)) (by decide +kernel) rfl
theorem cm_X11_shares : jcm mX11_shares 2 := ⟨jmem (i := 1014) (by decide +kernel) rfl, jmem (i := 13) (by decide +kernel) rfl, rfl, by decide +kernel, ⟨by decide +kernel, by decide +kernel⟩, by decide +kernel⟩
theorem im_X11_shares : Cond.instanceMethod yX11_shares ∈ jws := jmem (i := 1013) (by decide +kernel) rfl
theorem se_X11_shares : Cond.selects RX11 yX11_shares yX11_shares ∈ jws := jmemS (i := 40) (q := (yX11_shares, 25)) (by decide +kernel) rfl
theorem cm_X11_odds : jcm mX11_odds 2 := ⟨jmem (i := 998) (by decide +kernel) rfl, jmem (i := 13) (by decide +kernel) rfl, rfl, by decide +kernel, ⟨by decide +kernel, by decide +kernel⟩, by decide +kernel⟩
theorem im_X11_odds : Cond.instanceMethod yX11_odds ∈ jws := jmem (i := 996) (by decide +kernel) rfl
theorem se_X11_odds : Cond.selects RX11 yX11_odds yX11_odds ∈ jws := jmem (i := 997) (by decide +kernel) rfl
theorem cm_X11_likeliest : jcm mX11_likeliest 1 := ⟨jmem (i := 1026) (by decide +kernel) rfl, jmem (i := 13) (by decide +kernel) rfl, rfl, by decide +kernel, ⟨by decide +kernel, by decide +kernel⟩, by decide +kernel⟩
theorem im_X11_likeliest : Cond.instanceMethod yX11_likeliest ∈ jws := jmem (i := 1024) (by decide +kernel) rfl
theorem se_X11_likeliest : Cond.selects RX11 yX11_likeliest yX11_likeliest ∈ jws := jmem (i := 1025) (by decide +kernel) rfl
theorem cm_X11_says : jcm mX11_says 1 := ⟨jmem (i := 1030) (by decide +kernel) rfl, jmem (i := 13) (by decide +kernel) rfl, rfl, by decide +kernel, ⟨by decide +kernel, by decide +kernel⟩, by decide +kernel⟩
theorem im_X11_says : Cond.instanceMethod yX11_says ∈ jws := jmem (i := 1028) (by decide +kernel) rfl
theorem se_X11_says : Cond.selects RX11 yX11_says yX11_says ∈ jws := jmem (i := 1029) (by decide +kernel) rfl
theorem cm_X11_isYear : jcm mX11_isYear 1 := ⟨jmem (i := 1037) (by decide +kernel) rfl, jmem (i := 13) (by decide +kernel) rfl, rfl, by decide +kernel, ⟨by decide +kernel, by decide +kernel⟩, by decide +kernel⟩
theorem st_X11_isYear : Cond.static yX11_isYear ∈ jws := jmem (i := 1036) (by decide +kernel) rfl
theorem cm_X11_wordsIn : jcm mX11_wordsIn 3 := ⟨jmem (i := 1041) (by decide +kernel) rfl, jmem (i := 13) (by decide +kernel) rfl, rfl, by decide +kernel, ⟨by decide +kernel, by decide +kernel⟩, by decide +kernel⟩
theorem im_X11_wordsIn : Cond.instanceMethod yX11_wordsIn ∈ jws := jmem (i := 1040) (by decide +kernel) rfl
theorem se_X11_wordsIn : Cond.selects RX11 yX11_wordsIn yX11_wordsIn ∈ jws := jmemS (i := 43) (q := (yX11_wordsIn, 25)) (by decide +kernel) rfl
theorem cm_X11_year : jcm mX11_year 2 := ⟨jmem (i := 1034) (by decide +kernel) rfl, jmem (i := 13) (by decide +kernel) rfl, rfl, by decide +kernel, ⟨by decide +kernel, by decide +kernel⟩, by decide +kernel⟩
theorem im_X11_year : Cond.instanceMethod yX11_year ∈ jws := jmem (i := 1032) (by decide +kernel) rfl
theorem se_X11_year : Cond.selects RX11 yX11_year yX11_year ∈ jws := jmem (i := 1033) (by decide +kernel) rfl
theorem cm_X11_asIn : jcm mX11_asIn 3 := ⟨jmem (i := 1045) (by decide +kernel) rfl, jmem (i := 13) (by decide +kernel) rfl, rfl, by decide +kernel, ⟨by decide +kernel, by decide +kernel⟩, by decide +kernel⟩
theorem im_X11_asIn : Cond.instanceMethod yX11_asIn ∈ jws := jmem (i := 1043) (by decide +kernel) rfl
theorem se_X11_asIn : Cond.selects RX11 yX11_asIn yX11_asIn ∈ jws := jmem (i := 1044) (by decide +kernel) rfl
theorem cm_X11_lettersOf : jcm mX11_lettersOf 4 := ⟨jmem (i := 1057) (by decide +kernel) rfl, jmem (i := 13) (by decide +kernel) rfl, rfl, by decide +kernel, ⟨by decide +kernel, by decide +kernel⟩, by decide +kernel⟩
theorem im_X11_lettersOf : Cond.instanceMethod yX11_lettersOf ∈ jws := jmem (i := 1056) (by decide +kernel) rfl
theorem se_X11_lettersOf : Cond.selects RX11 yX11_lettersOf yX11_lettersOf ∈ jws := jmemS (i := 45) (q := (yX11_lettersOf, 25)) (by decide +kernel) rfl
theorem cm_X11_isAbout : jcm mX11_isAbout 2 := ⟨jmem (i := 1053) (by decide +kernel) rfl, jmem (i := 13) (by decide +kernel) rfl, rfl, by decide +kernel, ⟨by decide +kernel, by decide +kernel⟩, by decide +kernel⟩
theorem im_X11_isAbout : Cond.instanceMethod yX11_isAbout ∈ jws := jmem (i := 1052) (by decide +kernel) rfl
theorem se_X11_isAbout : Cond.selects RX11 yX11_isAbout yX11_isAbout ∈ jws := jmemS (i := 44) (q := (yX11_isAbout, 25)) (by decide +kernel) rfl
theorem cm_X11_about : jcm mX11_about 3 := ⟨jmem (i := 1049) (by decide +kernel) rfl, jmem (i := 13) (by decide +kernel) rfl, rfl, by decide +kernel, ⟨by decide +kernel, by decide +kernel⟩, by decide +kernel⟩
theorem im_X11_about : Cond.instanceMethod yX11_about ∈ jws := jmem (i := 1047) (by decide +kernel) rfl
theorem se_X11_about : Cond.selects RX11 yX11_about yX11_about ∈ jws := jmem (i := 1048) (by decide +kernel) rfl
theorem cm_X11_ways : jcm mX11_ways 2 := ⟨jmem (i := 1064) (by decide +kernel) rfl, jmem (i := 13) (by decide +kernel) rfl, rfl, by decide +kernel, ⟨by decide +kernel, by decide +kernel⟩, by decide +kernel⟩
theorem st_X11_ways : Cond.static yX11_ways ∈ jws := jmem (i := 1063) (by decide +kernel) rfl
theorem cm_X11_chance : jcm mX11_chance 3 := ⟨jmem (i := 1061) (by decide +kernel) rfl, jmem (i := 13) (by decide +kernel) rfl, rfl, by decide +kernel, ⟨by decide +kernel, by decide +kernel⟩, by decide +kernel⟩
theorem im_X11_chance : Cond.instanceMethod yX11_chance ∈ jws := jmem (i := 1059) (by decide +kernel) rfl
theorem se_X11_chance : Cond.selects RX11 yX11_chance yX11_chance ∈ jws := jmem (i := 1060) (by decide +kernel) rfl
theorem cm_X11_runOf : jcm mX11_runOf 2 := ⟨jmem (i := 1072) (by decide +kernel) rfl, jmem (i := 13) (by decide +kernel) rfl, rfl, by decide +kernel, ⟨by decide +kernel, by decide +kernel⟩, by decide +kernel⟩
theorem im_X11_runOf : Cond.instanceMethod yX11_runOf ∈ jws := jmem (i := 1071) (by decide +kernel) rfl
theorem se_X11_runOf : Cond.selects RX11 yX11_runOf yX11_runOf ∈ jws := jmemS (i := 46) (q := (yX11_runOf, 25)) (by decide +kernel) rfl
theorem cm_X11_greater : jcm mX11_greater 2 := ⟨jmem (i := 1079) (by decide +kernel) rfl, jmem (i := 13) (by decide +kernel) rfl, rfl, by decide +kernel, ⟨by decide +kernel, by decide +kernel⟩, by decide +kernel⟩
theorem st_X11_greater : Cond.static yX11_greater ∈ jws := jmem (i := 1078) (by decide +kernel) rfl
theorem cm_X11_likeOf : jcm mX11_likeOf 2 := ⟨jmem (i := 1076) (by decide +kernel) rfl, jmem (i := 13) (by decide +kernel) rfl, rfl, by decide +kernel, ⟨by decide +kernel, by decide +kernel⟩, by decide +kernel⟩
theorem im_X11_likeOf : Cond.instanceMethod yX11_likeOf ∈ jws := jmem (i := 1075) (by decide +kernel) rfl
theorem se_X11_likeOf : Cond.selects RX11 yX11_likeOf yX11_likeOf ∈ jws := jmemS (i := 47) (q := (yX11_likeOf, 25)) (by decide +kernel) rfl
theorem cm_X11_like : jcm mX11_like 3 := ⟨jmem (i := 1068) (by decide +kernel) rfl, jmem (i := 13) (by decide +kernel) rfl, rfl, by decide +kernel, ⟨by decide +kernel, by decide +kernel⟩, by decide +kernel⟩
theorem im_X11_like : Cond.instanceMethod yX11_like ∈ jws := jmem (i := 1066) (by decide +kernel) rfl
theorem se_X11_like : Cond.selects RX11 yX11_like yX11_like ∈ jws := jmem (i := 1067) (by decide +kernel) rfl
theorem cm_X11_left : jcm mX11_left 2 := ⟨jmem (i := 1083) (by decide +kernel) rfl, jmem (i := 13) (by decide +kernel) rfl, rfl, by decide +kernel, ⟨by decide +kernel, by decide +kernel⟩, by decide +kernel⟩
theorem im_X11_left : Cond.instanceMethod yX11_left ∈ jws := jmem (i := 1081) (by decide +kernel) rfl
theorem se_X11_left : Cond.selects RX11 yX11_left yX11_left ∈ jws := jmem (i := 1082) (by decide +kernel) rfl
theorem cm_X11_slip : jcm mX11_slip 1 := ⟨jmem (i := 1088) (by decide +kernel) rfl, jmem (i := 13) (by decide +kernel) rfl, rfl, by decide +kernel, ⟨by decide +kernel, by decide +kernel⟩, by decide +kernel⟩
theorem im_X11_slip : Cond.instanceMethod yX11_slip ∈ jws := jmem (i := 1086) (by decide +kernel) rfl
theorem se_X11_slip : Cond.selects RX11 yX11_slip yX11_slip ∈ jws := jmem (i := 1087) (by decide +kernel) rfl
theorem cm_X11_said : jcm mX11_said 3 := ⟨jmem (i := 1092) (by decide +kernel) rfl, jmem (i := 13) (by decide +kernel) rfl, rfl, by decide +kernel, ⟨by decide +kernel, by decide +kernel⟩, by decide +kernel⟩
theorem im_X11_said : Cond.instanceMethod yX11_said ∈ jws := jmem (i := 1090) (by decide +kernel) rfl
theorem se_X11_said : Cond.selects RX11 yX11_said yX11_said ∈ jws := jmem (i := 1091) (by decide +kernel) rfl
theorem cm_X11_againstNext : jcm mX11_againstNext 2 := ⟨jmem (i := 1104) (by decide +kernel) rfl, jmem (i := 13) (by decide +kernel) rfl, rfl, by decide +kernel, ⟨by decide +kernel, by decide +kernel⟩, by decide +kernel⟩
theorem im_X11_againstNext : Cond.instanceMethod yX11_againstNext ∈ jws := jmem (i := 1103) (by decide +kernel) rfl
theorem se_X11_againstNext : Cond.selects RX11 yX11_againstNext yX11_againstNext ∈ jws := jmemS (i := 49) (q := (yX11_againstNext, 25)) (by decide +kernel) rfl
theorem cm_X11_orders : jcm mX11_orders 2 := ⟨jmem (i := 1100) (by decide +kernel) rfl, jmem (i := 13) (by decide +kernel) rfl, rfl, by decide +kernel, ⟨by decide +kernel, by decide +kernel⟩, by decide +kernel⟩
theorem im_X11_orders : Cond.instanceMethod yX11_orders ∈ jws := jmem (i := 1099) (by decide +kernel) rfl
theorem se_X11_orders : Cond.selects RX11 yX11_orders yX11_orders ∈ jws := jmemS (i := 48) (q := (yX11_orders, 25)) (by decide +kernel) rfl
theorem cm_X11_order : jcm mX11_order 1 := ⟨jmem (i := 1096) (by decide +kernel) rfl, jmem (i := 13) (by decide +kernel) rfl, rfl, by decide +kernel, ⟨by decide +kernel, by decide +kernel⟩, by decide +kernel⟩
theorem im_X11_order : Cond.instanceMethod yX11_order ∈ jws := jmem (i := 1094) (by decide +kernel) rfl
theorem se_X11_order : Cond.selects RX11 yX11_order yX11_order ∈ jws := jmem (i := 1095) (by decide +kernel) rfl
theorem cm_X11_sure : jcm mX11_sure 2 := ⟨jmem (i := 1108) (by decide +kernel) rfl, jmem (i := 13) (by decide +kernel) rfl, rfl, by decide +kernel, ⟨by decide +kernel, by decide +kernel⟩, by decide +kernel⟩
theorem im_X11_sure : Cond.instanceMethod yX11_sure ∈ jws := jmem (i := 1106) (by decide +kernel) rfl
theorem se_X11_sure : Cond.selects RX11 yX11_sure yX11_sure ∈ jws := jmem (i := 1107) (by decide +kernel) rfl
theorem cm_X11_kin : jcm mX11_kin 2 := ⟨jmem (i := 1112) (by decide +kernel) rfl, jmem (i := 13) (by decide +kernel) rfl, rfl, by decide +kernel, ⟨by decide +kernel, by decide +kernel⟩, by decide +kernel⟩
theorem im_X11_kin : Cond.instanceMethod yX11_kin ∈ jws := jmem (i := 1110) (by decide +kernel) rfl
theorem se_X11_kin : Cond.selects RX11 yX11_kin yX11_kin ∈ jws := jmem (i := 1111) (by decide +kernel) rfl
theorem cm_X11_mayRead : jcm mX11_mayRead 2 := ⟨jmem (i := 1130) (by decide +kernel) rfl, jmem (i := 13) (by decide +kernel) rfl, rfl, by decide +kernel, ⟨by decide +kernel, by decide +kernel⟩, by decide +kernel⟩
theorem im_X11_mayRead : Cond.instanceMethod yX11_mayRead ∈ jws := jmem (i := 1129) (by decide +kernel) rfl
theorem se_X11_mayRead : Cond.selects RX11 yX11_mayRead yX11_mayRead ∈ jws := jmemS (i := 52) (q := (yX11_mayRead, 25)) (by decide +kernel) rfl
theorem cm_X11_isFree : jcm mX11_isFree 1 := ⟨jmem (i := 1126) (by decide +kernel) rfl, jmem (i := 13) (by decide +kernel) rfl, rfl, by decide +kernel, ⟨by decide +kernel, by decide +kernel⟩, by decide +kernel⟩
theorem im_X11_isFree : Cond.instanceMethod yX11_isFree ∈ jws := jmem (i := 1125) (by decide +kernel) rfl
theorem se_X11_isFree : Cond.selects RX11 yX11_isFree yX11_isFree ∈ jws := jmemS (i := 51) (q := (yX11_isFree, 25)) (by decide +kernel) rfl
theorem cm_X11_deals : jcm mX11_deals 1 := ⟨jmem (i := 1122) (by decide +kernel) rfl, jmem (i := 13) (by decide +kernel) rfl, rfl, by decide +kernel, ⟨by decide +kernel, by decide +kernel⟩, by decide +kernel⟩
theorem im_X11_deals : Cond.instanceMethod yX11_deals ∈ jws := jmem (i := 1121) (by decide +kernel) rfl
theorem se_X11_deals : Cond.selects RX11 yX11_deals yX11_deals ∈ jws := jmemS (i := 50) (q := (yX11_deals, 25)) (by decide +kernel) rfl
theorem cm_X11_dealt : jcm mX11_dealt 2 := ⟨jmem (i := 1118) (by decide +kernel) rfl, jmem (i := 13) (by decide +kernel) rfl, rfl, by decide +kernel, ⟨by decide +kernel, by decide +kernel⟩, by decide +kernel⟩
theorem im_X11_dealt : Cond.instanceMethod yX11_dealt ∈ jws := jmem (i := 1116) (by decide +kernel) rfl
theorem se_X11_dealt : Cond.selects RX11 yX11_dealt yX11_dealt ∈ jws := jmem (i := 1117) (by decide +kernel) rfl
theorem cm_X11_bounds : jcm mX11_bounds 4 := ⟨jmem (i := 1134) (by decide +kernel) rfl, jmem (i := 13) (by decide +kernel) rfl, rfl, by decide +kernel, ⟨by decide +kernel, by decide +kernel⟩, by decide +kernel⟩
theorem im_X11_bounds : Cond.instanceMethod yX11_bounds ∈ jws := jmem (i := 1132) (by decide +kernel) rfl
theorem se_X11_bounds : Cond.selects RX11 yX11_bounds yX11_bounds ∈ jws := jmem (i := 1133) (by decide +kernel) rfl
theorem cm_X11_isShare : jcm mX11_isShare 1 := ⟨jmem (i := 1143) (by decide +kernel) rfl, jmem (i := 13) (by decide +kernel) rfl, rfl, by decide +kernel, ⟨by decide +kernel, by decide +kernel⟩, by decide +kernel⟩
theorem st_X11_isShare : Cond.static yX11_isShare ∈ jws := jmem (i := 1142) (by decide +kernel) rfl
theorem cm_X11_question : jcm mX11_question 5 := ⟨jmem (i := 1139) (by decide +kernel) rfl, jmem (i := 13) (by decide +kernel) rfl, rfl, by decide +kernel, ⟨by decide +kernel, by decide +kernel⟩, by decide +kernel⟩
theorem im_X11_question : Cond.instanceMethod yX11_question ∈ jws := jmem (i := 1137) (by decide +kernel) rfl
theorem se_X11_question : Cond.selects RX11 yX11_question yX11_question ∈ jws := jmem (i := 1138) (by decide +kernel) rfl
theorem cm_X11_tellsOf : jcm mX11_tellsOf 1 := ⟨jmem (i := 1152) (by decide +kernel) rfl, jmem (i := 13) (by decide +kernel) rfl, rfl, by decide +kernel, ⟨by decide +kernel, by decide +kernel⟩, by decide +kernel⟩
theorem im_X11_tellsOf : Cond.instanceMethod yX11_tellsOf ∈ jws := jmem (i := 1151) (by decide +kernel) rfl
theorem se_X11_tellsOf : Cond.selects RX11 yX11_tellsOf yX11_tellsOf ∈ jws := jmemS (i := 53) (q := (yX11_tellsOf, 25)) (by decide +kernel) rfl
theorem cm_X11_wholeOf : jcm mX11_wholeOf 0 := ⟨jmem (i := 1156) (by decide +kernel) rfl, jmem (i := 13) (by decide +kernel) rfl, rfl, by decide +kernel, ⟨by decide +kernel, by decide +kernel⟩, by decide +kernel⟩
theorem im_X11_wholeOf : Cond.instanceMethod yX11_wholeOf ∈ jws := jmem (i := 1155) (by decide +kernel) rfl
theorem se_X11_wholeOf : Cond.selects RX11 yX11_wholeOf yX11_wholeOf ∈ jws := jmemS (i := 54) (q := (yX11_wholeOf, 25)) (by decide +kernel) rfl
theorem cm_X11_tells : jcm mX11_tells 1 := ⟨jmem (i := 1148) (by decide +kernel) rfl, jmem (i := 13) (by decide +kernel) rfl, rfl, by decide +kernel, ⟨by decide +kernel, by decide +kernel⟩, by decide +kernel⟩
theorem im_X11_tells : Cond.instanceMethod yX11_tells ∈ jws := jmem (i := 1146) (by decide +kernel) rfl
theorem se_X11_tells : Cond.selects RX11 yX11_tells yX11_tells ∈ jws := jmem (i := 1147) (by decide +kernel) rfl
theorem cm_X11_minutesOf : jcm mX11_minutesOf 1 := ⟨jmem (i := 1165) (by decide +kernel) rfl, jmem (i := 13) (by decide +kernel) rfl, rfl, by decide +kernel, ⟨by decide +kernel, by decide +kernel⟩, by decide +kernel⟩
theorem im_X11_minutesOf : Cond.instanceMethod yX11_minutesOf ∈ jws := jmem (i := 1164) (by decide +kernel) rfl
theorem se_X11_minutesOf : Cond.selects RX11 yX11_minutesOf yX11_minutesOf ∈ jws := jmemS (i := 55) (q := (yX11_minutesOf, 25)) (by decide +kernel) rfl
theorem cm_X11_form : jcm mX11_form 1 := ⟨jmem (i := 1160) (by decide +kernel) rfl, jmem (i := 13) (by decide +kernel) rfl, rfl, by decide +kernel, ⟨by decide +kernel, by decide +kernel⟩, by decide +kernel⟩
theorem im_X11_form : Cond.instanceMethod yX11_form ∈ jws := jmem (i := 1158) (by decide +kernel) rfl
theorem se_X11_form : Cond.selects RX11 yX11_form yX11_form ∈ jws := jmem (i := 1159) (by decide +kernel) rfl
theorem cm_X11_count : jcm mX11_count 1 := ⟨jmem (i := 1169) (by decide +kernel) rfl, jmem (i := 13) (by decide +kernel) rfl, rfl, by decide +kernel, ⟨by decide +kernel, by decide +kernel⟩, by decide +kernel⟩
theorem im_X11_count : Cond.instanceMethod yX11_count ∈ jws := jmem (i := 1167) (by decide +kernel) rfl
theorem se_X11_count : Cond.selects RX11 yX11_count yX11_count ∈ jws := jmem (i := 1168) (by decide +kernel) rfl
theorem cm_X11_mixed : jcm mX11_mixed 4 := ⟨jmem (i := 1177) (by decide +kernel) rfl, jmem (i := 13) (by decide +kernel) rfl, rfl, by decide +kernel, ⟨by decide +kernel, by decide +kernel⟩, by decide +kernel⟩
theorem st_X11_mixed : Cond.static yX11_mixed ∈ jws := jmem (i := 1176) (by decide +kernel) rfl
theorem cm_X11_digest : jcm mX11_digest 0 := ⟨jmem (i := 1173) (by decide +kernel) rfl, jmem (i := 13) (by decide +kernel) rfl, rfl, by decide +kernel, ⟨by decide +kernel, by decide +kernel⟩, by decide +kernel⟩
theorem im_X11_digest : Cond.instanceMethod yX11_digest ∈ jws := jmem (i := 1171) (by decide +kernel) rfl
theorem se_X11_digest : Cond.selects RX11 yX11_digest yX11_digest ∈ jws := jmem (i := 1172) (by decide +kernel) rfl
theorem cm_J6_numberOfTrailingZeros_0f7a4 : jcm mJ6_numberOfTrailingZeros_0f7a4 1 := ⟨jmem (i := 639) (by decide +kernel) rfl, jmem (i := 16) (by decide +kernel) rfl, rfl, by decide +kernel, ⟨by decide +kernel, by decide +kernel⟩, by decide +kernel⟩
theorem st_J6_numberOfTrailingZeros_0f7a4 : Cond.static yJ6_numberOfTrailingZeros_0f7a4 ∈ jws := jmem (i := 638) (by decide +kernel) rfl
theorem cm_J6_bitCount_0f7a4 : jcm mJ6_bitCount_0f7a4 1 := ⟨jmem (i := 670) (by decide +kernel) rfl, jmem (i := 16) (by decide +kernel) rfl, rfl, by decide +kernel, ⟨by decide +kernel, by decide +kernel⟩, by decide +kernel⟩
theorem st_J6_bitCount_0f7a4 : Cond.static yJ6_bitCount_0f7a4 ∈ jws := jmem (i := 669) (by decide +kernel) rfl
theorem st_J9_max_7cf53 : Cond.static yJ9_max_7cf53 ∈ jws := jmem (i := 598) (by decide +kernel) rfl
theorem st_J9_max_f86c9 : Cond.static yJ9_max_f86c9 ∈ jws := jmem (i := 723) (by decide +kernel) rfl
theorem st_J9_min_7cf53 : Cond.static yJ9_min_7cf53 ∈ jws := jmem (i := 646) (by decide +kernel) rfl
theorem st_J9_min_f86c9 : Cond.static yJ9_min_f86c9 ∈ jws := jmem (i := 587) (by decide +kernel) rfl
theorem cm_J7_fill_53178 : jcm mJ7_fill_53178 2 := ⟨jmem (i := 132) (by decide +kernel) rfl, jmem (i := 4) (by decide +kernel) rfl, rfl, by decide +kernel, ⟨by decide +kernel, by decide +kernel⟩, by decide +kernel⟩
theorem st_J7_fill_53178 : Cond.static yJ7_fill_53178 ∈ jws := jmem (i := 131) (by decide +kernel) rfl
theorem ki_J6_264 : Cond.constant RJ6 264 (65536) ∈ jws := jmem (i := 640) (by decide +kernel) rfl
theorem ki_J6_265 : Cond.constant RJ6 265 (1431655765) ∈ jws := jmem (i := 671) (by decide +kernel) rfl
theorem ki_J6_266 : Cond.constant RJ6 266 (858993459) ∈ jws := jmem (i := 672) (by decide +kernel) rfl
theorem ki_J6_267 : Cond.constant RJ6 267 (252645135) ∈ jws := jmem (i := 673) (by decide +kernel) rfl
theorem ki_X11_99 : Cond.constant RX11 99 (1073741823) ∈ jws := jmem (i := 990) (by decide +kernel) rfl
theorem kl_X0_27 : Cond.constantLong RX0 27 (1073741823) ∈ jws := jmem (i := 301) (by decide +kernel) rfl
theorem kl_X4_52 : Cond.constantLong RX4 52 (100) ∈ jws := jmem (i := 733) (by decide +kernel) rfl
theorem kl_X10_305 : Cond.constantLong RX10 305 (479) ∈ jws := jmem (i := 763) (by decide +kernel) rfl
theorem kl_X10_307 : Cond.constantLong RX10 307 (31) ∈ jws := jmem (i := 764) (by decide +kernel) rfl
theorem kl_X3_65 : Cond.constantLong RX3 65 (31) ∈ jws := jmem (i := 770) (by decide +kernel) rfl
theorem kl_X6_58 : Cond.constantLong RX6 58 (31) ∈ jws := jmem (i := 779) (by decide +kernel) rfl
theorem kl_X4_60 : Cond.constantLong RX4 60 (31) ∈ jws := jmem (i := 784) (by decide +kernel) rfl
theorem kl_X11_89 : Cond.constantLong RX11 89 (1073741823) ∈ jws := jmem (i := 798) (by decide +kernel) rfl
theorem kl_X11_124 : Cond.constantLong RX11 124 (9) ∈ jws := jmem (i := 894) (by decide +kernel) rfl
theorem kl_X11_126 : Cond.constantLong RX11 126 (2) ∈ jws := jmem (i := 895) (by decide +kernel) rfl
theorem kl_X11_132 : Cond.constantLong RX11 132 (-1) ∈ jws := jmem (i := 904) (by decide +kernel) rfl
theorem kl_X11_134 : Cond.constantLong RX11 134 (3) ∈ jws := jmem (i := 909) (by decide +kernel) rfl
theorem kl_X11_140 : Cond.constantLong RX11 140 (39) ∈ jws := jmem (i := 922) (by decide +kernel) rfl
theorem kl_X11_211 : Cond.constantLong RX11 211 (8) ∈ jws := jmem (i := 1084) (by decide +kernel) rfl
theorem kl_X11_219 : Cond.constantLong RX11 219 (5) ∈ jws := jmem (i := 1113) (by decide +kernel) rfl
theorem kl_X11_221 : Cond.constantLong RX11 221 (63) ∈ jws := jmem (i := 1114) (by decide +kernel) rfl
theorem kl_X11_232 : Cond.constantLong RX11 232 (9999) ∈ jws := jmem (i := 1135) (by decide +kernel) rfl
theorem kl_X11_236 : Cond.constantLong RX11 236 (30) ∈ jws := jmem (i := 1140) (by decide +kernel) rfl
theorem kl_X11_234 : Cond.constantLong RX11 234 (100) ∈ jws := jmem (i := 1144) (by decide +kernel) rfl
theorem kl_X11_249 : Cond.constantLong RX11 249 (200) ∈ jws := jmem (i := 1161) (by decide +kernel) rfl
theorem kl_X11_256 : Cond.constantLong RX11 256 (479) ∈ jws := jmem (i := 1174) (by decide +kernel) rfl
theorem kl_X11_254 : Cond.constantLong RX11 254 (31) ∈ jws := jmem (i := 1178) (by decide +kernel) rfl
theorem cl_L_7 : Cond.classLink RL 7 "PraiseDrawer" ∈ jws := jmem (i := 17) (by decide +kernel) rfl
theorem cl_X10_7 : Cond.classLink RX10 7 "PraiseDrawer$Drawer" ∈ jws := jmem (i := 25) (by decide +kernel) rfl
theorem cl_X3_39 : Cond.classLink RX3 39 "[[I" ∈ jws := jmem (i := 31) (by decide +kernel) rfl
theorem cl_X10_16 : Cond.classLink RX10 16 "PraiseDrawer$Tally" ∈ jws := jmem (i := 113) (by decide +kernel) rfl
theorem cl_X8_9 : Cond.classLink RX8 9 "[[I" ∈ jws := jmem (i := 119) (by decide +kernel) rfl
theorem cl_X10_35 : Cond.classLink RX10 35 "PraiseDrawer$Chances" ∈ jws := jmem (i := 133) (by decide +kernel) rfl
theorem cl_X1_9 : Cond.classLink RX1 9 "PraiseDrawer$Big" ∈ jws := jmem (i := 139) (by decide +kernel) rfl
theorem cl_X10_44 : Cond.classLink RX10 44 "PraiseDrawer$Years" ∈ jws := jmem (i := 173) (by decide +kernel) rfl
theorem cl_X10_51 : Cond.classLink RX10 51 "PraiseDrawer$Sides" ∈ jws := jmem (i := 191) (by decide +kernel) rfl
theorem cl_X7_9 : Cond.classLink RX7 9 "[[I" ∈ jws := jmem (i := 197) (by decide +kernel) rfl
theorem cl_X10_58 : Cond.classLink RX10 58 "PraiseDrawer$Sayings" ∈ jws := jmem (i := 205) (by decide +kernel) rfl
theorem cl_X6_21 : Cond.classLink RX6 21 "[[I" ∈ jws := jmem (i := 211) (by decide +kernel) rfl
theorem cl_X10_65 : Cond.classLink RX10 65 "PraiseDrawer$Deals" ∈ jws := jmem (i := 235) (by decide +kernel) rfl
theorem cl_X10_72 : Cond.classLink RX10 72 "PraiseDrawer$Forms" ∈ jws := jmem (i := 258) (by decide +kernel) rfl
theorem cl_X4_15 : Cond.classLink RX4 15 "[[I" ∈ jws := jmem (i := 264) (by decide +kernel) rfl
theorem cl_X4_20 : Cond.classLink RX4 20 "[[J" ∈ jws := jmem (i := 265) (by decide +kernel) rfl
theorem cl_X10_81 : Cond.classLink RX10 81 "PraiseDrawer$Fraction" ∈ jws := jmem (i := 285) (by decide +kernel) rfl
theorem cl_X5_9 : Cond.classLink RX5 9 "PraiseDrawer$Big" ∈ jws := jmem (i := 291) (by decide +kernel) rfl
theorem cl_L_10 : Cond.classLink RL 10 "PraiseDrawerModel" ∈ jws := jmem (i := 788) (by decide +kernel) rfl
theorem in_X10 : Cond.instantiable RX10 10 ∈ jws := jmem (i := 18) (by decide +kernel) rfl
theorem in_X3 : Cond.instantiable RX3 14 ∈ jws := jmem (i := 26) (by decide +kernel) rfl
theorem in_X8 : Cond.instantiable RX8 3 ∈ jws := jmem (i := 114) (by decide +kernel) rfl
theorem in_X1 : Cond.instantiable RX1 5 ∈ jws := jmem (i := 134) (by decide +kernel) rfl
theorem in_X0 : Cond.instantiable RX0 2 ∈ jws := jmem (i := 141) (by decide +kernel) rfl
theorem in_X9 : Cond.instantiable RX9 3 ∈ jws := jmem (i := 174) (by decide +kernel) rfl
theorem in_X7 : Cond.instantiable RX7 2 ∈ jws := jmem (i := 192) (by decide +kernel) rfl
theorem in_X6 : Cond.instantiable RX6 7 ∈ jws := jmem (i := 206) (by decide +kernel) rfl
theorem in_X2 : Cond.instantiable RX2 5 ∈ jws := jmem (i := 236) (by decide +kernel) rfl
theorem in_X4 : Cond.instantiable RX4 5 ∈ jws := jmem (i := 259) (by decide +kernel) rfl
theorem in_X5 : Cond.instantiable RX5 2 ∈ jws := jmem (i := 286) (by decide +kernel) rfl
theorem in_X11 : Cond.instantiable RX11 25 ∈ jws := jmem (i := 789) (by decide +kernel) rfl
theorem it_L : Cond.initialized RL ∈ jws := jmem (i := 0) (by decide +kernel) rfl
theorem it_X10 : Cond.initialized RX10 ∈ jws := jmem (i := 1) (by decide +kernel) rfl
theorem it_X3 : Cond.initialized RX3 ∈ jws := jmem (i := 2) (by decide +kernel) rfl
theorem it_X8 : Cond.initialized RX8 ∈ jws := jmem (i := 3) (by decide +kernel) rfl
theorem it_J7 : Cond.initialized RJ7 ∈ jws := jmem (i := 4) (by decide +kernel) rfl
theorem it_X1 : Cond.initialized RX1 ∈ jws := jmem (i := 5) (by decide +kernel) rfl
theorem it_X0 : Cond.initialized RX0 ∈ jws := jmem (i := 6) (by decide +kernel) rfl
theorem it_X9 : Cond.initialized RX9 ∈ jws := jmem (i := 7) (by decide +kernel) rfl
theorem it_X7 : Cond.initialized RX7 ∈ jws := jmem (i := 8) (by decide +kernel) rfl
theorem it_X6 : Cond.initialized RX6 ∈ jws := jmem (i := 9) (by decide +kernel) rfl
theorem it_X2 : Cond.initialized RX2 ∈ jws := jmem (i := 10) (by decide +kernel) rfl
theorem it_X4 : Cond.initialized RX4 ∈ jws := jmem (i := 11) (by decide +kernel) rfl
theorem it_X5 : Cond.initialized RX5 ∈ jws := jmem (i := 12) (by decide +kernel) rfl
theorem it_X11 : Cond.initialized RX11 ∈ jws := jmem (i := 13) (by decide +kernel) rfl
theorem it_J10 : Cond.initialized RJ10 ∈ jws := jmem (i := 14) (by decide +kernel) rfl
theorem it_J9 : Cond.initialized RJ9 ∈ jws := jmem (i := 15) (by decide +kernel) rfl
theorem it_J6 : Cond.initialized RJ6 ∈ jws := jmem (i := 16) (by decide +kernel) rfl
theorem oi_inst : Cond.instanceMethod Lib.objectInit ∈ jws := jmem (i := 23) (by decide +kernel) rfl
theorem oi_code : Cond.code Lib.objectInit ⟨#[0xb1]⟩ 1 none ∈ jws := jmem (i := 24) (by decide +kernel) rfl
theorem ac_int : Cond.arrayClass .int ∈ jws := jmem (i := 112) (by decide +kernel) rfl
theorem ac_long : Cond.arrayClass .long ∈ jws := jmem (i := 284) (by decide +kernel) rfl
theorem nat_copy : Cond.native arraycopyName ∈ jws := jmem (i := 504) (by decide +kernel) rfl
theorem st_copy : Cond.static arraycopyName ∈ jws := jmem (i := 503) (by decide +kernel) rfl
theorem it_sys : Cond.initialized "java/lang/System" ∈ jws := jmem (i := 14) (by decide +kernel) rfl

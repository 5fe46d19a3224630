/-! ===== printed: the methods, the links of each class, by program out of the tables ===== -/
theorem gt_s {w : Cond} (h : w ∈ k2_sels lw_privs) : w ∈ GT := by
  refine List.mem_filter.mpr ⟨List.mem_append.mpr (Or.inl h), ?_⟩
  obtain ⟨q, -, rfl⟩ := List.mem_map.mp h
  rfl
theorem gt_1 {w : Cond} (h : w ∈ tables_1_1) (hg : goodWord w = true) : w ∈ GT := List.mem_filter.mpr ⟨List.mem_append.mpr (Or.inr (List.mem_append.mpr (Or.inl h))), hg⟩
theorem gt_2 {w : Cond} (h : w ∈ tables_1_2) (hg : goodWord w = true) : w ∈ GT := List.mem_filter.mpr ⟨List.mem_append.mpr (Or.inr (List.mem_append.mpr (Or.inr (List.mem_append.mpr (Or.inl h))))), hg⟩
theorem gt_3 {w : Cond} (h : w ∈ tables_1_3) (hg : goodWord w = true) : w ∈ GT := List.mem_filter.mpr ⟨List.mem_append.mpr (Or.inr (List.mem_append.mpr (Or.inr (List.mem_append.mpr (Or.inr (List.mem_append.mpr (Or.inl h))))))), hg⟩
theorem gt_4 {w : Cond} (h : w ∈ tables_1_4) (hg : goodWord w = true) : w ∈ GT := List.mem_filter.mpr ⟨List.mem_append.mpr (Or.inr (List.mem_append.mpr (Or.inr (List.mem_append.mpr (Or.inr (List.mem_append.mpr (Or.inr (List.mem_append.mpr (Or.inl h))))))))), hg⟩
theorem gt_5 {w : Cond} (h : w ∈ tables_1_5) (hg : goodWord w = true) : w ∈ GT := List.mem_filter.mpr ⟨List.mem_append.mpr (Or.inr (List.mem_append.mpr (Or.inr (List.mem_append.mpr (Or.inr (List.mem_append.mpr (Or.inr (List.mem_append.mpr (Or.inr (List.mem_append.mpr (Or.inl h))))))))))), hg⟩
theorem gt_6 {w : Cond} (h : w ∈ tables_1_6) (hg : goodWord w = true) : w ∈ GT := List.mem_filter.mpr ⟨List.mem_append.mpr (Or.inr (List.mem_append.mpr (Or.inr (List.mem_append.mpr (Or.inr (List.mem_append.mpr (Or.inr (List.mem_append.mpr (Or.inr (List.mem_append.mpr (Or.inr (List.mem_append.mpr (Or.inl h))))))))))))), hg⟩
theorem gt_7 {w : Cond} (h : w ∈ tables_1_7) (hg : goodWord w = true) : w ∈ GT := List.mem_filter.mpr ⟨List.mem_append.mpr (Or.inr (List.mem_append.mpr (Or.inr (List.mem_append.mpr (Or.inr (List.mem_append.mpr (Or.inr (List.mem_append.mpr (Or.inr (List.mem_append.mpr (Or.inr (List.mem_append.mpr (Or.inr (List.mem_append.mpr (Or.inl h))))))))))))))), hg⟩
theorem gt_8 {w : Cond} (h : w ∈ tables_1_8) (hg : goodWord w = true) : w ∈ GT := List.mem_filter.mpr ⟨List.mem_append.mpr (Or.inr (List.mem_append.mpr (Or.inr (List.mem_append.mpr (Or.inr (List.mem_append.mpr (Or.inr (List.mem_append.mpr (Or.inr (List.mem_append.mpr (Or.inr (List.mem_append.mpr (Or.inr (List.mem_append.mpr (Or.inr (h)))))))))))))))), hg⟩
abbrev mX0_init : mT := (yX0_init, cX0_init, 2, none)
abbrev mX0_useSheet : mT := (yX0_useSheet, cX0_useSheet, 2, none)
abbrev mX0_asksFor : mT := (yX0_asksFor, cX0_asksFor, 2, (some .boolean))
abbrev mX0_takeUp : mT := (yX0_takeUp, cX0_takeUp, 6, none)
abbrev mX0_gladBy : mT := (yX0_gladBy, cX0_gladBy, 5, (some .int))
abbrev mX0_gladAt : mT := (yX0_gladAt, cX0_gladAt, 10, (some .int))
abbrev mX0_cellOf : mT := (yX0_cellOf, cX0_cellOf, 6, (some .int))
abbrev mX0_see : mT := (yX0_see, cX0_see, 6, none)
abbrev mX0_comingDraw : mT := (yX0_comingDraw, cX0_comingDraw, 8, (some .int))
abbrev mX0_lastBehind : mT := (yX0_lastBehind, cX0_lastBehind, 2, (some .int))
abbrev mX0_lastsAt : mT := (yX0_lastsAt, cX0_lastsAt, 2, (some .int))
abbrev mX0_placeOf : mT := (yX0_placeOf, cX0_placeOf, 2, (some .int))
abbrev mX0_storeOf : mT := (yX0_storeOf, cX0_storeOf, 1, (some .int))
abbrev mX0_lastOf : mT := (yX0_lastOf, cX0_lastOf, 1, (some .int))
abbrev mX1_init : mT := (yX1_init, cX1_init, 2, none)
abbrev mX1_run : mT := (yX1_run, cX1_run, 5, none)
abbrev mX1_drawOf : mT := (yX1_drawOf, cX1_drawOf, 2, (some .int))
abbrev mX1_isWithin : mT := (yX1_isWithin, cX1_isWithin, 4, (some .boolean))
abbrev mX1_allChances : mT := (yX1_allChances, cX1_allChances, 4, (some .long))
abbrev mX1_chances : mT := (yX1_chances, cX1_chances, 6, (some .long))
abbrev mX1_slipAt : mT := (yX1_slipAt, cX1_slipAt, 9, none)
abbrev mX2_init : mT := (yX2_init, cX2_init, 4, none)
abbrev mX2_playComing : mT := (yX2_playComing, cX2_playComing, 5, (some .int))
abbrev mX2_playBest : mT := (yX2_playBest, cX2_playBest, 6, (some .int))
abbrev mX2_whyNotPlay : mT := (yX2_whyNotPlay, cX2_whyNotPlay, 4, (some .int))
abbrev mX2_lendTicks : mT := (yX2_lendTicks, cX2_lendTicks, 6, (some .int))
abbrev mX2_haveTemper : mT := (yX2_haveTemper, cX2_haveTemper, 4, (some .int))
abbrev mX2_holdFriday : mT := (yX2_holdFriday, cX2_holdFriday, 3, (some .int))
abbrev mX2_doTold : mT := (yX2_doTold, cX2_doTold, 5, (some .int))
abbrev mX2_sow : mT := (yX2_sow, cX2_sow, 2, none)
abbrev mX2_drawn : mT := (yX2_drawn, cX2_drawn, 2, (some .int))
abbrev mX2_doDrawn : mT := (yX2_doDrawn, cX2_doDrawn, 5, (some .int))
abbrev mX3_init : mT := (yX3_init, cX3_init, 2, none)
abbrev mX3_clear : mT := (yX3_clear, cX3_clear, 1, none)
abbrev mX3_keep : mT := (yX3_keep, cX3_keep, 2, none)
abbrev mX3_bringBack : mT := (yX3_bringBack, cX3_bringBack, 2, none)
abbrev mX4_init : mT := (yX4_init, cX4_init, 1, none)
abbrev mX4_clear : mT := (yX4_clear, cX4_clear, 1, none)
abbrev mX4_isTold : mT := (yX4_isTold, cX4_isTold, 1, (some .boolean))
abbrev mX4_asksFor : mT := (yX4_asksFor, cX4_asksFor, 2, (some .boolean))
abbrev mX4_add : mT := (yX4_add, cX4_add, 2, none)
abbrev mX4_valueOf : mT := (yX4_valueOf, cX4_valueOf, 7, (some .int))
abbrev mX4_joined : mT := (yX4_joined, cX4_joined, 5, (some .int))
abbrev mX5_init : mT := (yX5_init, cX5_init, 3, none)
abbrev mX5_begin : mT := (yX5_begin, cX5_begin, 3, none)
abbrev mX5_find : mT := (yX5_find, cX5_find, 5, none)
abbrev mX5_pieceAt : mT := (yX5_pieceAt, cX5_pieceAt, 2, (some .int))
abbrev mX5_search : mT := (yX5_search, cX5_search, 5, none)
abbrev mX5_mostFrom : mT := (yX5_mostFrom, cX5_mostFrom, 4, (some .int))
abbrev mX5_largestSet : mT := (yX5_largestSet, cX5_largestSet, 8, (some .int))
abbrev mX5_gather : mT := (yX5_gather, cX5_gather, 4, none)
abbrev mX6_init : mT := (yX6_init, cX6_init, 1, none)
abbrev mX6_read : mT := (yX6_read, cX6_read, 5, (some .boolean))
abbrev mX6_cut : mT := (yX6_cut, cX6_cut, 5, none)
abbrev mX6_addToken : mT := (yX6_addToken, cX6_addToken, 4, none)
abbrev mX6_signAt : mT := (yX6_signAt, cX6_signAt, 2, (some .int))
abbrev mX6_isLetter : mT := (yX6_isLetter, cX6_isLetter, 1, (some .boolean))
abbrev mX6_isDigit : mT := (yX6_isDigit, cX6_isDigit, 1, (some .boolean))
abbrev mX6_isSign : mT := (yX6_isSign, cX6_isSign, 1, (some .boolean))
abbrev mX6_endOfLetters : mT := (yX6_endOfLetters, cX6_endOfLetters, 3, (some .int))
abbrev mX6_endOfDigits : mT := (yX6_endOfDigits, cX6_endOfDigits, 3, (some .int))
abbrev mX6_numberAt : mT := (yX6_numberAt, cX6_numberAt, 5, (some .int))
abbrev mX6_wordAt : mT := (yX6_wordAt, cX6_wordAt, 8, (some .int))
abbrev mX6_kind : mT := (yX6_kind, cX6_kind, 1, (some .int))
abbrev mX6_faulty : mT := (yX6_faulty, cX6_faulty, 2, (some .boolean))
abbrev mX6_cannotStand : mT := (yX6_cannotStand, cX6_cannotStand, 1, (some .boolean))
abbrev mX6_take : mT := (yX6_take, cX6_take, 2, (some .boolean))
abbrev mX6_takeNumber : mT := (yX6_takeNumber, cX6_takeNumber, 2, (some .boolean))
abbrev mX6_taken : mT := (yX6_taken, cX6_taken, 1, (some .int))
abbrev mX6_readLine : mT := (yX6_readLine, cX6_readLine, 1, (some .boolean))
abbrev mX6_readPiece : mT := (yX6_readPiece, cX6_readPiece, 3, (some .boolean))
abbrev mX6_readPlayer : mT := (yX6_readPlayer, cX6_readPlayer, 4, (some .boolean))
abbrev mX6_isFlag : mT := (yX6_isFlag, cX6_isFlag, 1, (some .boolean))
abbrev mX6_readLaw : mT := (yX6_readLaw, cX6_readLaw, 3, (some .boolean))
abbrev mX6_readChain : mT := (yX6_readChain, cX6_readChain, 5, (some .boolean))
abbrev mX6_joins : mT := (yX6_joins, cX6_joins, 2, (some .boolean))
abbrev mX6_readPart : mT := (yX6_readPart, cX6_readPart, 3, (some .boolean))
abbrev mX6_readUnit : mT := (yX6_readUnit, cX6_readUnit, 3, (some .boolean))
abbrev mX6_readComparison : mT := (yX6_readComparison, cX6_readComparison, 3, (some .boolean))
abbrev mX6_readAtom : mT := (yX6_readAtom, cX6_readAtom, 3, (some .boolean))
abbrev mX7_init : mT := (yX7_init, cX7_init, 1, none)
abbrev mX7_clear : mT := (yX7_clear, cX7_clear, 1, none)
abbrev mX7_hasPiece : mT := (yX7_hasPiece, cX7_hasPiece, 2, (some .boolean))
abbrev mX7_hasPlayer : mT := (yX7_hasPlayer, cX7_hasPlayer, 2, (some .boolean))
abbrev mX7_hasBar : mT := (yX7_hasBar, cX7_hasBar, 3, (some .boolean))
abbrev mX7_barsOf : mT := (yX7_barsOf, cX7_barsOf, 2, (some .int))
abbrev mX7_wantOf : mT := (yX7_wantOf, cX7_wantOf, 3, (some .int))
abbrev mX7_allBars : mT := (yX7_allBars, cX7_allBars, 3, (some .int))
abbrev mX7_addBar : mT := (yX7_addBar, cX7_addBar, 3, none)
abbrev mX8_init : mT := (yX8_init, cX8_init, 1, none)
abbrev mX8_begin : mT := (yX8_begin, cX8_begin, 2, none)
abbrev mX8_copy : mT := (yX8_copy, cX8_copy, 2, none)
abbrev mX8_isBarred : mT := (yX8_isBarred, cX8_isBarred, 2, (some .boolean))
abbrev mX8_addJoy : mT := (yX8_addJoy, cX8_addJoy, 4, none)
abbrev mX8_allStores : mT := (yX8_allStores, cX8_allStores, 6, (some .int))
abbrev mX8_allJoy : mT := (yX8_allJoy, cX8_allJoy, 6, (some .int))
abbrev mX9_init : mT := (yX9_init, cX9_init, 1, none)
abbrev mX9_isMissing : mT := (yX9_isMissing, cX9_isMissing, 1, (some .boolean))
abbrev mX9_begin : mT := (yX9_begin, cX9_begin, 3, none)
abbrev mX9_at : mT := (yX9_at, cX9_at, 2, (some .long))
abbrev mX9_put : mT := (yX9_put, cX9_put, 4, none)
abbrev mX9_cut : mT := (yX9_cut, cX9_cut, 3, (some .long))
abbrev mX10_init : mT := (yX10_init, cX10_init, 2, none)
abbrev mX10_settle : mT := (yX10_settle, cX10_settle, 12, none)
abbrev mX10_settleAt : mT := (yX10_settleAt, cX10_settleAt, 10, none)
abbrev mX10_mostFrom : mT := (yX10_mostFrom, cX10_mostFrom, 2, (some .int))
abbrev mX10_follow : mT := (yX10_follow, cX10_follow, 5, (some .boolean))
abbrev mX10_tell : mT := (yX10_tell, cX10_tell, 3, (some .int))
abbrev mX10_spread : mT := (yX10_spread, cX10_spread, 4, none)
abbrev mX10_spreadBar : mT := (yX10_spreadBar, cX10_spreadBar, 8, none)
abbrev mX10_howMany : mT := (yX10_howMany, cX10_howMany, 7, (some .long))
abbrev mX10_countBar : mT := (yX10_countBar, cX10_countBar, 7, none)
abbrev mX11_init : mT := (yX11_init, cX11_init, 2, none)
abbrev mX11_feed : mT := (yX11_feed, cX11_feed, 6, (some .int))
abbrev mX11_desk : mT := (yX11_desk, cX11_desk, 4, (some .int))
abbrev mX11_fault : mT := (yX11_fault, cX11_fault, 2, (some .int))
abbrev mX11_player : mT := (yX11_player, cX11_player, 3, (some .int))
abbrev mX11_wants : mT := (yX11_wants, cX11_wants, 3, (some .int))
abbrev mX11_bars : mT := (yX11_bars, cX11_bars, 2, (some .int))
abbrev mX11_glad : mT := (yX11_glad, cX11_glad, 6, (some .int))
abbrev mX11_play : mT := (yX11_play, cX11_play, 4, (some .int))
abbrev mX11_perform : mT := (yX11_perform, cX11_perform, 4, (some .int))
abbrev mX11_lend : mT := (yX11_lend, cX11_lend, 5, (some .int))
abbrev mX11_temper : mT := (yX11_temper, cX11_temper, 4, (some .int))
abbrev mX11_friday : mT := (yX11_friday, cX11_friday, 1, (some .int))
abbrev mX11_undo : mT := (yX11_undo, cX11_undo, 3, (some .int))
abbrev mX11_judge : mT := (yX11_judge, cX11_judge, 7, (some .int))
abbrev mX11_does : mT := (yX11_does, cX11_does, 5, (some .int))
abbrev mX11_term : mT := (yX11_term, cX11_term, 5, (some .int))
abbrev mX11_comes : mT := (yX11_comes, cX11_comes, 4, (some .int))
abbrev mX11_best : mT := (yX11_best, cX11_best, 5, (some .int))
abbrev mX11_rows : mT := (yX11_rows, cX11_rows, 4, (some .long))
abbrev mX11_thriftiest : mT := (yX11_thriftiest, cX11_thriftiest, 5, (some .int))
abbrev mX11_least : mT := (yX11_least, cX11_least, 7, (some .int))
abbrev mX11_squarest : mT := (yX11_squarest, cX11_squarest, 8, (some .int))
abbrev mX11_order : mT := (yX11_order, cX11_order, 6, (some .int))
abbrev mX11_mostPieces : mT := (yX11_mostPieces, cX11_mostPieces, 3, (some .int))
abbrev mX11_gladdest : mT := (yX11_gladdest, cX11_gladdest, 5, (some .int))
abbrev mX11_lends : mT := (yX11_lends, cX11_lends, 12, (some .int))
abbrev mX11_reply : mT := (yX11_reply, cX11_reply, 6, (some .int))
abbrev mX11_heard : mT := (yX11_heard, cX11_heard, 6, (some .long))
abbrev mX11_sure : mT := (yX11_sure, cX11_sure, 10, (some .int))
abbrev mX11_tempers : mT := (yX11_tempers, cX11_tempers, 5, (some .int))
abbrev mX11_next : mT := (yX11_next, cX11_next, 10, (some .int))
abbrev mX11_chance : mT := (yX11_chance, cX11_chance, 11, (some .long))
abbrev mX11_putBy : mT := (yX11_putBy, cX11_putBy, 7, (some .int))
abbrev mX11_numbers : mT := (yX11_numbers, cX11_numbers, 4, (some .int))
abbrev mX11_write : mT := (yX11_write, cX11_write, 6, (some .long))
abbrev mX11_lists : mT := (yX11_lists, cX11_lists, 8, (some .int))
abbrev mX11_image : mT := (yX11_image, cX11_image, 2, (some .int))
abbrev mX11_restore : mT := (yX11_restore, cX11_restore, 3, (some .int))
abbrev mX11_count : mT := (yX11_count, cX11_count, 2, (some .int))
abbrev mX11_feedFour : mT := (yX11_feedFour, cX11_feedFour, 3, none)
abbrev mX11_spareSheet : mT := (yX11_spareSheet, cX11_spareSheet, 3, (some (.object "RubatoDesk$Sheet")))
abbrev mX11_useSheet : mT := (yX11_useSheet, cX11_useSheet, 2, none)
abbrev mX11_hasBoth : mT := (yX11_hasBoth, cX11_hasBoth, 3, (some .boolean))
abbrev mX11_isStore : mT := (yX11_isStore, cX11_isStore, 1, (some .boolean))
abbrev mX11_isDraw : mT := (yX11_isDraw, cX11_isDraw, 1, (some .boolean))
abbrev mX11_isTray : mT := (yX11_isTray, cX11_isTray, 1, (some .boolean))
abbrev mX11_isOfRow : mT := (yX11_isOfRow, cX11_isOfRow, 1, (some .boolean))
abbrev mX11_bitOf : mT := (yX11_bitOf, cX11_bitOf, 1, (some .int))
abbrev mX11_takeUp : mT := (yX11_takeUp, cX11_takeUp, 3, none)
abbrev mX11_findBest : mT := (yX11_findBest, cX11_findBest, 6, (some .boolean))
abbrev mX11_endsOf : mT := (yX11_endsOf, cX11_endsOf, 3, (some (.array .int)))
abbrev mX11_refuseHeard : mT := (yX11_refuseHeard, cX11_refuseHeard, 8, (some .int))
abbrev mX11_tempersHeard : mT := (yX11_tempersHeard, cX11_tempersHeard, 5, (some .int))
abbrev mX11_mostAlike : mT := (yX11_mostAlike, cX11_mostAlike, 6, (some .int))
abbrev mX11_commonDivisor : mT := (yX11_commonDivisor, cX11_commonDivisor, 7, (some .long))
abbrev mX12_within : mT := (yX12_within, cX12_within, 6, (some .boolean))
abbrev mX12_init : mT := (yX12_init, cX12_init, 1, none)
abbrev mX12_plain : mT := (yX12_plain, cX12_plain, 2, none)
abbrev mX12_feed : mT := (yX12_feed, cX12_feed, 8, (some .int))
abbrev mX12_see : mT := (yX12_see, cX12_see, 2, (some .int))
abbrev mX12_isSmall : mT := (yX12_isSmall, cX12_isSmall, 1, (some .boolean))
abbrev mX12_isDigit : mT := (yX12_isDigit, cX12_isDigit, 1, (some .boolean))
abbrev mX12_keyAt : mT := (yX12_keyAt, cX12_keyAt, 4, (some .int))
abbrev mX12_nextToken : mT := (yX12_nextToken, cX12_nextToken, 2, none)
abbrev mX12_fails : mT := (yX12_fails, cX12_fails, 2, none)
abbrev mX12_is : mT := (yX12_is, cX12_is, 2, (some .boolean))
abbrev mX12_eats : mT := (yX12_eats, cX12_eats, 2, (some .boolean))
abbrev mX12_takes : mT := (yX12_takes, cX12_takes, 4, (some .int))
abbrev mX12_isIn : mT := (yX12_isIn, cX12_isIn, 3, (some .boolean))
abbrev mX12_wordOf : mT := (yX12_wordOf, cX12_wordOf, 2, (some .int))
abbrev mX12_codes : mT := (yX12_codes, cX12_codes, 2, none)
abbrev mX12_goesIn : mT := (yX12_goesIn, cX12_goesIn, 2, (some .boolean))
abbrev mX12_readAtom : mT := (yX12_readAtom, cX12_readAtom, 2, none)
abbrev mX12_readTerm : mT := (yX12_readTerm, cX12_readTerm, 2, none)
abbrev mX12_readSum : mT := (yX12_readSum, cX12_readSum, 3, none)
abbrev mX12_readUnit : mT := (yX12_readUnit, cX12_readUnit, 3, none)
abbrev mX12_readBoth : mT := (yX12_readBoth, cX12_readBoth, 2, none)
abbrev mX12_readTruth : mT := (yX12_readTruth, cX12_readTruth, 2, none)
abbrev mX12_readPiece : mT := (yX12_readPiece, cX12_readPiece, 4, none)
abbrev mX12_readFlag : mT := (yX12_readFlag, cX12_readFlag, 2, (some .boolean))
abbrev mX12_readPlayer : mT := (yX12_readPlayer, cX12_readPlayer, 2, none)
abbrev mX12_readLaw : mT := (yX12_readLaw, cX12_readLaw, 3, none)
abbrev mX12_readLine : mT := (yX12_readLine, cX12_readLine, 1, none)
abbrev mX12_ends : mT := (yX12_ends, cX12_ends, 1, none)
abbrev mX12_desk : mT := (yX12_desk, cX12_desk, 3, (some .int))
abbrev mX12_fault : mT := (yX12_fault, cX12_fault, 2, (some .int))
abbrev mX12_isPiece : mT := (yX12_isPiece, cX12_isPiece, 3, (some .boolean))
abbrev mX12_isPlayer : mT := (yX12_isPlayer, cX12_isPlayer, 3, (some .boolean))
abbrev mX12_isStore : mT := (yX12_isStore, cX12_isStore, 2, (some .boolean))
abbrev mX12_isDraw : mT := (yX12_isDraw, cX12_isDraw, 2, (some .boolean))
abbrev mX12_bitsOf : mT := (yX12_bitsOf, cX12_bitsOf, 3, (some .int))
abbrev mX12_between : mT := (yX12_between, cX12_between, 5, (some .int))
abbrev mX12_reckons : mT := (yX12_reckons, cX12_reckons, 5, (some .int))
abbrev mX12_asks : mT := (yX12_asks, cX12_asks, 7, none)
abbrev mX12_gladBy : mT := (yX12_gladBy, cX12_gladBy, 7, (some .int))
abbrev mX12_mayDraw : mT := (yX12_mayDraw, cX12_mayDraw, 7, (some .boolean))
abbrev mX12_player : mT := (yX12_player, cX12_player, 3, (some .int))
abbrev mX12_isBar : mT := (yX12_isBar, cX12_isBar, 3, (some .boolean))
abbrev mX12_wants : mT := (yX12_wants, cX12_wants, 3, (some .int))
abbrev mX12_bars : mT := (yX12_bars, cX12_bars, 2, (some .int))
abbrev mX12_glad : mT := (yX12_glad, cX12_glad, 6, (some .int))
abbrev mX12_spot : mT := (yX12_spot, cX12_spot, 3, (some .int))
abbrev mX12_gladAt : mT := (yX12_gladAt, cX12_gladAt, 5, (some .int))
abbrev mX12_laysGlads : mT := (yX12_laysGlads, cX12_laysGlads, 6, none)
abbrev mX12_laysGlad : mT := (yX12_laysGlad, cX12_laysGlad, 7, none)
abbrev mX12_isKept : mT := (yX12_isKept, cX12_isKept, 3, (some .boolean))
abbrev mX12_keepsAny : mT := (yX12_keepsAny, cX12_keepsAny, 2, none)
abbrev mX12_goesBy : mT := (yX12_goesBy, cX12_goesBy, 7, (some .int))
abbrev mX12_laysToGo : mT := (yX12_laysToGo, cX12_laysToGo, 6, none)
abbrev mX12_mostBy : mT := (yX12_mostBy, cX12_mostBy, 7, (some .int))
abbrev mX12_laysRow : mT := (yX12_laysRow, cX12_laysRow, 6, (some .boolean))
abbrev mX12_laysBest : mT := (yX12_laysBest, cX12_laysBest, 4, (some .boolean))
abbrev mX12_naturally : mT := (yX12_naturally, cX12_naturally, 8, (some .int))
abbrev mX12_laysComes : mT := (yX12_laysComes, cX12_laysComes, 6, none)
abbrev mX12_rowAt : mT := (yX12_rowAt, cX12_rowAt, 3, (some .int))
abbrev mX12_keeps : mT := (yX12_keeps, cX12_keeps, 2, none)
abbrev mX12_isAgain : mT := (yX12_isAgain, cX12_isAgain, 2, none)
abbrev mX12_notes : mT := (yX12_notes, cX12_notes, 2, none)
abbrev mX12_whyPlay : mT := (yX12_whyPlay, cX12_whyPlay, 5, (some .int))
abbrev mX12_whyBest : mT := (yX12_whyBest, cX12_whyBest, 6, (some .int))
abbrev mX12_whyLend : mT := (yX12_whyLend, cX12_whyLend, 7, (some .int))
abbrev mX12_plays : mT := (yX12_plays, cX12_plays, 3, none)
abbrev mX12_lends1 : mT := (yX12_lends1, cX12_lends1, 4, none)
abbrev mX12_goesFriday : mT := (yX12_goesFriday, cX12_goesFriday, 2, none)
abbrev mX12_play : mT := (yX12_play, cX12_play, 4, (some .int))
abbrev mX12_perform : mT := (yX12_perform, cX12_perform, 4, (some .int))
abbrev mX12_lend : mT := (yX12_lend, cX12_lend, 5, (some .int))
abbrev mX12_temper : mT := (yX12_temper, cX12_temper, 3, (some .int))
abbrev mX12_friday : mT := (yX12_friday, cX12_friday, 1, (some .int))
abbrev mX12_undo : mT := (yX12_undo, cX12_undo, 3, (some .int))
abbrev mX12_whyNot : mT := (yX12_whyNot, cX12_whyNot, 3, (some .int))
abbrev mX12_acts : mT := (yX12_acts, cX12_acts, 2, none)
abbrev mX12_tells : mT := (yX12_tells, cX12_tells, 3, (some .int))
abbrev mX12_noTray : mT := (yX12_noTray, cX12_noTray, 2, (some .int))
abbrev mX12_sumOf : mT := (yX12_sumOf, cX12_sumOf, 4, (some .int))
abbrev mX12_judge : mT := (yX12_judge, cX12_judge, 7, (some .int))
abbrev mX12_does : mT := (yX12_does, cX12_does, 4, (some .int))
abbrev mX12_draw : mT := (yX12_draw, cX12_draw, 2, (some .int))
abbrev mX12_goesDrawn : mT := (yX12_goesDrawn, cX12_goesDrawn, 6, (some .boolean))
abbrev mX12_term : mT := (yX12_term, cX12_term, 5, (some .int))
abbrev mX12_isTold : mT := (yX12_isTold, cX12_isTold, 2, (some .boolean))
abbrev mX12_areBoth : mT := (yX12_areBoth, cX12_areBoth, 3, (some .boolean))
abbrev mX12_comes : mT := (yX12_comes, cX12_comes, 4, (some .int))
abbrev mX12_tellsRow : mT := (yX12_tellsRow, cX12_tellsRow, 4, (some .int))
abbrev mX12_best : mT := (yX12_best, cX12_best, 5, (some .int))
abbrev mX12_mark : mT := (yX12_mark, cX12_mark, 2, (some .int))
abbrev mX12_beginsMany : mT := (yX12_beginsMany, cX12_beginsMany, 3, none)
abbrev mX12_isThen : mT := (yX12_isThen, cX12_isThen, 2, none)
abbrev mX12_laysMany : mT := (yX12_laysMany, cX12_laysMany, 7, none)
abbrev mX12_endsWith : mT := (yX12_endsWith, cX12_endsWith, 5, (some .long))
abbrev mX12_rows : mT := (yX12_rows, cX12_rows, 4, (some .long))
abbrev mX12_thriftiest : mT := (yX12_thriftiest, cX12_thriftiest, 4, (some .int))
abbrev mX12_least : mT := (yX12_least, cX12_least, 6, (some .int))
abbrev mX12_squarest : mT := (yX12_squarest, cX12_squarest, 6, (some .int))
abbrev mX12_throughBy : mT := (yX12_throughBy, cX12_throughBy, 4, (some .int))
abbrev mX12_laysThrough : mT := (yX12_laysThrough, cX12_laysThrough, 5, none)
abbrev mX12_laysEnd : mT := (yX12_laysEnd, cX12_laysEnd, 6, none)
abbrev mX12_orderBy : mT := (yX12_orderBy, cX12_orderBy, 7, (some .int))
abbrev mX12_laysOrders : mT := (yX12_laysOrders, cX12_laysOrders, 8, none)
abbrev mX12_goesPiece : mT := (yX12_goesPiece, cX12_goesPiece, 7, (some .boolean))
abbrev mX12_orderAt : mT := (yX12_orderAt, cX12_orderAt, 8, (some .int))
abbrev mX12_order : mT := (yX12_order, cX12_order, 6, (some .int))
abbrev mX12_mostPieces : mT := (yX12_mostPieces, cX12_mostPieces, 5, (some .int))
abbrev mX12_gladdest : mT := (yX12_gladdest, cX12_gladdest, 5, (some .int))
abbrev mX12_lends : mT := (yX12_lends, cX12_lends, 11, (some .int))
abbrev mX12_reply : mT := (yX12_reply, cX12_reply, 6, (some .int))
abbrev mX12_noHeard : mT := (yX12_noHeard, cX12_noHeard, 8, (some .int))
abbrev mX12_isEnd : mT := (yX12_isEnd, cX12_isEnd, 1, (some .boolean))
abbrev mX12_heardBy : mT := (yX12_heardBy, cX12_heardBy, 10, (some .long))
abbrev mX12_heard : mT := (yX12_heard, cX12_heard, 6, (some .long))
abbrev mX12_sure : mT := (yX12_sure, cX12_sure, 10, (some .int))
abbrev mX12_tempersOf : mT := (yX12_tempersOf, cX12_tempersOf, 9, (some .int))
abbrev mX12_tempers : mT := (yX12_tempers, cX12_tempers, 5, (some .int))
abbrev mX12_mostOften : mT := (yX12_mostOften, cX12_mostOften, 7, (some .int))
abbrev mX12_next : mT := (yX12_next, cX12_next, 10, (some .int))
abbrev mX12_tens : mT := (yX12_tens, cX12_tens, 4, (some .long))
abbrev mX12_common : mT := (yX12_common, cX12_common, 4, (some .long))
abbrev mX12_chanceFrom : mT := (yX12_chanceFrom, cX12_chanceFrom, 7, (some .long))
abbrev mX12_slipsOn : mT := (yX12_slipsOn, cX12_slipsOn, 6, none)
abbrev mX12_chance : mT := (yX12_chance, cX12_chance, 11, (some .long))
abbrev mX12_putBy : mT := (yX12_putBy, cX12_putBy, 5, (some .int))
abbrev mX12_cut : mT := (yX12_cut, cX12_cut, 3, (some .long))
abbrev mX12_numbers : mT := (yX12_numbers, cX12_numbers, 5, (some .int))
abbrev mX12_write : mT := (yX12_write, cX12_write, 6, (some .long))
abbrev mX12_lists : mT := (yX12_lists, cX12_lists, 8, (some .int))
abbrev mX12_image : mT := (yX12_image, cX12_image, 3, (some .int))
abbrev mX12_restore : mT := (yX12_restore, cX12_restore, 3, (some .int))
abbrev mX12_barsAll : mT := (yX12_barsAll, cX12_barsAll, 3, (some .int))
abbrev mX12_count : mT := (yX12_count, cX12_count, 2, (some .int))
abbrev mJ6_bitCount_0f7a4 : mT := (yJ6_bitCount_0f7a4, cJ6_bitCount_0f7a4, 1, (some .int))
abbrev mJ9_max_7cf53 : mT := (yJ9_max_7cf53, cJ9_max_7cf53, 2, (some .int))
abbrev mJ9_min_7cf53 : mT := (yJ9_min_7cf53, cJ9_min_7cf53, 2, (some .int))
abbrev mJ0_length_8abf5 : mT := (yJ0_length_8abf5, cJ0_length_8abf5, 1, (some .int))
abbrev mJ0_charAt_5068e : mT := (yJ0_charAt_5068e, cJ0_charAt_5068e, 2, (some .char))
abbrev mJ0_coder_7d493 : mT := (yJ0_coder_7d493, cJ0_coder_7d493, 1, (some .byte))
abbrev mJ0_isLatin1_aae02 : mT := (yJ0_isLatin1_aae02, cJ0_isLatin1_aae02, 1, (some .boolean))
abbrev mJ0_checkIndex_df160 : mT := (yJ0_checkIndex_df160, cJ0_checkIndex_df160, 2, none)
abbrev mJ1_charAt_3b067 : mT := (yJ1_charAt_3b067, cJ1_charAt_3b067, 2, (some .char))
abbrev mJ2_getChar_3b067 : mT := (yJ2_getChar_3b067, cJ2_getChar_3b067, 2, (some .char))
abbrev mJ2_length_9d52b : mT := (yJ2_length_9d52b, cJ2_length_9d52b, 1, (some .int))
abbrev mJ2_charAt_3b067 : mT := (yJ2_charAt_3b067, cJ2_charAt_3b067, 2, (some .char))
abbrev mJ2_checkIndex_2214a : mT := (yJ2_checkIndex_2214a, cJ2_checkIndex_2214a, 2, none)
abbrev mJ7_fill_d0a16 : mT := (yJ7_fill_d0a16, cJ7_fill_d0a16, 5, none)
abbrev mJ7_fill_53178 : mT := (yJ7_fill_53178, cJ7_fill_53178, 4, none)
abbrev mJ3_checkIndex_8e157 : mT := (yJ3_checkIndex_8e157, cJ3_checkIndex_8e157, 3, (some .int))
theorem wX0_init : pm_MW mX0_init 1 := ⟨by decide +kernel, by decide +kernel, (gt_1 (List.mem_of_getElem? (i := 8) rfl) rfl), (gt_1 (List.mem_of_getElem? (i := 223) rfl) rfl), by decide⟩
theorem wX0_useSheet : pm_MW mX0_useSheet 1 := ⟨by decide +kernel, by decide +kernel, (gt_1 (List.mem_of_getElem? (i := 8) rfl) rfl), (gt_3 (List.mem_of_getElem? (i := 204) rfl) rfl), by decide⟩
theorem wX0_asksFor : pm_MW mX0_asksFor 1 := ⟨by decide +kernel, by decide +kernel, (gt_1 (List.mem_of_getElem? (i := 8) rfl) rfl), (gt_3 (List.mem_of_getElem? (i := 208) rfl) rfl), by decide⟩
theorem wX0_takeUp : pm_MW mX0_takeUp 3 := ⟨by decide +kernel, by decide +kernel, (gt_1 (List.mem_of_getElem? (i := 8) rfl) rfl), (gt_4 (List.mem_of_getElem? (i := 38) rfl) rfl), by decide⟩
theorem wX0_gladBy : pm_MW mX0_gladBy 4 := ⟨by decide +kernel, by decide +kernel, (gt_1 (List.mem_of_getElem? (i := 8) rfl) rfl), (gt_4 (List.mem_of_getElem? (i := 47) rfl) rfl), by decide⟩
theorem wX0_gladAt : pm_MW mX0_gladAt 4 := ⟨by decide +kernel, by decide +kernel, (gt_1 (List.mem_of_getElem? (i := 8) rfl) rfl), (gt_4 (List.mem_of_getElem? (i := 100) rfl) rfl), by decide⟩
theorem wX0_cellOf : pm_MW mX0_cellOf 4 := ⟨by decide +kernel, by decide +kernel, (gt_1 (List.mem_of_getElem? (i := 8) rfl) rfl), (gt_4 (List.mem_of_getElem? (i := 43) rfl) rfl), by decide⟩
theorem wX0_see : pm_MW mX0_see 4 := ⟨by decide +kernel, by decide +kernel, (gt_1 (List.mem_of_getElem? (i := 8) rfl) rfl), (gt_4 (List.mem_of_getElem? (i := 51) rfl) rfl), by decide⟩
theorem wX0_comingDraw : pm_MW mX0_comingDraw 3 := ⟨by decide +kernel, by decide +kernel, (gt_1 (List.mem_of_getElem? (i := 8) rfl) rfl), (gt_4 (List.mem_of_getElem? (i := 95) rfl) rfl), by decide⟩
theorem wX0_lastBehind : pm_MW mX0_lastBehind 1 := ⟨by decide +kernel, by decide +kernel, (gt_1 (List.mem_of_getElem? (i := 8) rfl) rfl), (gt_4 (List.mem_of_getElem? (i := 153) rfl) rfl), by decide⟩
theorem wX0_lastsAt : pm_MW mX0_lastsAt 1 := ⟨by decide +kernel, by decide +kernel, (gt_1 (List.mem_of_getElem? (i := 8) rfl) rfl), (gt_4 (List.mem_of_getElem? (i := 140) rfl) rfl), by decide⟩
theorem wX0_placeOf : pm_MW mX0_placeOf 2 := ⟨by decide +kernel, by decide +kernel, (gt_1 (List.mem_of_getElem? (i := 8) rfl) rfl), (gt_4 (List.mem_of_getElem? (i := 156) rfl) rfl), by decide⟩
theorem wX0_storeOf : pm_MW mX0_storeOf 1 := ⟨by decide +kernel, by decide +kernel, (gt_1 (List.mem_of_getElem? (i := 8) rfl) rfl), (gt_4 (List.mem_of_getElem? (i := 135) rfl) rfl), by decide⟩
theorem wX0_lastOf : pm_MW mX0_lastOf 1 := ⟨by decide +kernel, by decide +kernel, (gt_1 (List.mem_of_getElem? (i := 8) rfl) rfl), (gt_5 (List.mem_of_getElem? (i := 66) rfl) rfl), by decide⟩
theorem wX1_init : pm_MW mX1_init 1 := ⟨by decide +kernel, by decide +kernel, (gt_1 (List.mem_of_getElem? (i := 10) rfl) rfl), (gt_2 (List.mem_of_getElem? (i := 45) rfl) rfl), by decide⟩
theorem wX1_run : pm_MW mX1_run 1 := ⟨by decide +kernel, by decide +kernel, (gt_1 (List.mem_of_getElem? (i := 10) rfl) rfl), (gt_4 (List.mem_of_getElem? (i := 90) rfl) rfl), by decide⟩
theorem wX1_drawOf : pm_MW mX1_drawOf 1 := ⟨by decide +kernel, by decide +kernel, (gt_1 (List.mem_of_getElem? (i := 10) rfl) rfl), (gt_5 (List.mem_of_getElem? (i := 28) rfl) rfl), by decide⟩
theorem wX1_isWithin : pm_MW mX1_isWithin 1 := ⟨by decide +kernel, by decide +kernel, (gt_1 (List.mem_of_getElem? (i := 10) rfl) rfl), (gt_5 (List.mem_of_getElem? (i := 183) rfl) rfl), by decide⟩
theorem wX1_allChances : pm_MW mX1_allChances 0 := ⟨by decide +kernel, by decide +kernel, (gt_1 (List.mem_of_getElem? (i := 10) rfl) rfl), (gt_5 (List.mem_of_getElem? (i := 215) rfl) rfl), by decide⟩
theorem wX1_chances : pm_MW mX1_chances 2 := ⟨by decide +kernel, by decide +kernel, (gt_1 (List.mem_of_getElem? (i := 10) rfl) rfl), (gt_5 (List.mem_of_getElem? (i := 201) rfl) rfl), by decide⟩
theorem wX1_slipAt : pm_MW mX1_slipAt 1 := ⟨by decide +kernel, by decide +kernel, (gt_1 (List.mem_of_getElem? (i := 10) rfl) rfl), (gt_5 (List.mem_of_getElem? (i := 207) rfl) rfl), by decide⟩
theorem wX2_init : pm_MW mX2_init 3 := ⟨by decide +kernel, by decide +kernel, (gt_1 (List.mem_of_getElem? (i := 13) rfl) rfl), (gt_2 (List.mem_of_getElem? (i := 163) rfl) rfl), by decide⟩
theorem wX2_playComing : pm_MW mX2_playComing 3 := ⟨by decide +kernel, by decide +kernel, (gt_1 (List.mem_of_getElem? (i := 13) rfl) rfl), (gt_4 (List.mem_of_getElem? (i := 78) rfl) rfl), by decide⟩
theorem wX2_playBest : pm_MW mX2_playBest 3 := ⟨by decide +kernel, by decide +kernel, (gt_1 (List.mem_of_getElem? (i := 13) rfl) rfl), (gt_4 (List.mem_of_getElem? (i := 127) rfl) rfl), by decide⟩
theorem wX2_whyNotPlay : pm_MW mX2_whyNotPlay 3 := ⟨by decide +kernel, by decide +kernel, (gt_1 (List.mem_of_getElem? (i := 13) rfl) rfl), (gt_4 (List.mem_of_getElem? (i := 82) rfl) rfl), by decide⟩
theorem wX2_lendTicks : pm_MW mX2_lendTicks 4 := ⟨by decide +kernel, by decide +kernel, (gt_1 (List.mem_of_getElem? (i := 13) rfl) rfl), (gt_4 (List.mem_of_getElem? (i := 172) rfl) rfl), by decide⟩
theorem wX2_haveTemper : pm_MW mX2_haveTemper 3 := ⟨by decide +kernel, by decide +kernel, (gt_1 (List.mem_of_getElem? (i := 13) rfl) rfl), (gt_4 (List.mem_of_getElem? (i := 180) rfl) rfl), by decide⟩
theorem wX2_holdFriday : pm_MW mX2_holdFriday 1 := ⟨by decide +kernel, by decide +kernel, (gt_1 (List.mem_of_getElem? (i := 13) rfl) rfl), (gt_4 (List.mem_of_getElem? (i := 188) rfl) rfl), by decide⟩
theorem wX2_doTold : pm_MW mX2_doTold 2 := ⟨by decide +kernel, by decide +kernel, (gt_1 (List.mem_of_getElem? (i := 13) rfl) rfl), (gt_4 (List.mem_of_getElem? (i := 216) rfl) rfl), by decide⟩
theorem wX2_sow : pm_MW mX2_sow 1 := ⟨by decide +kernel, by decide +kernel, (gt_1 (List.mem_of_getElem? (i := 13) rfl) rfl), (gt_5 (List.mem_of_getElem? (i := 2) rfl) rfl), by decide⟩
theorem wX2_drawn : pm_MW mX2_drawn 1 := ⟨by decide +kernel, by decide +kernel, (gt_1 (List.mem_of_getElem? (i := 13) rfl) rfl), (gt_5 (List.mem_of_getElem? (i := 10) rfl) rfl), by decide⟩
theorem wX2_doDrawn : pm_MW mX2_doDrawn 1 := ⟨by decide +kernel, by decide +kernel, (gt_1 (List.mem_of_getElem? (i := 13) rfl) rfl), (gt_5 (List.mem_of_getElem? (i := 6) rfl) rfl), by decide⟩
theorem wX3_init : pm_MW mX3_init 0 := ⟨by decide +kernel, by decide +kernel, (gt_1 (List.mem_of_getElem? (i := 4) rfl) rfl), (gt_1 (List.mem_of_getElem? (i := 113) rfl) rfl), by decide⟩
theorem wX3_clear : pm_MW mX3_clear 0 := ⟨by decide +kernel, by decide +kernel, (gt_1 (List.mem_of_getElem? (i := 4) rfl) rfl), (gt_3 (List.mem_of_getElem? (i := 224) rfl) rfl), by decide⟩
theorem wX3_keep : pm_MW mX3_keep 1 := ⟨by decide +kernel, by decide +kernel, (gt_1 (List.mem_of_getElem? (i := 4) rfl) rfl), (gt_4 (List.mem_of_getElem? (i := 117) rfl) rfl), by decide⟩
theorem wX3_bringBack : pm_MW mX3_bringBack 1 := ⟨by decide +kernel, by decide +kernel, (gt_1 (List.mem_of_getElem? (i := 4) rfl) rfl), (gt_4 (List.mem_of_getElem? (i := 196) rfl) rfl), by decide⟩
theorem wX4_init : pm_MW mX4_init 0 := ⟨by decide +kernel, by decide +kernel, (gt_1 (List.mem_of_getElem? (i := 7) rfl) rfl), (gt_1 (List.mem_of_getElem? (i := 157) rfl) rfl), by decide⟩
theorem wX4_clear : pm_MW mX4_clear 0 := ⟨by decide +kernel, by decide +kernel, (gt_1 (List.mem_of_getElem? (i := 7) rfl) rfl), (gt_3 (List.mem_of_getElem? (i := 30) rfl) rfl), by decide⟩
theorem wX4_isTold : pm_MW mX4_isTold 0 := ⟨by decide +kernel, by decide +kernel, (gt_1 (List.mem_of_getElem? (i := 7) rfl) rfl), (gt_4 (List.mem_of_getElem? (i := 55) rfl) rfl), by decide⟩
theorem wX4_asksFor : pm_MW mX4_asksFor 1 := ⟨by decide +kernel, by decide +kernel, (gt_1 (List.mem_of_getElem? (i := 7) rfl) rfl), (gt_3 (List.mem_of_getElem? (i := 212) rfl) rfl), by decide⟩
theorem wX4_add : pm_MW mX4_add 1 := ⟨by decide +kernel, by decide +kernel, (gt_1 (List.mem_of_getElem? (i := 7) rfl) rfl), (gt_3 (List.mem_of_getElem? (i := 188) rfl) rfl), by decide⟩
theorem wX4_valueOf : pm_MW mX4_valueOf 2 := ⟨by decide +kernel, by decide +kernel, (gt_1 (List.mem_of_getElem? (i := 7) rfl) rfl), (gt_4 (List.mem_of_getElem? (i := 59) rfl) rfl), by decide⟩
theorem wX4_joined : pm_MW mX4_joined 3 := ⟨by decide +kernel, by decide +kernel, (gt_1 (List.mem_of_getElem? (i := 7) rfl) rfl), (gt_4 (List.mem_of_getElem? (i := 62) rfl) rfl), by decide⟩
theorem wX5_init : pm_MW mX5_init 2 := ⟨by decide +kernel, by decide +kernel, (gt_1 (List.mem_of_getElem? (i := 12) rfl) rfl), (gt_2 (List.mem_of_getElem? (i := 125) rfl) rfl), by decide⟩
theorem wX5_begin : pm_MW mX5_begin 2 := ⟨by decide +kernel, by decide +kernel, (gt_1 (List.mem_of_getElem? (i := 12) rfl) rfl), (gt_5 (List.mem_of_getElem? (i := 106) rfl) rfl), by decide⟩
theorem wX5_find : pm_MW mX5_find 4 := ⟨by decide +kernel, by decide +kernel, (gt_1 (List.mem_of_getElem? (i := 12) rfl) rfl), (gt_5 (List.mem_of_getElem? (i := 102) rfl) rfl), by decide⟩
theorem wX5_pieceAt : pm_MW mX5_pieceAt 1 := ⟨by decide +kernel, by decide +kernel, (gt_1 (List.mem_of_getElem? (i := 12) rfl) rfl), (gt_5 (List.mem_of_getElem? (i := 122) rfl) rfl), by decide⟩
theorem wX5_search : pm_MW mX5_search 3 := ⟨by decide +kernel, by decide +kernel, (gt_1 (List.mem_of_getElem? (i := 12) rfl) rfl), (gt_5 (List.mem_of_getElem? (i := 111) rfl) rfl), by decide⟩
theorem wX5_mostFrom : pm_MW mX5_mostFrom 2 := ⟨by decide +kernel, by decide +kernel, (gt_1 (List.mem_of_getElem? (i := 12) rfl) rfl), (gt_5 (List.mem_of_getElem? (i := 114) rfl) rfl), by decide⟩
theorem wX5_largestSet : pm_MW mX5_largestSet 3 := ⟨by decide +kernel, by decide +kernel, (gt_1 (List.mem_of_getElem? (i := 12) rfl) rfl), (gt_5 (List.mem_of_getElem? (i := 130) rfl) rfl), by decide⟩
theorem wX5_gather : pm_MW mX5_gather 1 := ⟨by decide +kernel, by decide +kernel, (gt_1 (List.mem_of_getElem? (i := 12) rfl) rfl), (gt_5 (List.mem_of_getElem? (i := 135) rfl) rfl), by decide⟩
theorem wX6_init : pm_MW mX6_init 0 := ⟨by decide +kernel, by decide +kernel, (gt_1 (List.mem_of_getElem? (i := 2) rfl) rfl), (gt_1 (List.mem_of_getElem? (i := 34) rfl) rfl), by decide⟩
theorem wX6_read : pm_MW mX6_read 3 := ⟨by decide +kernel, by decide +kernel, (gt_1 (List.mem_of_getElem? (i := 2) rfl) rfl), (gt_3 (List.mem_of_getElem? (i := 18) rfl) rfl), by decide⟩
theorem wX6_cut : pm_MW mX6_cut 0 := ⟨by decide +kernel, by decide +kernel, (gt_1 (List.mem_of_getElem? (i := 2) rfl) rfl), (gt_3 (List.mem_of_getElem? (i := 34) rfl) rfl), by decide⟩
theorem wX6_addToken : pm_MW mX6_addToken 3 := ⟨by decide +kernel, by decide +kernel, (gt_1 (List.mem_of_getElem? (i := 2) rfl) rfl), (gt_3 (List.mem_of_getElem? (i := 102) rfl) rfl), by decide⟩
theorem wX6_signAt : pm_MW mX6_signAt 1 := ⟨by decide +kernel, by decide +kernel, (gt_1 (List.mem_of_getElem? (i := 2) rfl) rfl), (gt_3 (List.mem_of_getElem? (i := 38) rfl) rfl), by decide⟩
theorem wX6_isLetter : pm_MW mX6_isLetter 1 := ⟨by decide +kernel, by decide +kernel, (gt_1 (List.mem_of_getElem? (i := 2) rfl) rfl), (gt_3 (List.mem_of_getElem? (i := 41) rfl) rfl), by decide⟩
theorem wX6_isDigit : pm_MW mX6_isDigit 1 := ⟨by decide +kernel, by decide +kernel, (gt_1 (List.mem_of_getElem? (i := 2) rfl) rfl), (gt_3 (List.mem_of_getElem? (i := 105) rfl) rfl), by decide⟩
theorem wX6_isSign : pm_MW mX6_isSign 1 := ⟨by decide +kernel, by decide +kernel, (gt_1 (List.mem_of_getElem? (i := 2) rfl) rfl), (gt_3 (List.mem_of_getElem? (i := 116) rfl) rfl), by decide⟩
theorem wX6_endOfLetters : pm_MW mX6_endOfLetters 1 := ⟨by decide +kernel, by decide +kernel, (gt_1 (List.mem_of_getElem? (i := 2) rfl) rfl), (gt_3 (List.mem_of_getElem? (i := 45) rfl) rfl), by decide⟩
theorem wX6_endOfDigits : pm_MW mX6_endOfDigits 1 := ⟨by decide +kernel, by decide +kernel, (gt_1 (List.mem_of_getElem? (i := 2) rfl) rfl), (gt_3 (List.mem_of_getElem? (i := 109) rfl) rfl), by decide⟩
theorem wX6_numberAt : pm_MW mX6_numberAt 2 := ⟨by decide +kernel, by decide +kernel, (gt_1 (List.mem_of_getElem? (i := 2) rfl) rfl), (gt_3 (List.mem_of_getElem? (i := 113) rfl) rfl), by decide⟩
theorem wX6_wordAt : pm_MW mX6_wordAt 2 := ⟨by decide +kernel, by decide +kernel, (gt_1 (List.mem_of_getElem? (i := 2) rfl) rfl), (gt_3 (List.mem_of_getElem? (i := 49) rfl) rfl), by decide⟩
theorem wX6_kind : pm_MW mX6_kind 0 := ⟨by decide +kernel, by decide +kernel, (gt_1 (List.mem_of_getElem? (i := 2) rfl) rfl), (gt_3 (List.mem_of_getElem? (i := 124) rfl) rfl), by decide⟩
theorem wX6_faulty : pm_MW mX6_faulty 1 := ⟨by decide +kernel, by decide +kernel, (gt_1 (List.mem_of_getElem? (i := 2) rfl) rfl), (gt_3 (List.mem_of_getElem? (i := 132) rfl) rfl), by decide⟩
theorem wX6_cannotStand : pm_MW mX6_cannotStand 0 := ⟨by decide +kernel, by decide +kernel, (gt_1 (List.mem_of_getElem? (i := 2) rfl) rfl), (gt_3 (List.mem_of_getElem? (i := 128) rfl) rfl), by decide⟩
theorem wX6_take : pm_MW mX6_take 1 := ⟨by decide +kernel, by decide +kernel, (gt_1 (List.mem_of_getElem? (i := 2) rfl) rfl), (gt_3 (List.mem_of_getElem? (i := 120) rfl) rfl), by decide⟩
theorem wX6_takeNumber : pm_MW mX6_takeNumber 1 := ⟨by decide +kernel, by decide +kernel, (gt_1 (List.mem_of_getElem? (i := 2) rfl) rfl), (gt_3 (List.mem_of_getElem? (i := 144) rfl) rfl), by decide⟩
theorem wX6_taken : pm_MW mX6_taken 0 := ⟨by decide +kernel, by decide +kernel, (gt_1 (List.mem_of_getElem? (i := 2) rfl) rfl), (gt_3 (List.mem_of_getElem? (i := 148) rfl) rfl), by decide⟩
theorem wX6_readLine : pm_MW mX6_readLine 0 := ⟨by decide +kernel, by decide +kernel, (gt_1 (List.mem_of_getElem? (i := 2) rfl) rfl), (gt_3 (List.mem_of_getElem? (i := 136) rfl) rfl), by decide⟩
theorem wX6_readPiece : pm_MW mX6_readPiece 0 := ⟨by decide +kernel, by decide +kernel, (gt_1 (List.mem_of_getElem? (i := 2) rfl) rfl), (gt_3 (List.mem_of_getElem? (i := 140) rfl) rfl), by decide⟩
theorem wX6_readPlayer : pm_MW mX6_readPlayer 0 := ⟨by decide +kernel, by decide +kernel, (gt_1 (List.mem_of_getElem? (i := 2) rfl) rfl), (gt_3 (List.mem_of_getElem? (i := 160) rfl) rfl), by decide⟩
theorem wX6_isFlag : pm_MW mX6_isFlag 1 := ⟨by decide +kernel, by decide +kernel, (gt_1 (List.mem_of_getElem? (i := 2) rfl) rfl), (gt_3 (List.mem_of_getElem? (i := 163) rfl) rfl), by decide⟩
theorem wX6_readLaw : pm_MW mX6_readLaw 2 := ⟨by decide +kernel, by decide +kernel, (gt_1 (List.mem_of_getElem? (i := 2) rfl) rfl), (gt_3 (List.mem_of_getElem? (i := 167) rfl) rfl), by decide⟩
theorem wX6_readChain : pm_MW mX6_readChain 2 := ⟨by decide +kernel, by decide +kernel, (gt_1 (List.mem_of_getElem? (i := 2) rfl) rfl), (gt_3 (List.mem_of_getElem? (i := 172) rfl) rfl), by decide⟩
theorem wX6_joins : pm_MW mX6_joins 2 := ⟨by decide +kernel, by decide +kernel, (gt_1 (List.mem_of_getElem? (i := 2) rfl) rfl), (gt_3 (List.mem_of_getElem? (i := 195) rfl) rfl), by decide⟩
theorem wX6_readPart : pm_MW mX6_readPart 2 := ⟨by decide +kernel, by decide +kernel, (gt_1 (List.mem_of_getElem? (i := 2) rfl) rfl), (gt_3 (List.mem_of_getElem? (i := 176) rfl) rfl), by decide⟩
theorem wX6_readUnit : pm_MW mX6_readUnit 1 := ⟨by decide +kernel, by decide +kernel, (gt_1 (List.mem_of_getElem? (i := 2) rfl) rfl), (gt_3 (List.mem_of_getElem? (i := 180) rfl) rfl), by decide⟩
theorem wX6_readComparison : pm_MW mX6_readComparison 1 := ⟨by decide +kernel, by decide +kernel, (gt_1 (List.mem_of_getElem? (i := 2) rfl) rfl), (gt_3 (List.mem_of_getElem? (i := 184) rfl) rfl), by decide⟩
theorem wX6_readAtom : pm_MW mX6_readAtom 1 := ⟨by decide +kernel, by decide +kernel, (gt_1 (List.mem_of_getElem? (i := 2) rfl) rfl), (gt_3 (List.mem_of_getElem? (i := 192) rfl) rfl), by decide⟩
theorem wX7_init : pm_MW mX7_init 0 := ⟨by decide +kernel, by decide +kernel, (gt_1 (List.mem_of_getElem? (i := 6) rfl) rfl), (gt_1 (List.mem_of_getElem? (i := 151) rfl) rfl), by decide⟩
theorem wX7_clear : pm_MW mX7_clear 0 := ⟨by decide +kernel, by decide +kernel, (gt_1 (List.mem_of_getElem? (i := 6) rfl) rfl), (gt_3 (List.mem_of_getElem? (i := 25) rfl) rfl), by decide⟩
theorem wX7_hasPiece : pm_MW mX7_hasPiece 1 := ⟨by decide +kernel, by decide +kernel, (gt_1 (List.mem_of_getElem? (i := 6) rfl) rfl), (gt_3 (List.mem_of_getElem? (i := 156) rfl) rfl), by decide⟩
theorem wX7_hasPlayer : pm_MW mX7_hasPlayer 1 := ⟨by decide +kernel, by decide +kernel, (gt_1 (List.mem_of_getElem? (i := 6) rfl) rfl), (gt_3 (List.mem_of_getElem? (i := 236) rfl) rfl), by decide⟩
theorem wX7_hasBar : pm_MW mX7_hasBar 2 := ⟨by decide +kernel, by decide +kernel, (gt_1 (List.mem_of_getElem? (i := 6) rfl) rfl), (gt_4 (List.mem_of_getElem? (i := 9) rfl) rfl), by decide⟩
theorem wX7_barsOf : pm_MW mX7_barsOf 1 := ⟨by decide +kernel, by decide +kernel, (gt_1 (List.mem_of_getElem? (i := 6) rfl) rfl), (gt_4 (List.mem_of_getElem? (i := 23) rfl) rfl), by decide⟩
theorem wX7_wantOf : pm_MW mX7_wantOf 2 := ⟨by decide +kernel, by decide +kernel, (gt_1 (List.mem_of_getElem? (i := 6) rfl) rfl), (gt_4 (List.mem_of_getElem? (i := 13) rfl) rfl), by decide⟩
theorem wX7_allBars : pm_MW mX7_allBars 0 := ⟨by decide +kernel, by decide +kernel, (gt_1 (List.mem_of_getElem? (i := 6) rfl) rfl), (gt_6 (List.mem_of_getElem? (i := 30) rfl) rfl), by decide⟩
theorem wX7_addBar : pm_MW mX7_addBar 1 := ⟨by decide +kernel, by decide +kernel, (gt_1 (List.mem_of_getElem? (i := 6) rfl) rfl), (gt_3 (List.mem_of_getElem? (i := 152) rfl) rfl), by decide⟩
theorem wX8_init : pm_MW mX8_init 0 := ⟨by decide +kernel, by decide +kernel, (gt_1 (List.mem_of_getElem? (i := 3) rfl) rfl), (gt_1 (List.mem_of_getElem? (i := 80) rfl) rfl), by decide⟩
theorem wX8_begin : pm_MW mX8_begin 1 := ⟨by decide +kernel, by decide +kernel, (gt_1 (List.mem_of_getElem? (i := 3) rfl) rfl), (gt_3 (List.mem_of_getElem? (i := 216) rfl) rfl), by decide⟩
theorem wX8_copy : pm_MW mX8_copy 1 := ⟨by decide +kernel, by decide +kernel, (gt_1 (List.mem_of_getElem? (i := 3) rfl) rfl), (gt_4 (List.mem_of_getElem? (i := 74) rfl) rfl), by decide⟩
theorem wX8_isBarred : pm_MW mX8_isBarred 1 := ⟨by decide +kernel, by decide +kernel, (gt_1 (List.mem_of_getElem? (i := 3) rfl) rfl), (gt_4 (List.mem_of_getElem? (i := 1) rfl) rfl), by decide⟩
theorem wX8_addJoy : pm_MW mX8_addJoy 2 := ⟨by decide +kernel, by decide +kernel, (gt_1 (List.mem_of_getElem? (i := 3) rfl) rfl), (gt_4 (List.mem_of_getElem? (i := 106) rfl) rfl), by decide⟩
theorem wX8_allStores : pm_MW mX8_allStores 0 := ⟨by decide +kernel, by decide +kernel, (gt_1 (List.mem_of_getElem? (i := 3) rfl) rfl), (gt_4 (List.mem_of_getElem? (i := 226) rfl) rfl), by decide⟩
theorem wX8_allJoy : pm_MW mX8_allJoy 0 := ⟨by decide +kernel, by decide +kernel, (gt_1 (List.mem_of_getElem? (i := 3) rfl) rfl), (gt_4 (List.mem_of_getElem? (i := 230) rfl) rfl), by decide⟩
theorem wX9_init : pm_MW mX9_init 0 := ⟨by decide +kernel, by decide +kernel, (gt_1 (List.mem_of_getElem? (i := 5) rfl) rfl), (gt_1 (List.mem_of_getElem? (i := 134) rfl) rfl), by decide⟩
theorem wX9_isMissing : pm_MW mX9_isMissing 0 := ⟨by decide +kernel, by decide +kernel, (gt_1 (List.mem_of_getElem? (i := 5) rfl) rfl), (gt_4 (List.mem_of_getElem? (i := 207) rfl) rfl), by decide⟩
theorem wX9_begin : pm_MW mX9_begin 2 := ⟨by decide +kernel, by decide +kernel, (gt_1 (List.mem_of_getElem? (i := 5) rfl) rfl), (gt_5 (List.mem_of_getElem? (i := 232) rfl) rfl), by decide⟩
theorem wX9_at : pm_MW mX9_at 1 := ⟨by decide +kernel, by decide +kernel, (gt_1 (List.mem_of_getElem? (i := 5) rfl) rfl), (gt_4 (List.mem_of_getElem? (i := 212) rfl) rfl), by decide⟩
theorem wX9_put : pm_MW mX9_put 2 := ⟨by decide +kernel, by decide +kernel, (gt_1 (List.mem_of_getElem? (i := 5) rfl) rfl), (gt_6 (List.mem_of_getElem? (i := 5) rfl) rfl), by decide⟩
theorem wX9_cut : pm_MW mX9_cut 1 := ⟨by decide +kernel, by decide +kernel, (gt_1 (List.mem_of_getElem? (i := 5) rfl) rfl), (gt_6 (List.mem_of_getElem? (i := 9) rfl) rfl), by decide⟩
theorem wX10_init : pm_MW mX10_init 1 := ⟨by decide +kernel, by decide +kernel, (gt_1 (List.mem_of_getElem? (i := 11) rfl) rfl), (gt_2 (List.mem_of_getElem? (i := 78) rfl) rfl), by decide⟩
theorem wX10_settle : pm_MW mX10_settle 4 := ⟨by decide +kernel, by decide +kernel, (gt_1 (List.mem_of_getElem? (i := 11) rfl) rfl), (gt_4 (List.mem_of_getElem? (i := 131) rfl) rfl), by decide⟩
theorem wX10_settleAt : pm_MW mX10_settleAt 4 := ⟨by decide +kernel, by decide +kernel, (gt_1 (List.mem_of_getElem? (i := 11) rfl) rfl), (gt_4 (List.mem_of_getElem? (i := 145) rfl) rfl), by decide⟩
theorem wX10_mostFrom : pm_MW mX10_mostFrom 1 := ⟨by decide +kernel, by decide +kernel, (gt_1 (List.mem_of_getElem? (i := 11) rfl) rfl), (gt_4 (List.mem_of_getElem? (i := 164) rfl) rfl), by decide⟩
theorem wX10_follow : pm_MW mX10_follow 1 := ⟨by decide +kernel, by decide +kernel, (gt_1 (List.mem_of_getElem? (i := 11) rfl) rfl), (gt_4 (List.mem_of_getElem? (i := 160) rfl) rfl), by decide⟩
theorem wX10_tell : pm_MW mX10_tell 1 := ⟨by decide +kernel, by decide +kernel, (gt_1 (List.mem_of_getElem? (i := 11) rfl) rfl), (gt_5 (List.mem_of_getElem? (i := 45) rfl) rfl), by decide⟩
theorem wX10_spread : pm_MW mX10_spread 2 := ⟨by decide +kernel, by decide +kernel, (gt_1 (List.mem_of_getElem? (i := 11) rfl) rfl), (gt_5 (List.mem_of_getElem? (i := 80) rfl) rfl), by decide⟩
theorem wX10_spreadBar : pm_MW mX10_spreadBar 1 := ⟨by decide +kernel, by decide +kernel, (gt_1 (List.mem_of_getElem? (i := 11) rfl) rfl), (gt_5 (List.mem_of_getElem? (i := 84) rfl) rfl), by decide⟩
theorem wX10_howMany : pm_MW mX10_howMany 3 := ⟨by decide +kernel, by decide +kernel, (gt_1 (List.mem_of_getElem? (i := 11) rfl) rfl), (gt_5 (List.mem_of_getElem? (i := 56) rfl) rfl), by decide⟩
theorem wX10_countBar : pm_MW mX10_countBar 2 := ⟨by decide +kernel, by decide +kernel, (gt_1 (List.mem_of_getElem? (i := 11) rfl) rfl), (gt_5 (List.mem_of_getElem? (i := 63) rfl) rfl), by decide⟩
theorem wX11_init : pm_MW mX11_init 0 := ⟨by decide +kernel, by decide +kernel, (gt_1 (List.mem_of_getElem? (i := 1) rfl) rfl), (gt_1 (List.mem_of_getElem? (i := 26) rfl) rfl), by decide⟩
theorem wX11_feed : pm_MW mX11_feed 5 := ⟨by decide +kernel, by decide +kernel, (gt_1 (List.mem_of_getElem? (i := 1) rfl) rfl), (gt_3 (List.mem_of_getElem? (i := 0) rfl) rfl), by decide⟩
theorem wX11_desk : pm_MW mX11_desk 1 := ⟨by decide +kernel, by decide +kernel, (gt_1 (List.mem_of_getElem? (i := 1) rfl) rfl), (gt_3 (List.mem_of_getElem? (i := 9) rfl) rfl), by decide⟩
theorem wX11_fault : pm_MW mX11_fault 1 := ⟨by decide +kernel, by decide +kernel, (gt_1 (List.mem_of_getElem? (i := 1) rfl) rfl), (gt_3 (List.mem_of_getElem? (i := 228) rfl) rfl), by decide⟩
theorem wX11_player : pm_MW mX11_player 2 := ⟨by decide +kernel, by decide +kernel, (gt_1 (List.mem_of_getElem? (i := 1) rfl) rfl), (gt_3 (List.mem_of_getElem? (i := 232) rfl) rfl), by decide⟩
theorem wX11_wants : pm_MW mX11_wants 2 := ⟨by decide +kernel, by decide +kernel, (gt_1 (List.mem_of_getElem? (i := 1) rfl) rfl), (gt_4 (List.mem_of_getElem? (i := 5) rfl) rfl), by decide⟩
theorem wX11_bars : pm_MW mX11_bars 1 := ⟨by decide +kernel, by decide +kernel, (gt_1 (List.mem_of_getElem? (i := 1) rfl) rfl), (gt_4 (List.mem_of_getElem? (i := 18) rfl) rfl), by decide⟩
theorem wX11_glad : pm_MW mX11_glad 5 := ⟨by decide +kernel, by decide +kernel, (gt_1 (List.mem_of_getElem? (i := 1) rfl) rfl), (gt_4 (List.mem_of_getElem? (i := 27) rfl) rfl), by decide⟩
theorem wX11_play : pm_MW mX11_play 2 := ⟨by decide +kernel, by decide +kernel, (gt_1 (List.mem_of_getElem? (i := 1) rfl) rfl), (gt_4 (List.mem_of_getElem? (i := 70) rfl) rfl), by decide⟩
theorem wX11_perform : pm_MW mX11_perform 2 := ⟨by decide +kernel, by decide +kernel, (gt_1 (List.mem_of_getElem? (i := 1) rfl) rfl), (gt_4 (List.mem_of_getElem? (i := 123) rfl) rfl), by decide⟩
theorem wX11_lend : pm_MW mX11_lend 3 := ⟨by decide +kernel, by decide +kernel, (gt_1 (List.mem_of_getElem? (i := 1) rfl) rfl), (gt_4 (List.mem_of_getElem? (i := 168) rfl) rfl), by decide⟩
theorem wX11_temper : pm_MW mX11_temper 2 := ⟨by decide +kernel, by decide +kernel, (gt_1 (List.mem_of_getElem? (i := 1) rfl) rfl), (gt_4 (List.mem_of_getElem? (i := 176) rfl) rfl), by decide⟩
theorem wX11_friday : pm_MW mX11_friday 0 := ⟨by decide +kernel, by decide +kernel, (gt_1 (List.mem_of_getElem? (i := 1) rfl) rfl), (gt_4 (List.mem_of_getElem? (i := 184) rfl) rfl), by decide⟩
theorem wX11_undo : pm_MW mX11_undo 1 := ⟨by decide +kernel, by decide +kernel, (gt_1 (List.mem_of_getElem? (i := 1) rfl) rfl), (gt_4 (List.mem_of_getElem? (i := 192) rfl) rfl), by decide⟩
theorem wX11_judge : pm_MW mX11_judge 2 := ⟨by decide +kernel, by decide +kernel, (gt_1 (List.mem_of_getElem? (i := 1) rfl) rfl), (gt_4 (List.mem_of_getElem? (i := 200) rfl) rfl), by decide⟩
theorem wX11_does : pm_MW mX11_does 1 := ⟨by decide +kernel, by decide +kernel, (gt_1 (List.mem_of_getElem? (i := 1) rfl) rfl), (gt_4 (List.mem_of_getElem? (i := 234) rfl) rfl), by decide⟩
theorem wX11_term : pm_MW mX11_term 2 := ⟨by decide +kernel, by decide +kernel, (gt_1 (List.mem_of_getElem? (i := 1) rfl) rfl), (gt_4 (List.mem_of_getElem? (i := 238) rfl) rfl), by decide⟩
theorem wX11_comes : pm_MW mX11_comes 3 := ⟨by decide +kernel, by decide +kernel, (gt_1 (List.mem_of_getElem? (i := 1) rfl) rfl), (gt_5 (List.mem_of_getElem? (i := 16) rfl) rfl), by decide⟩
theorem wX11_best : pm_MW mX11_best 4 := ⟨by decide +kernel, by decide +kernel, (gt_1 (List.mem_of_getElem? (i := 1) rfl) rfl), (gt_5 (List.mem_of_getElem? (i := 32) rfl) rfl), by decide⟩
theorem wX11_rows : pm_MW mX11_rows 3 := ⟨by decide +kernel, by decide +kernel, (gt_1 (List.mem_of_getElem? (i := 1) rfl) rfl), (gt_5 (List.mem_of_getElem? (i := 50) rfl) rfl), by decide⟩
theorem wX11_thriftiest : pm_MW mX11_thriftiest 2 := ⟨by decide +kernel, by decide +kernel, (gt_1 (List.mem_of_getElem? (i := 1) rfl) rfl), (gt_5 (List.mem_of_getElem? (i := 70) rfl) rfl), by decide⟩
theorem wX11_least : pm_MW mX11_least 4 := ⟨by decide +kernel, by decide +kernel, (gt_1 (List.mem_of_getElem? (i := 1) rfl) rfl), (gt_5 (List.mem_of_getElem? (i := 88) rfl) rfl), by decide⟩
theorem wX11_squarest : pm_MW mX11_squarest 2 := ⟨by decide +kernel, by decide +kernel, (gt_1 (List.mem_of_getElem? (i := 1) rfl) rfl), (gt_5 (List.mem_of_getElem? (i := 93) rfl) rfl), by decide⟩
theorem wX11_order : pm_MW mX11_order 4 := ⟨by decide +kernel, by decide +kernel, (gt_1 (List.mem_of_getElem? (i := 1) rfl) rfl), (gt_5 (List.mem_of_getElem? (i := 98) rfl) rfl), by decide⟩
theorem wX11_mostPieces : pm_MW mX11_mostPieces 2 := ⟨by decide +kernel, by decide +kernel, (gt_1 (List.mem_of_getElem? (i := 1) rfl) rfl), (gt_5 (List.mem_of_getElem? (i := 126) rfl) rfl), by decide⟩
theorem wX11_gladdest : pm_MW mX11_gladdest 1 := ⟨by decide +kernel, by decide +kernel, (gt_1 (List.mem_of_getElem? (i := 1) rfl) rfl), (gt_5 (List.mem_of_getElem? (i := 145) rfl) rfl), by decide⟩
theorem wX11_lends : pm_MW mX11_lends 4 := ⟨by decide +kernel, by decide +kernel, (gt_1 (List.mem_of_getElem? (i := 1) rfl) rfl), (gt_5 (List.mem_of_getElem? (i := 149) rfl) rfl), by decide⟩
theorem wX11_reply : pm_MW mX11_reply 4 := ⟨by decide +kernel, by decide +kernel, (gt_1 (List.mem_of_getElem? (i := 1) rfl) rfl), (gt_5 (List.mem_of_getElem? (i := 153) rfl) rfl), by decide⟩
theorem wX11_heard : pm_MW mX11_heard 4 := ⟨by decide +kernel, by decide +kernel, (gt_1 (List.mem_of_getElem? (i := 1) rfl) rfl), (gt_5 (List.mem_of_getElem? (i := 158) rfl) rfl), by decide⟩
theorem wX11_sure : pm_MW mX11_sure 5 := ⟨by decide +kernel, by decide +kernel, (gt_1 (List.mem_of_getElem? (i := 1) rfl) rfl), (gt_5 (List.mem_of_getElem? (i := 170) rfl) rfl), by decide⟩
theorem wX11_tempers : pm_MW mX11_tempers 3 := ⟨by decide +kernel, by decide +kernel, (gt_1 (List.mem_of_getElem? (i := 1) rfl) rfl), (gt_5 (List.mem_of_getElem? (i := 175) rfl) rfl), by decide⟩
theorem wX11_next : pm_MW mX11_next 3 := ⟨by decide +kernel, by decide +kernel, (gt_1 (List.mem_of_getElem? (i := 1) rfl) rfl), (gt_5 (List.mem_of_getElem? (i := 189) rfl) rfl), by decide⟩
theorem wX11_chance : pm_MW mX11_chance 4 := ⟨by decide +kernel, by decide +kernel, (gt_1 (List.mem_of_getElem? (i := 1) rfl) rfl), (gt_5 (List.mem_of_getElem? (i := 197) rfl) rfl), by decide⟩
theorem wX11_putBy : pm_MW mX11_putBy 3 := ⟨by decide +kernel, by decide +kernel, (gt_1 (List.mem_of_getElem? (i := 1) rfl) rfl), (gt_5 (List.mem_of_getElem? (i := 223) rfl) rfl), by decide⟩
theorem wX11_numbers : pm_MW mX11_numbers 3 := ⟨by decide +kernel, by decide +kernel, (gt_1 (List.mem_of_getElem? (i := 1) rfl) rfl), (gt_5 (List.mem_of_getElem? (i := 228) rfl) rfl), by decide⟩
theorem wX11_write : pm_MW mX11_write 3 := ⟨by decide +kernel, by decide +kernel, (gt_1 (List.mem_of_getElem? (i := 1) rfl) rfl), (gt_5 (List.mem_of_getElem? (i := 239) rfl) rfl), by decide⟩
theorem wX11_lists : pm_MW mX11_lists 4 := ⟨by decide +kernel, by decide +kernel, (gt_1 (List.mem_of_getElem? (i := 1) rfl) rfl), (gt_6 (List.mem_of_getElem? (i := 13) rfl) rfl), by decide⟩
theorem wX11_image : pm_MW mX11_image 1 := ⟨by decide +kernel, by decide +kernel, (gt_1 (List.mem_of_getElem? (i := 1) rfl) rfl), (gt_6 (List.mem_of_getElem? (i := 18) rfl) rfl), by decide⟩
theorem wX11_restore : pm_MW mX11_restore 1 := ⟨by decide +kernel, by decide +kernel, (gt_1 (List.mem_of_getElem? (i := 1) rfl) rfl), (gt_6 (List.mem_of_getElem? (i := 22) rfl) rfl), by decide⟩
theorem wX11_count : pm_MW mX11_count 1 := ⟨by decide +kernel, by decide +kernel, (gt_1 (List.mem_of_getElem? (i := 1) rfl) rfl), (gt_6 (List.mem_of_getElem? (i := 26) rfl) rfl), by decide⟩
theorem wX11_feedFour : pm_MW mX11_feedFour 1 := ⟨by decide +kernel, by decide +kernel, (gt_1 (List.mem_of_getElem? (i := 1) rfl) rfl), (gt_3 (List.mem_of_getElem? (i := 5) rfl) rfl), by decide⟩
theorem wX11_spareSheet : pm_MW mX11_spareSheet 0 := ⟨by decide +kernel, by decide +kernel, (gt_1 (List.mem_of_getElem? (i := 1) rfl) rfl), (gt_3 (List.mem_of_getElem? (i := 14) rfl) rfl), by decide⟩
theorem wX11_useSheet : pm_MW mX11_useSheet 1 := ⟨by decide +kernel, by decide +kernel, (gt_1 (List.mem_of_getElem? (i := 1) rfl) rfl), (gt_3 (List.mem_of_getElem? (i := 200) rfl) rfl), by decide⟩
theorem wX11_hasBoth : pm_MW mX11_hasBoth 2 := ⟨by decide +kernel, by decide +kernel, (gt_1 (List.mem_of_getElem? (i := 1) rfl) rfl), (gt_5 (List.mem_of_getElem? (i := 20) rfl) rfl), by decide⟩
theorem wX11_isStore : pm_MW mX11_isStore 1 := ⟨by decide +kernel, by decide +kernel, (gt_1 (List.mem_of_getElem? (i := 1) rfl) rfl), (gt_5 (List.mem_of_getElem? (i := 35) rfl) rfl), by decide⟩
theorem wX11_isDraw : pm_MW mX11_isDraw 1 := ⟨by decide +kernel, by decide +kernel, (gt_1 (List.mem_of_getElem? (i := 1) rfl) rfl), (gt_4 (List.mem_of_getElem? (i := 30) rfl) rfl), by decide⟩
theorem wX11_isTray : pm_MW mX11_isTray 1 := ⟨by decide +kernel, by decide +kernel, (gt_1 (List.mem_of_getElem? (i := 1) rfl) rfl), (gt_4 (List.mem_of_getElem? (i := 203) rfl) rfl), by decide⟩
theorem wX11_isOfRow : pm_MW mX11_isOfRow 1 := ⟨by decide +kernel, by decide +kernel, (gt_1 (List.mem_of_getElem? (i := 1) rfl) rfl), (gt_5 (List.mem_of_getElem? (i := 23) rfl) rfl), by decide⟩
theorem wX11_bitOf : pm_MW mX11_bitOf 1 := ⟨by decide +kernel, by decide +kernel, (gt_1 (List.mem_of_getElem? (i := 1) rfl) rfl), (gt_4 (List.mem_of_getElem? (i := 148) rfl) rfl), by decide⟩
theorem wX11_takeUp : pm_MW mX11_takeUp 2 := ⟨by decide +kernel, by decide +kernel, (gt_1 (List.mem_of_getElem? (i := 1) rfl) rfl), (gt_4 (List.mem_of_getElem? (i := 34) rfl) rfl), by decide⟩
theorem wX11_findBest : pm_MW mX11_findBest 4 := ⟨by decide +kernel, by decide +kernel, (gt_1 (List.mem_of_getElem? (i := 1) rfl) rfl), (gt_5 (List.mem_of_getElem? (i := 39) rfl) rfl), by decide⟩
theorem wX11_endsOf : pm_MW mX11_endsOf 2 := ⟨by decide +kernel, by decide +kernel, (gt_1 (List.mem_of_getElem? (i := 1) rfl) rfl), (gt_5 (List.mem_of_getElem? (i := 74) rfl) rfl), by decide⟩
theorem wX11_refuseHeard : pm_MW mX11_refuseHeard 3 := ⟨by decide +kernel, by decide +kernel, (gt_1 (List.mem_of_getElem? (i := 1) rfl) rfl), (gt_5 (List.mem_of_getElem? (i := 162) rfl) rfl), by decide⟩
theorem wX11_tempersHeard : pm_MW mX11_tempersHeard 2 := ⟨by decide +kernel, by decide +kernel, (gt_1 (List.mem_of_getElem? (i := 1) rfl) rfl), (gt_5 (List.mem_of_getElem? (i := 179) rfl) rfl), by decide⟩
theorem wX11_mostAlike : pm_MW mX11_mostAlike 3 := ⟨by decide +kernel, by decide +kernel, (gt_1 (List.mem_of_getElem? (i := 1) rfl) rfl), (gt_5 (List.mem_of_getElem? (i := 193) rfl) rfl), by decide⟩
theorem wX11_commonDivisor : pm_MW mX11_commonDivisor 2 := ⟨by decide +kernel, by decide +kernel, (gt_1 (List.mem_of_getElem? (i := 1) rfl) rfl), (gt_5 (List.mem_of_getElem? (i := 219) rfl) rfl), by decide⟩
theorem wX12_within : pm_MW mX12_within 3 := ⟨by decide +kernel, by decide +kernel, (gt_1 (List.mem_of_getElem? (i := 14) rfl) rfl), (gt_6 (List.mem_of_getElem? (i := 171) rfl) rfl), by decide⟩
theorem wX12_init : pm_MW mX12_init 0 := ⟨by decide +kernel, by decide +kernel, (gt_1 (List.mem_of_getElem? (i := 14) rfl) rfl), (gt_6 (List.mem_of_getElem? (i := 36) rfl) rfl), by decide⟩
theorem wX12_plain : pm_MW mX12_plain 1 := ⟨by decide +kernel, by decide +kernel, (gt_1 (List.mem_of_getElem? (i := 14) rfl) rfl), (gt_6 (List.mem_of_getElem? (i := 40) rfl) rfl), by decide⟩
theorem wX12_feed : pm_MW mX12_feed 5 := ⟨by decide +kernel, by decide +kernel, (gt_1 (List.mem_of_getElem? (i := 14) rfl) rfl), (gt_6 (List.mem_of_getElem? (i := 163) rfl) rfl), by decide⟩
theorem wX12_see : pm_MW mX12_see 1 := ⟨by decide +kernel, by decide +kernel, (gt_1 (List.mem_of_getElem? (i := 14) rfl) rfl), (gt_6 (List.mem_of_getElem? (i := 180) rfl) rfl), by decide⟩
theorem wX12_isSmall : pm_MW mX12_isSmall 1 := ⟨by decide +kernel, by decide +kernel, (gt_1 (List.mem_of_getElem? (i := 14) rfl) rfl), (gt_6 (List.mem_of_getElem? (i := 183) rfl) rfl), by decide⟩
theorem wX12_isDigit : pm_MW mX12_isDigit 1 := ⟨by decide +kernel, by decide +kernel, (gt_1 (List.mem_of_getElem? (i := 14) rfl) rfl), (gt_6 (List.mem_of_getElem? (i := 193) rfl) rfl), by decide⟩
theorem wX12_keyAt : pm_MW mX12_keyAt 0 := ⟨by decide +kernel, by decide +kernel, (gt_1 (List.mem_of_getElem? (i := 14) rfl) rfl), (gt_6 (List.mem_of_getElem? (i := 187) rfl) rfl), by decide⟩
theorem wX12_nextToken : pm_MW mX12_nextToken 0 := ⟨by decide +kernel, by decide +kernel, (gt_1 (List.mem_of_getElem? (i := 14) rfl) rfl), (gt_6 (List.mem_of_getElem? (i := 176) rfl) rfl), by decide⟩
theorem wX12_fails : pm_MW mX12_fails 1 := ⟨by decide +kernel, by decide +kernel, (gt_1 (List.mem_of_getElem? (i := 14) rfl) rfl), (gt_6 (List.mem_of_getElem? (i := 206) rfl) rfl), by decide⟩
theorem wX12_is : pm_MW mX12_is 1 := ⟨by decide +kernel, by decide +kernel, (gt_1 (List.mem_of_getElem? (i := 14) rfl) rfl), (gt_6 (List.mem_of_getElem? (i := 202) rfl) rfl), by decide⟩
theorem wX12_eats : pm_MW mX12_eats 1 := ⟨by decide +kernel, by decide +kernel, (gt_1 (List.mem_of_getElem? (i := 14) rfl) rfl), (gt_6 (List.mem_of_getElem? (i := 198) rfl) rfl), by decide⟩
theorem wX12_takes : pm_MW mX12_takes 2 := ⟨by decide +kernel, by decide +kernel, (gt_1 (List.mem_of_getElem? (i := 14) rfl) rfl), (gt_6 (List.mem_of_getElem? (i := 222) rfl) rfl), by decide⟩
theorem wX12_isIn : pm_MW mX12_isIn 2 := ⟨by decide +kernel, by decide +kernel, (gt_1 (List.mem_of_getElem? (i := 14) rfl) rfl), (gt_7 (List.mem_of_getElem? (i := 99) rfl) rfl), by decide⟩
theorem wX12_wordOf : pm_MW mX12_wordOf 1 := ⟨by decide +kernel, by decide +kernel, (gt_1 (List.mem_of_getElem? (i := 14) rfl) rfl), (gt_7 (List.mem_of_getElem? (i := 14) rfl) rfl), by decide⟩
theorem wX12_codes : pm_MW mX12_codes 1 := ⟨by decide +kernel, by decide +kernel, (gt_1 (List.mem_of_getElem? (i := 14) rfl) rfl), (gt_7 (List.mem_of_getElem? (i := 10) rfl) rfl), by decide⟩
theorem wX12_goesIn : pm_MW mX12_goesIn 1 := ⟨by decide +kernel, by decide +kernel, (gt_1 (List.mem_of_getElem? (i := 14) rfl) rfl), (gt_7 (List.mem_of_getElem? (i := 20) rfl) rfl), by decide⟩
theorem wX12_readAtom : pm_MW mX12_readAtom 1 := ⟨by decide +kernel, by decide +kernel, (gt_1 (List.mem_of_getElem? (i := 14) rfl) rfl), (gt_7 (List.mem_of_getElem? (i := 6) rfl) rfl), by decide⟩
theorem wX12_readTerm : pm_MW mX12_readTerm 1 := ⟨by decide +kernel, by decide +kernel, (gt_1 (List.mem_of_getElem? (i := 14) rfl) rfl), (gt_7 (List.mem_of_getElem? (i := 2) rfl) rfl), by decide⟩
theorem wX12_readSum : pm_MW mX12_readSum 1 := ⟨by decide +kernel, by decide +kernel, (gt_1 (List.mem_of_getElem? (i := 14) rfl) rfl), (gt_6 (List.mem_of_getElem? (i := 238) rfl) rfl), by decide⟩
theorem wX12_readUnit : pm_MW mX12_readUnit 1 := ⟨by decide +kernel, by decide +kernel, (gt_1 (List.mem_of_getElem? (i := 14) rfl) rfl), (gt_7 (List.mem_of_getElem? (i := 32) rfl) rfl), by decide⟩
theorem wX12_readBoth : pm_MW mX12_readBoth 1 := ⟨by decide +kernel, by decide +kernel, (gt_1 (List.mem_of_getElem? (i := 14) rfl) rfl), (gt_7 (List.mem_of_getElem? (i := 28) rfl) rfl), by decide⟩
theorem wX12_readTruth : pm_MW mX12_readTruth 1 := ⟨by decide +kernel, by decide +kernel, (gt_1 (List.mem_of_getElem? (i := 14) rfl) rfl), (gt_7 (List.mem_of_getElem? (i := 24) rfl) rfl), by decide⟩
theorem wX12_readPiece : pm_MW mX12_readPiece 0 := ⟨by decide +kernel, by decide +kernel, (gt_1 (List.mem_of_getElem? (i := 14) rfl) rfl), (gt_6 (List.mem_of_getElem? (i := 218) rfl) rfl), by decide⟩
theorem wX12_readFlag : pm_MW mX12_readFlag 1 := ⟨by decide +kernel, by decide +kernel, (gt_1 (List.mem_of_getElem? (i := 14) rfl) rfl), (gt_6 (List.mem_of_getElem? (i := 230) rfl) rfl), by decide⟩
theorem wX12_readPlayer : pm_MW mX12_readPlayer 0 := ⟨by decide +kernel, by decide +kernel, (gt_1 (List.mem_of_getElem? (i := 14) rfl) rfl), (gt_6 (List.mem_of_getElem? (i := 226) rfl) rfl), by decide⟩
theorem wX12_readLaw : pm_MW mX12_readLaw 1 := ⟨by decide +kernel, by decide +kernel, (gt_1 (List.mem_of_getElem? (i := 14) rfl) rfl), (gt_6 (List.mem_of_getElem? (i := 234) rfl) rfl), by decide⟩
theorem wX12_readLine : pm_MW mX12_readLine 0 := ⟨by decide +kernel, by decide +kernel, (gt_1 (List.mem_of_getElem? (i := 14) rfl) rfl), (gt_6 (List.mem_of_getElem? (i := 214) rfl) rfl), by decide⟩
theorem wX12_ends : pm_MW mX12_ends 0 := ⟨by decide +kernel, by decide +kernel, (gt_1 (List.mem_of_getElem? (i := 14) rfl) rfl), (gt_6 (List.mem_of_getElem? (i := 210) rfl) rfl), by decide⟩
theorem wX12_desk : pm_MW mX12_desk 1 := ⟨by decide +kernel, by decide +kernel, (gt_1 (List.mem_of_getElem? (i := 14) rfl) rfl), (gt_6 (List.mem_of_getElem? (i := 168) rfl) rfl), by decide⟩
theorem wX12_fault : pm_MW mX12_fault 1 := ⟨by decide +kernel, by decide +kernel, (gt_1 (List.mem_of_getElem? (i := 14) rfl) rfl), (gt_7 (List.mem_of_getElem? (i := 37) rfl) rfl), by decide⟩
theorem wX12_isPiece : pm_MW mX12_isPiece 1 := ⟨by decide +kernel, by decide +kernel, (gt_1 (List.mem_of_getElem? (i := 14) rfl) rfl), (gt_7 (List.mem_of_getElem? (i := 58) rfl) rfl), by decide⟩
theorem wX12_isPlayer : pm_MW mX12_isPlayer 1 := ⟨by decide +kernel, by decide +kernel, (gt_1 (List.mem_of_getElem? (i := 14) rfl) rfl), (gt_7 (List.mem_of_getElem? (i := 45) rfl) rfl), by decide⟩
theorem wX12_isStore : pm_MW mX12_isStore 1 := ⟨by decide +kernel, by decide +kernel, (gt_1 (List.mem_of_getElem? (i := 14) rfl) rfl), (gt_7 (List.mem_of_getElem? (i := 126) rfl) rfl), by decide⟩
theorem wX12_isDraw : pm_MW mX12_isDraw 1 := ⟨by decide +kernel, by decide +kernel, (gt_1 (List.mem_of_getElem? (i := 14) rfl) rfl), (gt_7 (List.mem_of_getElem? (i := 69) rfl) rfl), by decide⟩
theorem wX12_bitsOf : pm_MW mX12_bitsOf 1 := ⟨by decide +kernel, by decide +kernel, (gt_1 (List.mem_of_getElem? (i := 14) rfl) rfl), (gt_8 (List.mem_of_getElem? (i := 130) rfl) rfl), by decide⟩
theorem wX12_between : pm_MW mX12_between 3 := ⟨by decide +kernel, by decide +kernel, (gt_1 (List.mem_of_getElem? (i := 14) rfl) rfl), (gt_7 (List.mem_of_getElem? (i := 86) rfl) rfl), by decide⟩
theorem wX12_reckons : pm_MW mX12_reckons 1 := ⟨by decide +kernel, by decide +kernel, (gt_1 (List.mem_of_getElem? (i := 14) rfl) rfl), (gt_7 (List.mem_of_getElem? (i := 83) rfl) rfl), by decide⟩
theorem wX12_asks : pm_MW mX12_asks 6 := ⟨by decide +kernel, by decide +kernel, (gt_1 (List.mem_of_getElem? (i := 14) rfl) rfl), (gt_7 (List.mem_of_getElem? (i := 79) rfl) rfl), by decide⟩
theorem wX12_gladBy : pm_MW mX12_gladBy 6 := ⟨by decide +kernel, by decide +kernel, (gt_1 (List.mem_of_getElem? (i := 14) rfl) rfl), (gt_7 (List.mem_of_getElem? (i := 75) rfl) rfl), by decide⟩
theorem wX12_mayDraw : pm_MW mX12_mayDraw 6 := ⟨by decide +kernel, by decide +kernel, (gt_1 (List.mem_of_getElem? (i := 14) rfl) rfl), (gt_7 (List.mem_of_getElem? (i := 123) rfl) rfl), by decide⟩
theorem wX12_player : pm_MW mX12_player 2 := ⟨by decide +kernel, by decide +kernel, (gt_1 (List.mem_of_getElem? (i := 14) rfl) rfl), (gt_7 (List.mem_of_getElem? (i := 41) rfl) rfl), by decide⟩
theorem wX12_isBar : pm_MW mX12_isBar 2 := ⟨by decide +kernel, by decide +kernel, (gt_1 (List.mem_of_getElem? (i := 14) rfl) rfl), (gt_7 (List.mem_of_getElem? (i := 54) rfl) rfl), by decide⟩
theorem wX12_wants : pm_MW mX12_wants 2 := ⟨by decide +kernel, by decide +kernel, (gt_1 (List.mem_of_getElem? (i := 14) rfl) rfl), (gt_7 (List.mem_of_getElem? (i := 50) rfl) rfl), by decide⟩
theorem wX12_bars : pm_MW mX12_bars 1 := ⟨by decide +kernel, by decide +kernel, (gt_1 (List.mem_of_getElem? (i := 14) rfl) rfl), (gt_7 (List.mem_of_getElem? (i := 62) rfl) rfl), by decide⟩
theorem wX12_glad : pm_MW mX12_glad 5 := ⟨by decide +kernel, by decide +kernel, (gt_1 (List.mem_of_getElem? (i := 14) rfl) rfl), (gt_7 (List.mem_of_getElem? (i := 66) rfl) rfl), by decide⟩
theorem wX12_spot : pm_MW mX12_spot 3 := ⟨by decide +kernel, by decide +kernel, (gt_1 (List.mem_of_getElem? (i := 14) rfl) rfl), (gt_7 (List.mem_of_getElem? (i := 119) rfl) rfl), by decide⟩
theorem wX12_gladAt : pm_MW mX12_gladAt 4 := ⟨by decide +kernel, by decide +kernel, (gt_1 (List.mem_of_getElem? (i := 14) rfl) rfl), (gt_7 (List.mem_of_getElem? (i := 137) rfl) rfl), by decide⟩
theorem wX12_laysGlads : pm_MW mX12_laysGlads 2 := ⟨by decide +kernel, by decide +kernel, (gt_1 (List.mem_of_getElem? (i := 14) rfl) rfl), (gt_7 (List.mem_of_getElem? (i := 112) rfl) rfl), by decide⟩
theorem wX12_laysGlad : pm_MW mX12_laysGlad 5 := ⟨by decide +kernel, by decide +kernel, (gt_1 (List.mem_of_getElem? (i := 14) rfl) rfl), (gt_7 (List.mem_of_getElem? (i := 116) rfl) rfl), by decide⟩
theorem wX12_isKept : pm_MW mX12_isKept 2 := ⟨by decide +kernel, by decide +kernel, (gt_1 (List.mem_of_getElem? (i := 14) rfl) rfl), (gt_7 (List.mem_of_getElem? (i := 179) rfl) rfl), by decide⟩
theorem wX12_keepsAny : pm_MW mX12_keepsAny 0 := ⟨by decide +kernel, by decide +kernel, (gt_1 (List.mem_of_getElem? (i := 14) rfl) rfl), (gt_7 (List.mem_of_getElem? (i := 163) rfl) rfl), by decide⟩
theorem wX12_goesBy : pm_MW mX12_goesBy 4 := ⟨by decide +kernel, by decide +kernel, (gt_1 (List.mem_of_getElem? (i := 14) rfl) rfl), (gt_7 (List.mem_of_getElem? (i := 175) rfl) rfl), by decide⟩
theorem wX12_laysToGo : pm_MW mX12_laysToGo 2 := ⟨by decide +kernel, by decide +kernel, (gt_1 (List.mem_of_getElem? (i := 14) rfl) rfl), (gt_7 (List.mem_of_getElem? (i := 167) rfl) rfl), by decide⟩
theorem wX12_mostBy : pm_MW mX12_mostBy 3 := ⟨by decide +kernel, by decide +kernel, (gt_1 (List.mem_of_getElem? (i := 14) rfl) rfl), (gt_7 (List.mem_of_getElem? (i := 171) rfl) rfl), by decide⟩
theorem wX12_laysRow : pm_MW mX12_laysRow 2 := ⟨by decide +kernel, by decide +kernel, (gt_1 (List.mem_of_getElem? (i := 14) rfl) rfl), (gt_7 (List.mem_of_getElem? (i := 183) rfl) rfl), by decide⟩
theorem wX12_laysBest : pm_MW mX12_laysBest 3 := ⟨by decide +kernel, by decide +kernel, (gt_1 (List.mem_of_getElem? (i := 14) rfl) rfl), (gt_7 (List.mem_of_getElem? (i := 159) rfl) rfl), by decide⟩
theorem wX12_naturally : pm_MW mX12_naturally 3 := ⟨by decide +kernel, by decide +kernel, (gt_1 (List.mem_of_getElem? (i := 14) rfl) rfl), (gt_7 (List.mem_of_getElem? (i := 133) rfl) rfl), by decide⟩
theorem wX12_laysComes : pm_MW mX12_laysComes 2 := ⟨by decide +kernel, by decide +kernel, (gt_1 (List.mem_of_getElem? (i := 14) rfl) rfl), (gt_7 (List.mem_of_getElem? (i := 108) rfl) rfl), by decide⟩
theorem wX12_rowAt : pm_MW mX12_rowAt 2 := ⟨by decide +kernel, by decide +kernel, (gt_1 (List.mem_of_getElem? (i := 14) rfl) rfl), (gt_8 (List.mem_of_getElem? (i := 44) rfl) rfl), by decide⟩
theorem wX12_keeps : pm_MW mX12_keeps 0 := ⟨by decide +kernel, by decide +kernel, (gt_1 (List.mem_of_getElem? (i := 14) rfl) rfl), (gt_7 (List.mem_of_getElem? (i := 104) rfl) rfl), by decide⟩
theorem wX12_isAgain : pm_MW mX12_isAgain 0 := ⟨by decide +kernel, by decide +kernel, (gt_1 (List.mem_of_getElem? (i := 14) rfl) rfl), (gt_8 (List.mem_of_getElem? (i := 11) rfl) rfl), by decide⟩
theorem wX12_notes : pm_MW mX12_notes 0 := ⟨by decide +kernel, by decide +kernel, (gt_1 (List.mem_of_getElem? (i := 14) rfl) rfl), (gt_7 (List.mem_of_getElem? (i := 147) rfl) rfl), by decide⟩
theorem wX12_whyPlay : pm_MW mX12_whyPlay 2 := ⟨by decide +kernel, by decide +kernel, (gt_1 (List.mem_of_getElem? (i := 14) rfl) rfl), (gt_7 (List.mem_of_getElem? (i := 96) rfl) rfl), by decide⟩
theorem wX12_whyBest : pm_MW mX12_whyBest 2 := ⟨by decide +kernel, by decide +kernel, (gt_1 (List.mem_of_getElem? (i := 14) rfl) rfl), (gt_7 (List.mem_of_getElem? (i := 155) rfl) rfl), by decide⟩
theorem wX12_whyLend : pm_MW mX12_whyLend 3 := ⟨by decide +kernel, by decide +kernel, (gt_1 (List.mem_of_getElem? (i := 14) rfl) rfl), (gt_7 (List.mem_of_getElem? (i := 191) rfl) rfl), by decide⟩
theorem wX12_plays : pm_MW mX12_plays 1 := ⟨by decide +kernel, by decide +kernel, (gt_1 (List.mem_of_getElem? (i := 14) rfl) rfl), (gt_7 (List.mem_of_getElem? (i := 141) rfl) rfl), by decide⟩
theorem wX12_lends1 : pm_MW mX12_lends1 3 := ⟨by decide +kernel, by decide +kernel, (gt_1 (List.mem_of_getElem? (i := 14) rfl) rfl), (gt_7 (List.mem_of_getElem? (i := 196) rfl) rfl), by decide⟩
theorem wX12_goesFriday : pm_MW mX12_goesFriday 0 := ⟨by decide +kernel, by decide +kernel, (gt_1 (List.mem_of_getElem? (i := 14) rfl) rfl), (gt_7 (List.mem_of_getElem? (i := 210) rfl) rfl), by decide⟩
theorem wX12_play : pm_MW mX12_play 2 := ⟨by decide +kernel, by decide +kernel, (gt_1 (List.mem_of_getElem? (i := 14) rfl) rfl), (gt_7 (List.mem_of_getElem? (i := 92) rfl) rfl), by decide⟩
theorem wX12_perform : pm_MW mX12_perform 2 := ⟨by decide +kernel, by decide +kernel, (gt_1 (List.mem_of_getElem? (i := 14) rfl) rfl), (gt_7 (List.mem_of_getElem? (i := 151) rfl) rfl), by decide⟩
theorem wX12_lend : pm_MW mX12_lend 3 := ⟨by decide +kernel, by decide +kernel, (gt_1 (List.mem_of_getElem? (i := 14) rfl) rfl), (gt_7 (List.mem_of_getElem? (i := 187) rfl) rfl), by decide⟩
theorem wX12_temper : pm_MW mX12_temper 2 := ⟨by decide +kernel, by decide +kernel, (gt_1 (List.mem_of_getElem? (i := 14) rfl) rfl), (gt_7 (List.mem_of_getElem? (i := 200) rfl) rfl), by decide⟩
theorem wX12_friday : pm_MW mX12_friday 0 := ⟨by decide +kernel, by decide +kernel, (gt_1 (List.mem_of_getElem? (i := 14) rfl) rfl), (gt_7 (List.mem_of_getElem? (i := 206) rfl) rfl), by decide⟩
theorem wX12_undo : pm_MW mX12_undo 1 := ⟨by decide +kernel, by decide +kernel, (gt_1 (List.mem_of_getElem? (i := 14) rfl) rfl), (gt_7 (List.mem_of_getElem? (i := 214) rfl) rfl), by decide⟩
theorem wX12_whyNot : pm_MW mX12_whyNot 1 := ⟨by decide +kernel, by decide +kernel, (gt_1 (List.mem_of_getElem? (i := 14) rfl) rfl), (gt_7 (List.mem_of_getElem? (i := 233) rfl) rfl), by decide⟩
theorem wX12_acts : pm_MW mX12_acts 1 := ⟨by decide +kernel, by decide +kernel, (gt_1 (List.mem_of_getElem? (i := 14) rfl) rfl), (gt_8 (List.mem_of_getElem? (i := 3) rfl) rfl), by decide⟩
theorem wX12_tells : pm_MW mX12_tells 1 := ⟨by decide +kernel, by decide +kernel, (gt_1 (List.mem_of_getElem? (i := 14) rfl) rfl), (gt_7 (List.mem_of_getElem? (i := 229) rfl) rfl), by decide⟩
theorem wX12_noTray : pm_MW mX12_noTray 1 := ⟨by decide +kernel, by decide +kernel, (gt_1 (List.mem_of_getElem? (i := 14) rfl) rfl), (gt_7 (List.mem_of_getElem? (i := 224) rfl) rfl), by decide⟩
theorem wX12_sumOf : pm_MW mX12_sumOf 1 := ⟨by decide +kernel, by decide +kernel, (gt_1 (List.mem_of_getElem? (i := 14) rfl) rfl), (gt_8 (List.mem_of_getElem? (i := 7) rfl) rfl), by decide⟩
theorem wX12_judge : pm_MW mX12_judge 2 := ⟨by decide +kernel, by decide +kernel, (gt_1 (List.mem_of_getElem? (i := 14) rfl) rfl), (gt_7 (List.mem_of_getElem? (i := 219) rfl) rfl), by decide⟩
theorem wX12_does : pm_MW mX12_does 1 := ⟨by decide +kernel, by decide +kernel, (gt_1 (List.mem_of_getElem? (i := 14) rfl) rfl), (gt_8 (List.mem_of_getElem? (i := 15) rfl) rfl), by decide⟩
theorem wX12_draw : pm_MW mX12_draw 1 := ⟨by decide +kernel, by decide +kernel, (gt_1 (List.mem_of_getElem? (i := 14) rfl) rfl), (gt_8 (List.mem_of_getElem? (i := 27) rfl) rfl), by decide⟩
theorem wX12_goesDrawn : pm_MW mX12_goesDrawn 0 := ⟨by decide +kernel, by decide +kernel, (gt_1 (List.mem_of_getElem? (i := 14) rfl) rfl), (gt_8 (List.mem_of_getElem? (i := 23) rfl) rfl), by decide⟩
theorem wX12_term : pm_MW mX12_term 2 := ⟨by decide +kernel, by decide +kernel, (gt_1 (List.mem_of_getElem? (i := 14) rfl) rfl), (gt_8 (List.mem_of_getElem? (i := 19) rfl) rfl), by decide⟩
theorem wX12_isTold : pm_MW mX12_isTold 2 := ⟨by decide +kernel, by decide +kernel, (gt_1 (List.mem_of_getElem? (i := 14) rfl) rfl), (gt_8 (List.mem_of_getElem? (i := 39) rfl) rfl), by decide⟩
theorem wX12_areBoth : pm_MW mX12_areBoth 2 := ⟨by decide +kernel, by decide +kernel, (gt_1 (List.mem_of_getElem? (i := 14) rfl) rfl), (gt_8 (List.mem_of_getElem? (i := 36) rfl) rfl), by decide⟩
theorem wX12_comes : pm_MW mX12_comes 3 := ⟨by decide +kernel, by decide +kernel, (gt_1 (List.mem_of_getElem? (i := 14) rfl) rfl), (gt_8 (List.mem_of_getElem? (i := 32) rfl) rfl), by decide⟩
theorem wX12_tellsRow : pm_MW mX12_tellsRow 3 := ⟨by decide +kernel, by decide +kernel, (gt_1 (List.mem_of_getElem? (i := 14) rfl) rfl), (gt_8 (List.mem_of_getElem? (i := 52) rfl) rfl), by decide⟩
theorem wX12_best : pm_MW mX12_best 4 := ⟨by decide +kernel, by decide +kernel, (gt_1 (List.mem_of_getElem? (i := 14) rfl) rfl), (gt_8 (List.mem_of_getElem? (i := 48) rfl) rfl), by decide⟩
theorem wX12_mark : pm_MW mX12_mark 2 := ⟨by decide +kernel, by decide +kernel, (gt_1 (List.mem_of_getElem? (i := 14) rfl) rfl), (gt_8 (List.mem_of_getElem? (i := 70) rfl) rfl), by decide⟩
theorem wX12_beginsMany : pm_MW mX12_beginsMany 1 := ⟨by decide +kernel, by decide +kernel, (gt_1 (List.mem_of_getElem? (i := 14) rfl) rfl), (gt_8 (List.mem_of_getElem? (i := 67) rfl) rfl), by decide⟩
theorem wX12_isThen : pm_MW mX12_isThen 0 := ⟨by decide +kernel, by decide +kernel, (gt_1 (List.mem_of_getElem? (i := 14) rfl) rfl), (gt_8 (List.mem_of_getElem? (i := 74) rfl) rfl), by decide⟩
theorem wX12_laysMany : pm_MW mX12_laysMany 2 := ⟨by decide +kernel, by decide +kernel, (gt_1 (List.mem_of_getElem? (i := 14) rfl) rfl), (gt_8 (List.mem_of_getElem? (i := 63) rfl) rfl), by decide⟩
theorem wX12_endsWith : pm_MW mX12_endsWith 1 := ⟨by decide +kernel, by decide +kernel, (gt_1 (List.mem_of_getElem? (i := 14) rfl) rfl), (gt_8 (List.mem_of_getElem? (i := 78) rfl) rfl), by decide⟩
theorem wX12_rows : pm_MW mX12_rows 3 := ⟨by decide +kernel, by decide +kernel, (gt_1 (List.mem_of_getElem? (i := 14) rfl) rfl), (gt_8 (List.mem_of_getElem? (i := 57) rfl) rfl), by decide⟩
theorem wX12_thriftiest : pm_MW mX12_thriftiest 2 := ⟨by decide +kernel, by decide +kernel, (gt_1 (List.mem_of_getElem? (i := 14) rfl) rfl), (gt_8 (List.mem_of_getElem? (i := 82) rfl) rfl), by decide⟩
theorem wX12_least : pm_MW mX12_least 4 := ⟨by decide +kernel, by decide +kernel, (gt_1 (List.mem_of_getElem? (i := 14) rfl) rfl), (gt_8 (List.mem_of_getElem? (i := 86) rfl) rfl), by decide⟩
theorem wX12_squarest : pm_MW mX12_squarest 2 := ⟨by decide +kernel, by decide +kernel, (gt_1 (List.mem_of_getElem? (i := 14) rfl) rfl), (gt_8 (List.mem_of_getElem? (i := 90) rfl) rfl), by decide⟩
theorem wX12_throughBy : pm_MW mX12_throughBy 3 := ⟨by decide +kernel, by decide +kernel, (gt_1 (List.mem_of_getElem? (i := 14) rfl) rfl), (gt_8 (List.mem_of_getElem? (i := 115) rfl) rfl), by decide⟩
theorem wX12_laysThrough : pm_MW mX12_laysThrough 1 := ⟨by decide +kernel, by decide +kernel, (gt_1 (List.mem_of_getElem? (i := 14) rfl) rfl), (gt_8 (List.mem_of_getElem? (i := 99) rfl) rfl), by decide⟩
theorem wX12_laysEnd : pm_MW mX12_laysEnd 2 := ⟨by decide +kernel, by decide +kernel, (gt_1 (List.mem_of_getElem? (i := 14) rfl) rfl), (gt_8 (List.mem_of_getElem? (i := 103) rfl) rfl), by decide⟩
theorem wX12_orderBy : pm_MW mX12_orderBy 4 := ⟨by decide +kernel, by decide +kernel, (gt_1 (List.mem_of_getElem? (i := 14) rfl) rfl), (gt_8 (List.mem_of_getElem? (i := 111) rfl) rfl), by decide⟩
theorem wX12_laysOrders : pm_MW mX12_laysOrders 1 := ⟨by decide +kernel, by decide +kernel, (gt_1 (List.mem_of_getElem? (i := 14) rfl) rfl), (gt_8 (List.mem_of_getElem? (i := 107) rfl) rfl), by decide⟩
theorem wX12_goesPiece : pm_MW mX12_goesPiece 2 := ⟨by decide +kernel, by decide +kernel, (gt_1 (List.mem_of_getElem? (i := 14) rfl) rfl), (gt_8 (List.mem_of_getElem? (i := 123) rfl) rfl), by decide⟩
theorem wX12_orderAt : pm_MW mX12_orderAt 3 := ⟨by decide +kernel, by decide +kernel, (gt_1 (List.mem_of_getElem? (i := 14) rfl) rfl), (gt_8 (List.mem_of_getElem? (i := 119) rfl) rfl), by decide⟩
theorem wX12_order : pm_MW mX12_order 4 := ⟨by decide +kernel, by decide +kernel, (gt_1 (List.mem_of_getElem? (i := 14) rfl) rfl), (gt_8 (List.mem_of_getElem? (i := 94) rfl) rfl), by decide⟩
theorem wX12_mostPieces : pm_MW mX12_mostPieces 2 := ⟨by decide +kernel, by decide +kernel, (gt_1 (List.mem_of_getElem? (i := 14) rfl) rfl), (gt_8 (List.mem_of_getElem? (i := 127) rfl) rfl), by decide⟩
theorem wX12_gladdest : pm_MW mX12_gladdest 1 := ⟨by decide +kernel, by decide +kernel, (gt_1 (List.mem_of_getElem? (i := 14) rfl) rfl), (gt_8 (List.mem_of_getElem? (i := 134) rfl) rfl), by decide⟩
theorem wX12_lends : pm_MW mX12_lends 4 := ⟨by decide +kernel, by decide +kernel, (gt_1 (List.mem_of_getElem? (i := 14) rfl) rfl), (gt_8 (List.mem_of_getElem? (i := 138) rfl) rfl), by decide⟩
theorem wX12_reply : pm_MW mX12_reply 4 := ⟨by decide +kernel, by decide +kernel, (gt_1 (List.mem_of_getElem? (i := 14) rfl) rfl), (gt_8 (List.mem_of_getElem? (i := 142) rfl) rfl), by decide⟩
theorem wX12_noHeard : pm_MW mX12_noHeard 3 := ⟨by decide +kernel, by decide +kernel, (gt_1 (List.mem_of_getElem? (i := 14) rfl) rfl), (gt_8 (List.mem_of_getElem? (i := 150) rfl) rfl), by decide⟩
theorem wX12_isEnd : pm_MW mX12_isEnd 1 := ⟨by decide +kernel, by decide +kernel, (gt_1 (List.mem_of_getElem? (i := 14) rfl) rfl), (gt_8 (List.mem_of_getElem? (i := 154) rfl) rfl), by decide⟩
theorem wX12_heardBy : pm_MW mX12_heardBy 6 := ⟨by decide +kernel, by decide +kernel, (gt_1 (List.mem_of_getElem? (i := 14) rfl) rfl), (gt_8 (List.mem_of_getElem? (i := 158) rfl) rfl), by decide⟩
theorem wX12_heard : pm_MW mX12_heard 4 := ⟨by decide +kernel, by decide +kernel, (gt_1 (List.mem_of_getElem? (i := 14) rfl) rfl), (gt_8 (List.mem_of_getElem? (i := 146) rfl) rfl), by decide⟩
theorem wX12_sure : pm_MW mX12_sure 5 := ⟨by decide +kernel, by decide +kernel, (gt_1 (List.mem_of_getElem? (i := 14) rfl) rfl), (gt_8 (List.mem_of_getElem? (i := 162) rfl) rfl), by decide⟩
theorem wX12_tempersOf : pm_MW mX12_tempersOf 3 := ⟨by decide +kernel, by decide +kernel, (gt_1 (List.mem_of_getElem? (i := 14) rfl) rfl), (gt_8 (List.mem_of_getElem? (i := 171) rfl) rfl), by decide⟩
theorem wX12_tempers : pm_MW mX12_tempers 3 := ⟨by decide +kernel, by decide +kernel, (gt_1 (List.mem_of_getElem? (i := 14) rfl) rfl), (gt_8 (List.mem_of_getElem? (i := 167) rfl) rfl), by decide⟩
theorem wX12_mostOften : pm_MW mX12_mostOften 3 := ⟨by decide +kernel, by decide +kernel, (gt_1 (List.mem_of_getElem? (i := 14) rfl) rfl), (gt_8 (List.mem_of_getElem? (i := 179) rfl) rfl), by decide⟩
theorem wX12_next : pm_MW mX12_next 3 := ⟨by decide +kernel, by decide +kernel, (gt_1 (List.mem_of_getElem? (i := 14) rfl) rfl), (gt_8 (List.mem_of_getElem? (i := 175) rfl) rfl), by decide⟩
theorem wX12_tens : pm_MW mX12_tens 1 := ⟨by decide +kernel, by decide +kernel, (gt_1 (List.mem_of_getElem? (i := 14) rfl) rfl), (gt_8 (List.mem_of_getElem? (i := 194) rfl) rfl), by decide⟩
theorem wX12_common : pm_MW mX12_common 2 := ⟨by decide +kernel, by decide +kernel, (gt_1 (List.mem_of_getElem? (i := 14) rfl) rfl), (gt_8 (List.mem_of_getElem? (i := 197) rfl) rfl), by decide⟩
theorem wX12_chanceFrom : pm_MW mX12_chanceFrom 3 := ⟨by decide +kernel, by decide +kernel, (gt_1 (List.mem_of_getElem? (i := 14) rfl) rfl), (gt_8 (List.mem_of_getElem? (i := 187) rfl) rfl), by decide⟩
theorem wX12_slipsOn : pm_MW mX12_slipsOn 3 := ⟨by decide +kernel, by decide +kernel, (gt_1 (List.mem_of_getElem? (i := 14) rfl) rfl), (gt_8 (List.mem_of_getElem? (i := 191) rfl) rfl), by decide⟩
theorem wX12_chance : pm_MW mX12_chance 4 := ⟨by decide +kernel, by decide +kernel, (gt_1 (List.mem_of_getElem? (i := 14) rfl) rfl), (gt_8 (List.mem_of_getElem? (i := 183) rfl) rfl), by decide⟩
theorem wX12_putBy : pm_MW mX12_putBy 3 := ⟨by decide +kernel, by decide +kernel, (gt_1 (List.mem_of_getElem? (i := 14) rfl) rfl), (gt_8 (List.mem_of_getElem? (i := 201) rfl) rfl), by decide⟩
theorem wX12_cut : pm_MW mX12_cut 2 := ⟨by decide +kernel, by decide +kernel, (gt_1 (List.mem_of_getElem? (i := 14) rfl) rfl), (gt_8 (List.mem_of_getElem? (i := 213) rfl) rfl), by decide⟩
theorem wX12_numbers : pm_MW mX12_numbers 3 := ⟨by decide +kernel, by decide +kernel, (gt_1 (List.mem_of_getElem? (i := 14) rfl) rfl), (gt_8 (List.mem_of_getElem? (i := 205) rfl) rfl), by decide⟩
theorem wX12_write : pm_MW mX12_write 3 := ⟨by decide +kernel, by decide +kernel, (gt_1 (List.mem_of_getElem? (i := 14) rfl) rfl), (gt_8 (List.mem_of_getElem? (i := 209) rfl) rfl), by decide⟩
theorem wX12_lists : pm_MW mX12_lists 4 := ⟨by decide +kernel, by decide +kernel, (gt_1 (List.mem_of_getElem? (i := 14) rfl) rfl), (gt_8 (List.mem_of_getElem? (i := 217) rfl) rfl), by decide⟩
theorem wX12_image : pm_MW mX12_image 1 := ⟨by decide +kernel, by decide +kernel, (gt_1 (List.mem_of_getElem? (i := 14) rfl) rfl), (gt_8 (List.mem_of_getElem? (i := 221) rfl) rfl), by decide⟩
theorem wX12_restore : pm_MW mX12_restore 1 := ⟨by decide +kernel, by decide +kernel, (gt_1 (List.mem_of_getElem? (i := 14) rfl) rfl), (gt_8 (List.mem_of_getElem? (i := 225) rfl) rfl), by decide⟩
theorem wX12_barsAll : pm_MW mX12_barsAll 0 := ⟨by decide +kernel, by decide +kernel, (gt_1 (List.mem_of_getElem? (i := 14) rfl) rfl), (gt_8 (List.mem_of_getElem? (i := 233) rfl) rfl), by decide⟩
theorem wX12_count : pm_MW mX12_count 1 := ⟨by decide +kernel, by decide +kernel, (gt_1 (List.mem_of_getElem? (i := 14) rfl) rfl), (gt_8 (List.mem_of_getElem? (i := 229) rfl) rfl), by decide⟩
theorem wJ6_bitCount_0f7a4 : pm_MW mJ6_bitCount_0f7a4 1 := ⟨by decide +kernel, by decide +kernel, (gt_1 (List.mem_of_getElem? (i := 21) rfl) rfl), (gt_5 (List.mem_of_getElem? (i := 138) rfl) rfl), by decide⟩
theorem wJ0_length_8abf5 : pm_MW mJ0_length_8abf5 0 := ⟨by decide +kernel, by decide +kernel, (gt_1 (List.mem_of_getElem? (i := 16) rfl) rfl), (gt_3 (List.mem_of_getElem? (i := 54) rfl) rfl), by decide⟩
theorem wJ0_charAt_5068e : pm_MW mJ0_charAt_5068e 1 := ⟨by decide +kernel, by decide +kernel, (gt_1 (List.mem_of_getElem? (i := 16) rfl) rfl), (gt_3 (List.mem_of_getElem? (i := 64) rfl) rfl), by decide⟩
theorem wJ0_coder_7d493 : pm_MW mJ0_coder_7d493 0 := ⟨by decide +kernel, by decide +kernel, (gt_1 (List.mem_of_getElem? (i := 16) rfl) rfl), (gt_3 (List.mem_of_getElem? (i := 58) rfl) rfl), by decide⟩
theorem wJ0_isLatin1_aae02 : pm_MW mJ0_isLatin1_aae02 0 := ⟨by decide +kernel, by decide +kernel, (gt_1 (List.mem_of_getElem? (i := 16) rfl) rfl), (gt_3 (List.mem_of_getElem? (i := 68) rfl) rfl), by decide⟩
theorem wJ0_checkIndex_df160 : pm_MW mJ0_checkIndex_df160 2 := ⟨by decide +kernel, by decide +kernel, (gt_1 (List.mem_of_getElem? (i := 16) rfl) rfl), (gt_3 (List.mem_of_getElem? (i := 74) rfl) rfl), by decide⟩
theorem wJ1_charAt_3b067 : pm_MW mJ1_charAt_3b067 2 := ⟨by decide +kernel, by decide +kernel, (gt_1 (List.mem_of_getElem? (i := 17) rfl) rfl), (gt_3 (List.mem_of_getElem? (i := 71) rfl) rfl), by decide⟩
theorem wJ2_getChar_3b067 : pm_MW mJ2_getChar_3b067 2 := ⟨by decide +kernel, by decide +kernel, (gt_1 (List.mem_of_getElem? (i := 19) rfl) rfl), (gt_3 (List.mem_of_getElem? (i := 92) rfl) rfl), by decide⟩
theorem wJ2_length_9d52b : pm_MW mJ2_length_9d52b 1 := ⟨by decide +kernel, by decide +kernel, (gt_1 (List.mem_of_getElem? (i := 19) rfl) rfl), (gt_3 (List.mem_of_getElem? (i := 88) rfl) rfl), by decide⟩
theorem wJ2_charAt_3b067 : pm_MW mJ2_charAt_3b067 2 := ⟨by decide +kernel, by decide +kernel, (gt_1 (List.mem_of_getElem? (i := 19) rfl) rfl), (gt_3 (List.mem_of_getElem? (i := 82) rfl) rfl), by decide⟩
theorem wJ2_checkIndex_2214a : pm_MW mJ2_checkIndex_2214a 2 := ⟨by decide +kernel, by decide +kernel, (gt_1 (List.mem_of_getElem? (i := 19) rfl) rfl), (gt_3 (List.mem_of_getElem? (i := 85) rfl) rfl), by decide⟩
theorem wJ7_fill_d0a16 : pm_MW mJ7_fill_d0a16 2 := ⟨by decide +kernel, by decide +kernel, (gt_1 (List.mem_of_getElem? (i := 9) rfl) rfl), (gt_5 (List.mem_of_getElem? (i := 59) rfl) rfl), by decide⟩
theorem wJ7_fill_53178 : pm_MW mJ7_fill_53178 2 := ⟨by decide +kernel, by decide +kernel, (gt_1 (List.mem_of_getElem? (i := 9) rfl) rfl), (gt_1 (List.mem_of_getElem? (i := 229) rfl) rfl), by decide⟩
theorem wJ3_checkIndex_8e157 : pm_MW mJ3_checkIndex_8e157 3 := ⟨by decide +kernel, by decide +kernel, (gt_1 (List.mem_of_getElem? (i := 18) rfl) rfl), (gt_3 (List.mem_of_getElem? (i := 79) rfl) rfl), by decide⟩
theorem uw0_t : ∀ w ∈ u_ws RX0 TX0 15, w ∈ lw_tbl := by decide +kernel
theorem uw0_g : ∀ w ∈ u_ws RX0 TX0 15, goodWord w = true := by decide +kernel
theorem uw0 : ∀ w ∈ u_ws RX0 TX0 15, w ∈ GT := fun w hw => List.mem_filter.mpr ⟨uw0_t w hw, uw0_g w hw⟩
theorem uw1_t : ∀ w ∈ u_ws RX1 TX1 7, w ∈ lw_tbl := by decide +kernel
theorem uw1_g : ∀ w ∈ u_ws RX1 TX1 7, goodWord w = true := by decide +kernel
theorem uw1 : ∀ w ∈ u_ws RX1 TX1 7, w ∈ GT := fun w hw => List.mem_filter.mpr ⟨uw1_t w hw, uw1_g w hw⟩
theorem uw2_t : ∀ w ∈ u_ws RX2 TX2 5, w ∈ lw_tbl := by decide +kernel
theorem uw2_g : ∀ w ∈ u_ws RX2 TX2 5, goodWord w = true := by decide +kernel
theorem uw2 : ∀ w ∈ u_ws RX2 TX2 5, w ∈ GT := fun w hw => List.mem_filter.mpr ⟨uw2_t w hw, uw2_g w hw⟩
theorem uw3_t : ∀ w ∈ u_ws RX3 TX3 3, w ∈ lw_tbl := by decide +kernel
theorem uw3_g : ∀ w ∈ u_ws RX3 TX3 3, goodWord w = true := by decide +kernel
theorem uw3 : ∀ w ∈ u_ws RX3 TX3 3, w ∈ GT := fun w hw => List.mem_filter.mpr ⟨uw3_t w hw, uw3_g w hw⟩
theorem uw4_t : ∀ w ∈ u_ws RX4 TX4 3, w ∈ lw_tbl := by decide +kernel
theorem uw4_g : ∀ w ∈ u_ws RX4 TX4 3, goodWord w = true := by decide +kernel
theorem uw4 : ∀ w ∈ u_ws RX4 TX4 3, w ∈ GT := fun w hw => List.mem_filter.mpr ⟨uw4_t w hw, uw4_g w hw⟩
theorem uw5_t : ∀ w ∈ u_ws RX5 TX5 9, w ∈ lw_tbl := by decide +kernel
theorem uw5_g : ∀ w ∈ u_ws RX5 TX5 9, goodWord w = true := by decide +kernel
theorem uw5 : ∀ w ∈ u_ws RX5 TX5 9, w ∈ GT := fun w hw => List.mem_filter.mpr ⟨uw5_t w hw, uw5_g w hw⟩
theorem uw6_t : ∀ w ∈ u_ws RX6 TX6 11, w ∈ lw_tbl := by decide +kernel
theorem uw6_g : ∀ w ∈ u_ws RX6 TX6 11, goodWord w = true := by decide +kernel
theorem uw6 : ∀ w ∈ u_ws RX6 TX6 11, w ∈ GT := fun w hw => List.mem_filter.mpr ⟨uw6_t w hw, uw6_g w hw⟩
theorem uw7_t : ∀ w ∈ u_ws RX7 TX7 10, w ∈ lw_tbl := by decide +kernel
theorem uw7_g : ∀ w ∈ u_ws RX7 TX7 10, goodWord w = true := by decide +kernel
theorem uw7 : ∀ w ∈ u_ws RX7 TX7 10, w ∈ GT := fun w hw => List.mem_filter.mpr ⟨uw7_t w hw, uw7_g w hw⟩
theorem uw8_t : ∀ w ∈ u_ws RX8 TX8 5, w ∈ lw_tbl := by decide +kernel
theorem uw8_g : ∀ w ∈ u_ws RX8 TX8 5, goodWord w = true := by decide +kernel
theorem uw8 : ∀ w ∈ u_ws RX8 TX8 5, w ∈ GT := fun w hw => List.mem_filter.mpr ⟨uw8_t w hw, uw8_g w hw⟩
theorem uw9_t : ∀ w ∈ u_ws RX9 TX9 3, w ∈ lw_tbl := by decide +kernel
theorem uw9_g : ∀ w ∈ u_ws RX9 TX9 3, goodWord w = true := by decide +kernel
theorem uw9 : ∀ w ∈ u_ws RX9 TX9 3, w ∈ GT := fun w hw => List.mem_filter.mpr ⟨uw9_t w hw, uw9_g w hw⟩
theorem uw10_t : ∀ w ∈ u_ws RX10 TX10 11, w ∈ lw_tbl := by decide +kernel
theorem uw10_g : ∀ w ∈ u_ws RX10 TX10 11, goodWord w = true := by decide +kernel
theorem uw10 : ∀ w ∈ u_ws RX10 TX10 11, w ∈ GT := fun w hw => List.mem_filter.mpr ⟨uw10_t w hw, uw10_g w hw⟩
theorem uw11_t : ∀ w ∈ u_ws RX11 TX11 18, w ∈ lw_tbl := by decide +kernel
theorem uw11_g : ∀ w ∈ u_ws RX11 TX11 18, goodWord w = true := by decide +kernel
theorem uw11 : ∀ w ∈ u_ws RX11 TX11 18, w ∈ GT := fun w hw => List.mem_filter.mpr ⟨uw11_t w hw, uw11_g w hw⟩
theorem uw12_t : ∀ w ∈ u_ws RX12 TX12 39, w ∈ lw_tbl := by decide +kernel
theorem uw12_g : ∀ w ∈ u_ws RX12 TX12 39, goodWord w = true := by decide +kernel
theorem uw12 : ∀ w ∈ u_ws RX12 TX12 39, w ∈ GT := fun w hw => List.mem_filter.mpr ⟨uw12_t w hw, uw12_g w hw⟩
theorem gX11_11 : pm_GR RX11 11 11 0 := ⟨⟨RX11, TX11, 18, rfl, by decide, uw11, (gt_2 (List.mem_of_getElem? (i := 182) rfl) rfl)⟩, by decide +kernel, by decide +kernel, by decide⟩
theorem gX11_15 : pm_GI RX11 15 11 1 := ⟨⟨RX11, TX11, 18, rfl, by decide, uw11, (gt_2 (List.mem_of_getElem? (i := 183) rfl) rfl)⟩, by decide +kernel, by decide +kernel, by decide⟩
theorem gX11_22 : pm_GR RX11 22 11 2 := ⟨⟨RX11, TX11, 18, rfl, by decide, uw11, (gt_2 (List.mem_of_getElem? (i := 184) rfl) rfl)⟩, by decide +kernel, by decide +kernel, by decide⟩
theorem gX11_28 : pm_GR RX11 28 11 3 := ⟨⟨RX11, TX11, 18, rfl, by decide, uw11, (gt_2 (List.mem_of_getElem? (i := 185) rfl) rfl)⟩, by decide +kernel, by decide +kernel, by decide⟩
theorem gX11_35 : pm_GR RX11 35 11 5 := ⟨⟨RX11, TX11, 18, rfl, by decide, uw11, (gt_2 (List.mem_of_getElem? (i := 187) rfl) rfl)⟩, by decide +kernel, by decide +kernel, by decide⟩
theorem gX11_39 : pm_GR RX11 39 11 6 := ⟨⟨RX11, TX11, 18, rfl, by decide, uw11, (gt_2 (List.mem_of_getElem? (i := 188) rfl) rfl)⟩, by decide +kernel, by decide +kernel, by decide⟩
theorem gX11_45 : pm_GR RX11 45 11 7 := ⟨⟨RX11, TX11, 18, rfl, by decide, uw11, (gt_2 (List.mem_of_getElem? (i := 189) rfl) rfl)⟩, by decide +kernel, by decide +kernel, by decide⟩
theorem gX11_49 : pm_GR RX11 49 11 8 := ⟨⟨RX11, TX11, 18, rfl, by decide, uw11, (gt_2 (List.mem_of_getElem? (i := 190) rfl) rfl)⟩, by decide +kernel, by decide +kernel, by decide⟩
theorem gX11_52 : pm_GR RX11 52 11 9 := ⟨⟨RX11, TX11, 18, rfl, by decide, uw11, (gt_2 (List.mem_of_getElem? (i := 191) rfl) rfl)⟩, by decide +kernel, by decide +kernel, by decide⟩
theorem gX11_58 : pm_GR RX11 58 11 10 := ⟨⟨RX11, TX11, 18, rfl, by decide, uw11, (gt_2 (List.mem_of_getElem? (i := 192) rfl) rfl)⟩, by decide +kernel, by decide +kernel, by decide⟩
theorem gX11_62 : pm_GR RX11 62 11 16 := ⟨⟨RX11, TX11, 18, rfl, by decide, uw11, (gt_2 (List.mem_of_getElem? (i := 198) rfl) rfl)⟩, by decide +kernel, by decide +kernel, by decide⟩
theorem gX11_66 : pm_GR RX11 66 11 17 := ⟨⟨RX11, TX11, 18, rfl, by decide, uw11, (gt_2 (List.mem_of_getElem? (i := 199) rfl) rfl)⟩, by decide +kernel, by decide +kernel, by decide⟩
theorem gX11_71 : pm_GR RX11 71 11 4 := ⟨⟨RX11, TX11, 18, rfl, by decide, uw11, (gt_2 (List.mem_of_getElem? (i := 186) rfl) rfl)⟩, by decide +kernel, by decide +kernel, by decide⟩
theorem gX11_80 : pm_GR RX11 80 11 11 := ⟨⟨RX11, TX11, 18, rfl, by decide, uw11, (gt_2 (List.mem_of_getElem? (i := 193) rfl) rfl)⟩, by decide +kernel, by decide +kernel, by decide⟩
theorem gX11_89 : pm_GR RX11 89 11 12 := ⟨⟨RX11, TX11, 18, rfl, by decide, uw11, (gt_2 (List.mem_of_getElem? (i := 194) rfl) rfl)⟩, by decide +kernel, by decide +kernel, by decide⟩
theorem gX11_96 : pm_GR RX11 96 11 13 := ⟨⟨RX11, TX11, 18, rfl, by decide, uw11, (gt_2 (List.mem_of_getElem? (i := 195) rfl) rfl)⟩, by decide +kernel, by decide +kernel, by decide⟩
theorem gX11_105 : pm_GR RX11 105 11 14 := ⟨⟨RX11, TX11, 18, rfl, by decide, uw11, (gt_2 (List.mem_of_getElem? (i := 196) rfl) rfl)⟩, by decide +kernel, by decide +kernel, by decide⟩
theorem gX11_114 : pm_GR RX11 114 11 15 := ⟨⟨RX11, TX11, 18, rfl, by decide, uw11, (gt_2 (List.mem_of_getElem? (i := 197) rfl) rfl)⟩, by decide +kernel, by decide +kernel, by decide⟩
theorem gX11_133 : pm_GI RX11 133 6 0 := ⟨⟨RX6, TX6, 11, rfl, by decide, uw6, (gt_1 (List.mem_of_getElem? (i := 37) rfl) rfl)⟩, by decide +kernel, by decide +kernel, by decide⟩
theorem gX11_145 : pm_GI RX11 145 7 9 := ⟨⟨RX7, TX7, 10, rfl, by decide, uw7, (gt_1 (List.mem_of_getElem? (i := 197) rfl) rfl)⟩, by decide +kernel, by decide +kernel, by decide⟩
theorem gX11_148 : pm_GI RX11 148 6 1 := ⟨⟨RX6, TX6, 11, rfl, by decide, uw6, (gt_1 (List.mem_of_getElem? (i := 39) rfl) rfl)⟩, by decide +kernel, by decide +kernel, by decide⟩
theorem gX11_156 : pm_GR RX11 156 8 0 := ⟨⟨RX8, TX8, 5, rfl, by decide, uw8, (gt_1 (List.mem_of_getElem? (i := 85) rfl) rfl)⟩, by decide +kernel, by decide +kernel, by decide⟩
theorem gX11_159 : pm_GR RX11 159 8 1 := ⟨⟨RX8, TX8, 5, rfl, by decide, uw8, (gt_1 (List.mem_of_getElem? (i := 87) rfl) rfl)⟩, by decide +kernel, by decide +kernel, by decide⟩
theorem gX11_162 : pm_GR RX11 162 8 2 := ⟨⟨RX8, TX8, 5, rfl, by decide, uw8, (gt_1 (List.mem_of_getElem? (i := 91) rfl) rfl)⟩, by decide +kernel, by decide +kernel, by decide⟩
theorem gX11_206 : pm_GI RX11 206 2 0 := ⟨⟨RX2, TX2, 5, rfl, by decide, uw2, (gt_2 (List.mem_of_getElem? (i := 166) rfl) rfl)⟩, by decide +kernel, by decide +kernel, by decide⟩
theorem gX11_223 : pm_GI RX11 223 8 3 := ⟨⟨RX8, TX8, 5, rfl, by decide, uw8, (gt_1 (List.mem_of_getElem? (i := 94) rfl) rfl)⟩, by decide +kernel, by decide +kernel, by decide⟩
theorem gX11_226 : pm_GI RX11 226 3 0 := ⟨⟨RX3, TX3, 3, rfl, by decide, uw3, (gt_1 (List.mem_of_getElem? (i := 119) rfl) rfl)⟩, by decide +kernel, by decide +kernel, by decide⟩
theorem gX11_240 : pm_GI RX11 240 9 0 := ⟨⟨RX9, TX9, 3, rfl, by decide, uw9, (gt_1 (List.mem_of_getElem? (i := 137) rfl) rfl)⟩, by decide +kernel, by decide +kernel, by decide⟩
theorem gX11_271 : pm_GI RX11 271 1 0 := ⟨⟨RX1, TX1, 7, rfl, by decide, uw1, (gt_2 (List.mem_of_getElem? (i := 49) rfl) rfl)⟩, by decide +kernel, by decide +kernel, by decide⟩
theorem gX11_272 : pm_GI RX11 272 1 1 := ⟨⟨RX1, TX1, 7, rfl, by decide, uw1, (gt_2 (List.mem_of_getElem? (i := 52) rfl) rfl)⟩, by decide +kernel, by decide +kernel, by decide⟩
theorem gX11_275 : pm_GI RX11 275 1 2 := ⟨⟨RX1, TX1, 7, rfl, by decide, uw1, (gt_2 (List.mem_of_getElem? (i := 54) rfl) rfl)⟩, by decide +kernel, by decide +kernel, by decide⟩
theorem gX11_284 : pm_GR RX11 284 10 1 := ⟨⟨RX10, TX10, 11, rfl, by decide, uw10, (gt_2 (List.mem_of_getElem? (i := 85) rfl) rfl)⟩, by decide +kernel, by decide +kernel, by decide⟩
theorem gX11_320 : pm_GI RX11 320 7 6 := ⟨⟨RX7, TX7, 10, rfl, by decide, uw7, (gt_1 (List.mem_of_getElem? (i := 187) rfl) rfl)⟩, by decide +kernel, by decide +kernel, by decide⟩
theorem gX11_327 : pm_GI RX11 327 5 0 := ⟨⟨RX5, TX5, 9, rfl, by decide, uw5, (gt_2 (List.mem_of_getElem? (i := 131) rfl) rfl)⟩, by decide +kernel, by decide +kernel, by decide⟩
theorem gX11_335 : pm_GI RX11 335 7 7 := ⟨⟨RX7, TX7, 10, rfl, by decide, uw7, (gt_1 (List.mem_of_getElem? (i := 190) rfl) rfl)⟩, by decide +kernel, by decide +kernel, by decide⟩
theorem gX11_338 : pm_GI RX11 338 10 2 := ⟨⟨RX10, TX10, 11, rfl, by decide, uw10, (gt_2 (List.mem_of_getElem? (i := 88) rfl) rfl)⟩, by decide +kernel, by decide +kernel, by decide⟩
theorem gX11_339 : pm_GR RX11 339 10 0 := ⟨⟨RX10, TX10, 11, rfl, by decide, uw10, (gt_2 (List.mem_of_getElem? (i := 82) rfl) rfl)⟩, by decide +kernel, by decide +kernel, by decide⟩
theorem gX11_386 : pm_GI RX11 386 8 4 := ⟨⟨RX8, TX8, 5, rfl, by decide, uw8, (gt_1 (List.mem_of_getElem? (i := 97) rfl) rfl)⟩, by decide +kernel, by decide +kernel, by decide⟩
theorem gX11_389 : pm_GI RX11 389 7 8 := ⟨⟨RX7, TX7, 10, rfl, by decide, uw7, (gt_1 (List.mem_of_getElem? (i := 194) rfl) rfl)⟩, by decide +kernel, by decide +kernel, by decide⟩
theorem gX0_15 : pm_GI RX0 15 0 1 := ⟨⟨RX0, TX0, 15, rfl, by decide, uw0, (gt_1 (List.mem_of_getElem? (i := 233) rfl) rfl)⟩, by decide +kernel, by decide +kernel, by decide⟩
theorem gX0_19 : pm_GI RX0 19 0 3 := ⟨⟨RX0, TX0, 15, rfl, by decide, uw0, (gt_1 (List.mem_of_getElem? (i := 238) rfl) rfl)⟩, by decide +kernel, by decide +kernel, by decide⟩
theorem gX0_22 : pm_GI RX0 22 0 4 := ⟨⟨RX0, TX0, 15, rfl, by decide, uw0, (gt_1 (List.mem_of_getElem? (i := 239) rfl) rfl)⟩, by decide +kernel, by decide +kernel, by decide⟩
theorem gX0_25 : pm_GI RX0 25 0 5 := ⟨⟨RX0, TX0, 15, rfl, by decide, uw0, (gt_2 (List.mem_of_getElem? (i := 0) rfl) rfl)⟩, by decide +kernel, by decide +kernel, by decide⟩
theorem gX0_28 : pm_GI RX0 28 0 6 := ⟨⟨RX0, TX0, 15, rfl, by decide, uw0, (gt_2 (List.mem_of_getElem? (i := 1) rfl) rfl)⟩, by decide +kernel, by decide +kernel, by decide⟩
theorem gX0_33 : pm_GR RX0 33 0 7 := ⟨⟨RX0, TX0, 15, rfl, by decide, uw0, (gt_2 (List.mem_of_getElem? (i := 2) rfl) rfl)⟩, by decide +kernel, by decide +kernel, by decide⟩
theorem gX0_39 : pm_GR RX0 39 0 8 := ⟨⟨RX0, TX0, 15, rfl, by decide, uw0, (gt_2 (List.mem_of_getElem? (i := 3) rfl) rfl)⟩, by decide +kernel, by decide +kernel, by decide⟩
theorem gX0_44 : pm_GR RX0 44 0 9 := ⟨⟨RX0, TX0, 15, rfl, by decide, uw0, (gt_2 (List.mem_of_getElem? (i := 4) rfl) rfl)⟩, by decide +kernel, by decide +kernel, by decide⟩
theorem gX0_48 : pm_GR RX0 48 0 10 := ⟨⟨RX0, TX0, 15, rfl, by decide, uw0, (gt_2 (List.mem_of_getElem? (i := 5) rfl) rfl)⟩, by decide +kernel, by decide +kernel, by decide⟩
theorem gX0_51 : pm_GR RX0 51 0 11 := ⟨⟨RX0, TX0, 15, rfl, by decide, uw0, (gt_2 (List.mem_of_getElem? (i := 6) rfl) rfl)⟩, by decide +kernel, by decide +kernel, by decide⟩
theorem gX0_54 : pm_GI RX0 54 0 12 := ⟨⟨RX0, TX0, 15, rfl, by decide, uw0, (gt_2 (List.mem_of_getElem? (i := 7) rfl) rfl)⟩, by decide +kernel, by decide +kernel, by decide⟩
theorem gX0_57 : pm_GR RX0 57 0 13 := ⟨⟨RX0, TX0, 15, rfl, by decide, uw0, (gt_2 (List.mem_of_getElem? (i := 8) rfl) rfl)⟩, by decide +kernel, by decide +kernel, by decide⟩
theorem gX0_60 : pm_GI RX0 60 0 14 := ⟨⟨RX0, TX0, 15, rfl, by decide, uw0, (gt_2 (List.mem_of_getElem? (i := 9) rfl) rfl)⟩, by decide +kernel, by decide +kernel, by decide⟩
theorem gX0_63 : pm_GR RX0 63 0 2 := ⟨⟨RX0, TX0, 15, rfl, by decide, uw0, (gt_1 (List.mem_of_getElem? (i := 234) rfl) rfl)⟩, by decide +kernel, by decide +kernel, by decide⟩
theorem gX0_77 : pm_GR RX0 77 7 4 := ⟨⟨RX7, TX7, 10, rfl, by decide, uw7, (gt_1 (List.mem_of_getElem? (i := 179) rfl) rfl)⟩, by decide +kernel, by decide +kernel, by decide⟩
theorem gX0_84 : pm_GR RX0 84 7 5 := ⟨⟨RX7, TX7, 10, rfl, by decide, uw7, (gt_1 (List.mem_of_getElem? (i := 182) rfl) rfl)⟩, by decide +kernel, by decide +kernel, by decide⟩
theorem gX0_110 : pm_GR RX0 110 7 0 := ⟨⟨RX7, TX7, 10, rfl, by decide, uw7, (gt_1 (List.mem_of_getElem? (i := 170) rfl) rfl)⟩, by decide +kernel, by decide +kernel, by decide⟩
theorem gX1_9 : pm_GI RX1 9 1 0 := ⟨⟨RX1, TX1, 7, rfl, by decide, uw1, (gt_2 (List.mem_of_getElem? (i := 47) rfl) rfl)⟩, by decide +kernel, by decide +kernel, by decide⟩
theorem gX1_15 : pm_GI RX1 15 1 1 := ⟨⟨RX1, TX1, 7, rfl, by decide, uw1, (gt_2 (List.mem_of_getElem? (i := 50) rfl) rfl)⟩, by decide +kernel, by decide +kernel, by decide⟩
theorem gX1_18 : pm_GI RX1 18 1 2 := ⟨⟨RX1, TX1, 7, rfl, by decide, uw1, (gt_2 (List.mem_of_getElem? (i := 53) rfl) rfl)⟩, by decide +kernel, by decide +kernel, by decide⟩
theorem gX1_21 : pm_GR RX1 21 1 4 := ⟨⟨RX1, TX1, 7, rfl, by decide, uw1, (gt_2 (List.mem_of_getElem? (i := 56) rfl) rfl)⟩, by decide +kernel, by decide +kernel, by decide⟩
theorem gX1_25 : pm_GR RX1 25 1 5 := ⟨⟨RX1, TX1, 7, rfl, by decide, uw1, (gt_2 (List.mem_of_getElem? (i := 57) rfl) rfl)⟩, by decide +kernel, by decide +kernel, by decide⟩
theorem gX1_29 : pm_GR RX1 29 1 6 := ⟨⟨RX1, TX1, 7, rfl, by decide, uw1, (gt_2 (List.mem_of_getElem? (i := 58) rfl) rfl)⟩, by decide +kernel, by decide +kernel, by decide⟩
theorem gX1_32 : pm_GR RX1 32 1 3 := ⟨⟨RX1, TX1, 7, rfl, by decide, uw1, (gt_2 (List.mem_of_getElem? (i := 55) rfl) rfl)⟩, by decide +kernel, by decide +kernel, by decide⟩
theorem gX1_42 : pm_GI RX1 42 0 0 := ⟨⟨RX0, TX0, 15, rfl, by decide, uw0, (gt_1 (List.mem_of_getElem? (i := 232) rfl) rfl)⟩, by decide +kernel, by decide +kernel, by decide⟩
theorem gX1_75 : pm_GR RX1 75 0 2 := ⟨⟨RX0, TX0, 15, rfl, by decide, uw0, (gt_1 (List.mem_of_getElem? (i := 236) rfl) rfl)⟩, by decide +kernel, by decide +kernel, by decide⟩
theorem gX1_79 : pm_GI RX1 79 7 8 := ⟨⟨RX7, TX7, 10, rfl, by decide, uw7, (gt_1 (List.mem_of_getElem? (i := 192) rfl) rfl)⟩, by decide +kernel, by decide +kernel, by decide⟩
theorem gX2_9 : pm_GI RX2 9 2 0 := ⟨⟨RX2, TX2, 5, rfl, by decide, uw2, (gt_2 (List.mem_of_getElem? (i := 165) rfl) rfl)⟩, by decide +kernel, by decide +kernel, by decide⟩
theorem gX2_15 : pm_GI RX2 15 2 4 := ⟨⟨RX2, TX2, 5, rfl, by decide, uw2, (gt_2 (List.mem_of_getElem? (i := 170) rfl) rfl)⟩, by decide +kernel, by decide +kernel, by decide⟩
theorem gX2_18 : pm_GR RX2 18 2 1 := ⟨⟨RX2, TX2, 5, rfl, by decide, uw2, (gt_2 (List.mem_of_getElem? (i := 167) rfl) rfl)⟩, by decide +kernel, by decide +kernel, by decide⟩
theorem gX2_22 : pm_GR RX2 22 2 2 := ⟨⟨RX2, TX2, 5, rfl, by decide, uw2, (gt_2 (List.mem_of_getElem? (i := 168) rfl) rfl)⟩, by decide +kernel, by decide +kernel, by decide⟩
theorem gX2_26 : pm_GR RX2 26 2 3 := ⟨⟨RX2, TX2, 5, rfl, by decide, uw2, (gt_2 (List.mem_of_getElem? (i := 169) rfl) rfl)⟩, by decide +kernel, by decide +kernel, by decide⟩
theorem gX2_34 : pm_GR RX2 34 8 2 := ⟨⟨RX8, TX8, 5, rfl, by decide, uw8, (gt_1 (List.mem_of_getElem? (i := 90) rfl) rfl)⟩, by decide +kernel, by decide +kernel, by decide⟩
theorem gX2_46 : pm_GR RX2 46 8 0 := ⟨⟨RX8, TX8, 5, rfl, by decide, uw8, (gt_1 (List.mem_of_getElem? (i := 84) rfl) rfl)⟩, by decide +kernel, by decide +kernel, by decide⟩
theorem gX2_55 : pm_GI RX2 55 1 0 := ⟨⟨RX1, TX1, 7, rfl, by decide, uw1, (gt_2 (List.mem_of_getElem? (i := 48) rfl) rfl)⟩, by decide +kernel, by decide +kernel, by decide⟩
theorem gX2_56 : pm_GI RX2 56 1 1 := ⟨⟨RX1, TX1, 7, rfl, by decide, uw1, (gt_2 (List.mem_of_getElem? (i := 51) rfl) rfl)⟩, by decide +kernel, by decide +kernel, by decide⟩
theorem gX2_63 : pm_GR RX2 63 10 1 := ⟨⟨RX10, TX10, 11, rfl, by decide, uw10, (gt_2 (List.mem_of_getElem? (i := 84) rfl) rfl)⟩, by decide +kernel, by decide +kernel, by decide⟩
theorem gX2_76 : pm_GI RX2 76 10 2 := ⟨⟨RX10, TX10, 11, rfl, by decide, uw10, (gt_2 (List.mem_of_getElem? (i := 87) rfl) rfl)⟩, by decide +kernel, by decide +kernel, by decide⟩
theorem gX2_78 : pm_GR RX2 78 0 2 := ⟨⟨RX0, TX0, 15, rfl, by decide, uw0, (gt_1 (List.mem_of_getElem? (i := 235) rfl) rfl)⟩, by decide +kernel, by decide +kernel, by decide⟩
theorem gX2_93 : pm_GI RX2 93 8 3 := ⟨⟨RX8, TX8, 5, rfl, by decide, uw8, (gt_1 (List.mem_of_getElem? (i := 93) rfl) rfl)⟩, by decide +kernel, by decide +kernel, by decide⟩
theorem gX2_96 : pm_GI RX2 96 8 4 := ⟨⟨RX8, TX8, 5, rfl, by decide, uw8, (gt_1 (List.mem_of_getElem? (i := 96) rfl) rfl)⟩, by decide +kernel, by decide +kernel, by decide⟩
theorem gX3_9 : pm_GI RX3 9 3 0 := ⟨⟨RX3, TX3, 3, rfl, by decide, uw3, (gt_1 (List.mem_of_getElem? (i := 118) rfl) rfl)⟩, by decide +kernel, by decide +kernel, by decide⟩
theorem gX3_17 : pm_GR RX3 17 3 1 := ⟨⟨RX3, TX3, 3, rfl, by decide, uw3, (gt_1 (List.mem_of_getElem? (i := 120) rfl) rfl)⟩, by decide +kernel, by decide +kernel, by decide⟩
theorem gX3_21 : pm_GI RX3 21 3 2 := ⟨⟨RX3, TX3, 3, rfl, by decide, uw3, (gt_1 (List.mem_of_getElem? (i := 121) rfl) rfl)⟩, by decide +kernel, by decide +kernel, by decide⟩
theorem gX4_9 : pm_GR RX4 9 4 0 := ⟨⟨RX4, TX4, 3, rfl, by decide, uw4, (gt_1 (List.mem_of_getElem? (i := 159) rfl) rfl)⟩, by decide +kernel, by decide +kernel, by decide⟩
theorem gX4_15 : pm_GI RX4 15 4 1 := ⟨⟨RX4, TX4, 3, rfl, by decide, uw4, (gt_1 (List.mem_of_getElem? (i := 160) rfl) rfl)⟩, by decide +kernel, by decide +kernel, by decide⟩
theorem gX4_19 : pm_GI RX4 19 4 2 := ⟨⟨RX4, TX4, 3, rfl, by decide, uw4, (gt_1 (List.mem_of_getElem? (i := 161) rfl) rfl)⟩, by decide +kernel, by decide +kernel, by decide⟩
theorem gX5_10 : pm_GI RX5 10 5 0 := ⟨⟨RX5, TX5, 9, rfl, by decide, uw5, (gt_2 (List.mem_of_getElem? (i := 130) rfl) rfl)⟩, by decide +kernel, by decide +kernel, by decide⟩
theorem gX5_18 : pm_GR RX5 18 5 3 := ⟨⟨RX5, TX5, 9, rfl, by decide, uw5, (gt_2 (List.mem_of_getElem? (i := 134) rfl) rfl)⟩, by decide +kernel, by decide +kernel, by decide⟩
theorem gX5_21 : pm_GR RX5 21 5 4 := ⟨⟨RX5, TX5, 9, rfl, by decide, uw5, (gt_2 (List.mem_of_getElem? (i := 135) rfl) rfl)⟩, by decide +kernel, by decide +kernel, by decide⟩
theorem gX5_25 : pm_GR RX5 25 5 5 := ⟨⟨RX5, TX5, 9, rfl, by decide, uw5, (gt_2 (List.mem_of_getElem? (i := 136) rfl) rfl)⟩, by decide +kernel, by decide +kernel, by decide⟩
theorem gX5_28 : pm_GR RX5 28 5 6 := ⟨⟨RX5, TX5, 9, rfl, by decide, uw5, (gt_2 (List.mem_of_getElem? (i := 137) rfl) rfl)⟩, by decide +kernel, by decide +kernel, by decide⟩
theorem gX5_31 : pm_GI RX5 31 5 7 := ⟨⟨RX5, TX5, 9, rfl, by decide, uw5, (gt_2 (List.mem_of_getElem? (i := 138) rfl) rfl)⟩, by decide +kernel, by decide +kernel, by decide⟩
theorem gX5_34 : pm_GI RX5 34 5 8 := ⟨⟨RX5, TX5, 9, rfl, by decide, uw5, (gt_2 (List.mem_of_getElem? (i := 139) rfl) rfl)⟩, by decide +kernel, by decide +kernel, by decide⟩
theorem gX5_37 : pm_GR RX5 37 5 1 := ⟨⟨RX5, TX5, 9, rfl, by decide, uw5, (gt_2 (List.mem_of_getElem? (i := 132) rfl) rfl)⟩, by decide +kernel, by decide +kernel, by decide⟩
theorem gX5_41 : pm_GR RX5 41 5 2 := ⟨⟨RX5, TX5, 9, rfl, by decide, uw5, (gt_2 (List.mem_of_getElem? (i := 133) rfl) rfl)⟩, by decide +kernel, by decide +kernel, by decide⟩
theorem gX5_45 : pm_GR RX5 45 8 2 := ⟨⟨RX8, TX8, 5, rfl, by decide, uw8, (gt_1 (List.mem_of_getElem? (i := 89) rfl) rfl)⟩, by decide +kernel, by decide +kernel, by decide⟩
theorem gX5_56 : pm_GR RX5 56 8 0 := ⟨⟨RX8, TX8, 5, rfl, by decide, uw8, (gt_1 (List.mem_of_getElem? (i := 83) rfl) rfl)⟩, by decide +kernel, by decide +kernel, by decide⟩
theorem gX5_94 : pm_GR RX5 94 0 2 := ⟨⟨RX0, TX0, 15, rfl, by decide, uw0, (gt_1 (List.mem_of_getElem? (i := 237) rfl) rfl)⟩, by decide +kernel, by decide +kernel, by decide⟩
theorem gX5_98 : pm_GI RX5 98 7 6 := ⟨⟨RX7, TX7, 10, rfl, by decide, uw7, (gt_1 (List.mem_of_getElem? (i := 185) rfl) rfl)⟩, by decide +kernel, by decide +kernel, by decide⟩
theorem gX6_18 : pm_GR RX6 18 6 2 := ⟨⟨RX6, TX6, 11, rfl, by decide, uw6, (gt_1 (List.mem_of_getElem? (i := 40) rfl) rfl)⟩, by decide +kernel, by decide +kernel, by decide⟩
theorem gX6_22 : pm_GR RX6 22 6 3 := ⟨⟨RX6, TX6, 11, rfl, by decide, uw6, (gt_1 (List.mem_of_getElem? (i := 41) rfl) rfl)⟩, by decide +kernel, by decide +kernel, by decide⟩
theorem gX6_25 : pm_GR RX6 25 6 4 := ⟨⟨RX6, TX6, 11, rfl, by decide, uw6, (gt_1 (List.mem_of_getElem? (i := 42) rfl) rfl)⟩, by decide +kernel, by decide +kernel, by decide⟩
theorem gX6_28 : pm_GI RX6 28 6 5 := ⟨⟨RX6, TX6, 11, rfl, by decide, uw6, (gt_1 (List.mem_of_getElem? (i := 43) rfl) rfl)⟩, by decide +kernel, by decide +kernel, by decide⟩
theorem gX6_31 : pm_GI RX6 31 6 6 := ⟨⟨RX6, TX6, 11, rfl, by decide, uw6, (gt_1 (List.mem_of_getElem? (i := 44) rfl) rfl)⟩, by decide +kernel, by decide +kernel, by decide⟩
theorem gX6_34 : pm_GR RX6 34 6 7 := ⟨⟨RX6, TX6, 11, rfl, by decide, uw6, (gt_1 (List.mem_of_getElem? (i := 45) rfl) rfl)⟩, by decide +kernel, by decide +kernel, by decide⟩
theorem gX6_38 : pm_GI RX6 38 6 8 := ⟨⟨RX6, TX6, 11, rfl, by decide, uw6, (gt_1 (List.mem_of_getElem? (i := 46) rfl) rfl)⟩, by decide +kernel, by decide +kernel, by decide⟩
theorem gX6_41 : pm_GR RX6 41 6 9 := ⟨⟨RX6, TX6, 11, rfl, by decide, uw6, (gt_1 (List.mem_of_getElem? (i := 47) rfl) rfl)⟩, by decide +kernel, by decide +kernel, by decide⟩
theorem gX6_45 : pm_GR RX6 45 6 10 := ⟨⟨RX6, TX6, 11, rfl, by decide, uw6, (gt_1 (List.mem_of_getElem? (i := 48) rfl) rfl)⟩, by decide +kernel, by decide +kernel, by decide⟩
theorem gX6_67 : pm_GI RX6 67 7 9 := ⟨⟨RX7, TX7, 10, rfl, by decide, uw7, (gt_1 (List.mem_of_getElem? (i := 196) rfl) rfl)⟩, by decide +kernel, by decide +kernel, by decide⟩
theorem gX6_129 : pm_GR RX6 129 7 4 := ⟨⟨RX7, TX7, 10, rfl, by decide, uw7, (gt_1 (List.mem_of_getElem? (i := 180) rfl) rfl)⟩, by decide +kernel, by decide +kernel, by decide⟩
theorem gX6_136 : pm_GR RX6 136 7 5 := ⟨⟨RX7, TX7, 10, rfl, by decide, uw7, (gt_1 (List.mem_of_getElem? (i := 183) rfl) rfl)⟩, by decide +kernel, by decide +kernel, by decide⟩
theorem gX6_148 : pm_GI RX6 148 7 6 := ⟨⟨RX7, TX7, 10, rfl, by decide, uw7, (gt_1 (List.mem_of_getElem? (i := 186) rfl) rfl)⟩, by decide +kernel, by decide +kernel, by decide⟩
theorem gX6_155 : pm_GI RX6 155 7 7 := ⟨⟨RX7, TX7, 10, rfl, by decide, uw7, (gt_1 (List.mem_of_getElem? (i := 189) rfl) rfl)⟩, by decide +kernel, by decide +kernel, by decide⟩
theorem gX6_161 : pm_GR RX6 161 7 3 := ⟨⟨RX7, TX7, 10, rfl, by decide, uw7, (gt_1 (List.mem_of_getElem? (i := 177) rfl) rfl)⟩, by decide +kernel, by decide +kernel, by decide⟩
theorem gX6_164 : pm_GR RX6 164 7 2 := ⟨⟨RX7, TX7, 10, rfl, by decide, uw7, (gt_1 (List.mem_of_getElem? (i := 174) rfl) rfl)⟩, by decide +kernel, by decide +kernel, by decide⟩
theorem gX7_9 : pm_GR RX7 9 7 0 := ⟨⟨RX7, TX7, 10, rfl, by decide, uw7, (gt_1 (List.mem_of_getElem? (i := 169) rfl) rfl)⟩, by decide +kernel, by decide +kernel, by decide⟩
theorem gX7_15 : pm_GR RX7 15 7 1 := ⟨⟨RX7, TX7, 10, rfl, by decide, uw7, (gt_1 (List.mem_of_getElem? (i := 171) rfl) rfl)⟩, by decide +kernel, by decide +kernel, by decide⟩
theorem gX7_18 : pm_GR RX7 18 7 2 := ⟨⟨RX7, TX7, 10, rfl, by decide, uw7, (gt_1 (List.mem_of_getElem? (i := 172) rfl) rfl)⟩, by decide +kernel, by decide +kernel, by decide⟩
theorem gX7_21 : pm_GR RX7 21 7 3 := ⟨⟨RX7, TX7, 10, rfl, by decide, uw7, (gt_1 (List.mem_of_getElem? (i := 175) rfl) rfl)⟩, by decide +kernel, by decide +kernel, by decide⟩
theorem gX7_27 : pm_GR RX7 27 7 4 := ⟨⟨RX7, TX7, 10, rfl, by decide, uw7, (gt_1 (List.mem_of_getElem? (i := 178) rfl) rfl)⟩, by decide +kernel, by decide +kernel, by decide⟩
theorem gX7_31 : pm_GR RX7 31 7 5 := ⟨⟨RX7, TX7, 10, rfl, by decide, uw7, (gt_1 (List.mem_of_getElem? (i := 181) rfl) rfl)⟩, by decide +kernel, by decide +kernel, by decide⟩
theorem gX7_34 : pm_GI RX7 34 7 6 := ⟨⟨RX7, TX7, 10, rfl, by decide, uw7, (gt_1 (List.mem_of_getElem? (i := 184) rfl) rfl)⟩, by decide +kernel, by decide +kernel, by decide⟩
theorem gX7_38 : pm_GI RX7 38 7 7 := ⟨⟨RX7, TX7, 10, rfl, by decide, uw7, (gt_1 (List.mem_of_getElem? (i := 188) rfl) rfl)⟩, by decide +kernel, by decide +kernel, by decide⟩
theorem gX8_9 : pm_GR RX8 9 8 0 := ⟨⟨RX8, TX8, 5, rfl, by decide, uw8, (gt_1 (List.mem_of_getElem? (i := 82) rfl) rfl)⟩, by decide +kernel, by decide +kernel, by decide⟩
theorem gX8_15 : pm_GR RX8 15 8 1 := ⟨⟨RX8, TX8, 5, rfl, by decide, uw8, (gt_1 (List.mem_of_getElem? (i := 86) rfl) rfl)⟩, by decide +kernel, by decide +kernel, by decide⟩
theorem gX8_18 : pm_GR RX8 18 8 2 := ⟨⟨RX8, TX8, 5, rfl, by decide, uw8, (gt_1 (List.mem_of_getElem? (i := 88) rfl) rfl)⟩, by decide +kernel, by decide +kernel, by decide⟩
theorem gX8_21 : pm_GI RX8 21 8 3 := ⟨⟨RX8, TX8, 5, rfl, by decide, uw8, (gt_1 (List.mem_of_getElem? (i := 92) rfl) rfl)⟩, by decide +kernel, by decide +kernel, by decide⟩
theorem gX8_25 : pm_GI RX8 25 8 4 := ⟨⟨RX8, TX8, 5, rfl, by decide, uw8, (gt_1 (List.mem_of_getElem? (i := 95) rfl) rfl)⟩, by decide +kernel, by decide +kernel, by decide⟩
theorem gX8_28 : pm_GR RX8 28 7 2 := ⟨⟨RX7, TX7, 10, rfl, by decide, uw7, (gt_1 (List.mem_of_getElem? (i := 173) rfl) rfl)⟩, by decide +kernel, by decide +kernel, by decide⟩
theorem gX8_37 : pm_GR RX8 37 7 3 := ⟨⟨RX7, TX7, 10, rfl, by decide, uw7, (gt_1 (List.mem_of_getElem? (i := 176) rfl) rfl)⟩, by decide +kernel, by decide +kernel, by decide⟩
theorem gX9_11 : pm_GI RX9 11 9 0 := ⟨⟨RX9, TX9, 3, rfl, by decide, uw9, (gt_1 (List.mem_of_getElem? (i := 136) rfl) rfl)⟩, by decide +kernel, by decide +kernel, by decide⟩
theorem gX9_15 : pm_GI RX9 15 9 1 := ⟨⟨RX9, TX9, 3, rfl, by decide, uw9, (gt_1 (List.mem_of_getElem? (i := 138) rfl) rfl)⟩, by decide +kernel, by decide +kernel, by decide⟩
theorem gX9_18 : pm_GR RX9 18 9 2 := ⟨⟨RX9, TX9, 3, rfl, by decide, uw9, (gt_1 (List.mem_of_getElem? (i := 139) rfl) rfl)⟩, by decide +kernel, by decide +kernel, by decide⟩
theorem gX10_9 : pm_GR RX10 9 10 0 := ⟨⟨RX10, TX10, 11, rfl, by decide, uw10, (gt_2 (List.mem_of_getElem? (i := 81) rfl) rfl)⟩, by decide +kernel, by decide +kernel, by decide⟩
theorem gX10_15 : pm_GR RX10 15 10 1 := ⟨⟨RX10, TX10, 11, rfl, by decide, uw10, (gt_2 (List.mem_of_getElem? (i := 83) rfl) rfl)⟩, by decide +kernel, by decide +kernel, by decide⟩
theorem gX10_18 : pm_GI RX10 18 10 2 := ⟨⟨RX10, TX10, 11, rfl, by decide, uw10, (gt_2 (List.mem_of_getElem? (i := 86) rfl) rfl)⟩, by decide +kernel, by decide +kernel, by decide⟩
theorem gX10_22 : pm_GI RX10 22 10 3 := ⟨⟨RX10, TX10, 11, rfl, by decide, uw10, (gt_2 (List.mem_of_getElem? (i := 89) rfl) rfl)⟩, by decide +kernel, by decide +kernel, by decide⟩
theorem gX10_25 : pm_GR RX10 25 10 5 := ⟨⟨RX10, TX10, 11, rfl, by decide, uw10, (gt_2 (List.mem_of_getElem? (i := 92) rfl) rfl)⟩, by decide +kernel, by decide +kernel, by decide⟩
theorem gX10_28 : pm_GR RX10 28 10 6 := ⟨⟨RX10, TX10, 11, rfl, by decide, uw10, (gt_2 (List.mem_of_getElem? (i := 93) rfl) rfl)⟩, by decide +kernel, by decide +kernel, by decide⟩
theorem gX10_32 : pm_GR RX10 32 10 7 := ⟨⟨RX10, TX10, 11, rfl, by decide, uw10, (gt_2 (List.mem_of_getElem? (i := 94) rfl) rfl)⟩, by decide +kernel, by decide +kernel, by decide⟩
theorem gX10_35 : pm_GR RX10 35 10 8 := ⟨⟨RX10, TX10, 11, rfl, by decide, uw10, (gt_2 (List.mem_of_getElem? (i := 95) rfl) rfl)⟩, by decide +kernel, by decide +kernel, by decide⟩
theorem gX10_38 : pm_GR RX10 38 10 9 := ⟨⟨RX10, TX10, 11, rfl, by decide, uw10, (gt_2 (List.mem_of_getElem? (i := 96) rfl) rfl)⟩, by decide +kernel, by decide +kernel, by decide⟩
theorem gX10_42 : pm_GR RX10 42 10 10 := ⟨⟨RX10, TX10, 11, rfl, by decide, uw10, (gt_2 (List.mem_of_getElem? (i := 97) rfl) rfl)⟩, by decide +kernel, by decide +kernel, by decide⟩
theorem gX10_45 : pm_GR RX10 45 10 4 := ⟨⟨RX10, TX10, 11, rfl, by decide, uw10, (gt_2 (List.mem_of_getElem? (i := 91) rfl) rfl)⟩, by decide +kernel, by decide +kernel, by decide⟩
theorem gX10_55 : pm_GI RX10 55 0 0 := ⟨⟨RX0, TX0, 15, rfl, by decide, uw0, (gt_1 (List.mem_of_getElem? (i := 231) rfl) rfl)⟩, by decide +kernel, by decide +kernel, by decide⟩
theorem gX12_13 : pm_GR RX12 13 12 1 := ⟨⟨RX12, TX12, 39, rfl, by decide, uw12, (gt_6 (List.mem_of_getElem? (i := 42) rfl) rfl)⟩, by decide +kernel, by decide +kernel, by decide⟩
theorem gX12_17 : pm_GR RX12 17 12 2 := ⟨⟨RX12, TX12, 39, rfl, by decide, uw12, (gt_6 (List.mem_of_getElem? (i := 43) rfl) rfl)⟩, by decide +kernel, by decide +kernel, by decide⟩
theorem gX12_21 : pm_GR RX12 21 12 3 := ⟨⟨RX12, TX12, 39, rfl, by decide, uw12, (gt_6 (List.mem_of_getElem? (i := 44) rfl) rfl)⟩, by decide +kernel, by decide +kernel, by decide⟩
theorem gX12_24 : pm_GR RX12 24 12 4 := ⟨⟨RX12, TX12, 39, rfl, by decide, uw12, (gt_6 (List.mem_of_getElem? (i := 45) rfl) rfl)⟩, by decide +kernel, by decide +kernel, by decide⟩
theorem gX12_27 : pm_GI RX12 27 12 14 := ⟨⟨RX12, TX12, 39, rfl, by decide, uw12, (gt_6 (List.mem_of_getElem? (i := 55) rfl) rfl)⟩, by decide +kernel, by decide +kernel, by decide⟩
theorem gX12_30 : pm_GR RX12 30 12 15 := ⟨⟨RX12, TX12, 39, rfl, by decide, uw12, (gt_6 (List.mem_of_getElem? (i := 56) rfl) rfl)⟩, by decide +kernel, by decide +kernel, by decide⟩
theorem gX12_33 : pm_GR RX12 33 12 16 := ⟨⟨RX12, TX12, 39, rfl, by decide, uw12, (gt_6 (List.mem_of_getElem? (i := 57) rfl) rfl)⟩, by decide +kernel, by decide +kernel, by decide⟩
theorem gX12_36 : pm_GR RX12 36 12 17 := ⟨⟨RX12, TX12, 39, rfl, by decide, uw12, (gt_6 (List.mem_of_getElem? (i := 58) rfl) rfl)⟩, by decide +kernel, by decide +kernel, by decide⟩
theorem gX12_39 : pm_GR RX12 39 12 18 := ⟨⟨RX12, TX12, 39, rfl, by decide, uw12, (gt_6 (List.mem_of_getElem? (i := 59) rfl) rfl)⟩, by decide +kernel, by decide +kernel, by decide⟩
theorem gX12_42 : pm_GR RX12 42 12 19 := ⟨⟨RX12, TX12, 39, rfl, by decide, uw12, (gt_6 (List.mem_of_getElem? (i := 60) rfl) rfl)⟩, by decide +kernel, by decide +kernel, by decide⟩
theorem gX12_45 : pm_GR RX12 45 12 23 := ⟨⟨RX12, TX12, 39, rfl, by decide, uw12, (gt_6 (List.mem_of_getElem? (i := 64) rfl) rfl)⟩, by decide +kernel, by decide +kernel, by decide⟩
theorem gX12_48 : pm_GR RX12 48 12 25 := ⟨⟨RX12, TX12, 39, rfl, by decide, uw12, (gt_6 (List.mem_of_getElem? (i := 66) rfl) rfl)⟩, by decide +kernel, by decide +kernel, by decide⟩
theorem gX12_51 : pm_GR RX12 51 12 28 := ⟨⟨RX12, TX12, 39, rfl, by decide, uw12, (gt_6 (List.mem_of_getElem? (i := 69) rfl) rfl)⟩, by decide +kernel, by decide +kernel, by decide⟩
theorem gX12_55 : pm_GR RX12 55 12 29 := ⟨⟨RX12, TX12, 39, rfl, by decide, uw12, (gt_6 (List.mem_of_getElem? (i := 70) rfl) rfl)⟩, by decide +kernel, by decide +kernel, by decide⟩
theorem gX12_58 : pm_GR RX12 58 12 30 := ⟨⟨RX12, TX12, 39, rfl, by decide, uw12, (gt_6 (List.mem_of_getElem? (i := 71) rfl) rfl)⟩, by decide +kernel, by decide +kernel, by decide⟩
theorem gX12_61 : pm_GR RX12 61 12 31 := ⟨⟨RX12, TX12, 39, rfl, by decide, uw12, (gt_6 (List.mem_of_getElem? (i := 72) rfl) rfl)⟩, by decide +kernel, by decide +kernel, by decide⟩
theorem gX12_64 : pm_GR RX12 64 12 32 := ⟨⟨RX12, TX12, 39, rfl, by decide, uw12, (gt_6 (List.mem_of_getElem? (i := 73) rfl) rfl)⟩, by decide +kernel, by decide +kernel, by decide⟩
theorem gX12_67 : pm_GR RX12 67 12 33 := ⟨⟨RX12, TX12, 39, rfl, by decide, uw12, (gt_6 (List.mem_of_getElem? (i := 74) rfl) rfl)⟩, by decide +kernel, by decide +kernel, by decide⟩
theorem gX12_70 : pm_GR RX12 70 12 34 := ⟨⟨RX12, TX12, 39, rfl, by decide, uw12, (gt_6 (List.mem_of_getElem? (i := 75) rfl) rfl)⟩, by decide +kernel, by decide +kernel, by decide⟩
theorem gX12_73 : pm_GR RX12 73 12 35 := ⟨⟨RX12, TX12, 39, rfl, by decide, uw12, (gt_6 (List.mem_of_getElem? (i := 76) rfl) rfl)⟩, by decide +kernel, by decide +kernel, by decide⟩
theorem gX12_76 : pm_GR RX12 76 12 36 := ⟨⟨RX12, TX12, 39, rfl, by decide, uw12, (gt_6 (List.mem_of_getElem? (i := 77) rfl) rfl)⟩, by decide +kernel, by decide +kernel, by decide⟩
theorem gX12_79 : pm_GR RX12 79 12 37 := ⟨⟨RX12, TX12, 39, rfl, by decide, uw12, (gt_6 (List.mem_of_getElem? (i := 78) rfl) rfl)⟩, by decide +kernel, by decide +kernel, by decide⟩
theorem gX12_82 : pm_GR RX12 82 12 38 := ⟨⟨RX12, TX12, 39, rfl, by decide, uw12, (gt_6 (List.mem_of_getElem? (i := 79) rfl) rfl)⟩, by decide +kernel, by decide +kernel, by decide⟩
theorem gX12_89 : pm_GI RX12 89 12 5 := ⟨⟨RX12, TX12, 39, rfl, by decide, uw12, (gt_6 (List.mem_of_getElem? (i := 46) rfl) rfl)⟩, by decide +kernel, by decide +kernel, by decide⟩
theorem gX12_93 : pm_GI RX12 93 12 8 := ⟨⟨RX12, TX12, 39, rfl, by decide, uw12, (gt_6 (List.mem_of_getElem? (i := 49) rfl) rfl)⟩, by decide +kernel, by decide +kernel, by decide⟩
theorem gX12_108 : pm_GI RX12 108 12 6 := ⟨⟨RX12, TX12, 39, rfl, by decide, uw12, (gt_6 (List.mem_of_getElem? (i := 47) rfl) rfl)⟩, by decide +kernel, by decide +kernel, by decide⟩
theorem gX12_111 : pm_GI RX12 111 12 7 := ⟨⟨RX12, TX12, 39, rfl, by decide, uw12, (gt_6 (List.mem_of_getElem? (i := 48) rfl) rfl)⟩, by decide +kernel, by decide +kernel, by decide⟩
theorem gX12_118 : pm_GI RX12 118 12 9 := ⟨⟨RX12, TX12, 39, rfl, by decide, uw12, (gt_6 (List.mem_of_getElem? (i := 50) rfl) rfl)⟩, by decide +kernel, by decide +kernel, by decide⟩
theorem gX12_131 : pm_GI RX12 131 12 10 := ⟨⟨RX12, TX12, 39, rfl, by decide, uw12, (gt_6 (List.mem_of_getElem? (i := 51) rfl) rfl)⟩, by decide +kernel, by decide +kernel, by decide⟩
theorem gX12_136 : pm_GI RX12 136 12 11 := ⟨⟨RX12, TX12, 39, rfl, by decide, uw12, (gt_6 (List.mem_of_getElem? (i := 52) rfl) rfl)⟩, by decide +kernel, by decide +kernel, by decide⟩
theorem gX12_139 : pm_GI RX12 139 12 12 := ⟨⟨RX12, TX12, 39, rfl, by decide, uw12, (gt_6 (List.mem_of_getElem? (i := 53) rfl) rfl)⟩, by decide +kernel, by decide +kernel, by decide⟩
theorem gX12_213 : pm_GI RX12 213 12 13 := ⟨⟨RX12, TX12, 39, rfl, by decide, uw12, (gt_6 (List.mem_of_getElem? (i := 54) rfl) rfl)⟩, by decide +kernel, by decide +kernel, by decide⟩
theorem gX12_274 : pm_GI RX12 274 12 24 := ⟨⟨RX12, TX12, 39, rfl, by decide, uw12, (gt_6 (List.mem_of_getElem? (i := 65) rfl) rfl)⟩, by decide +kernel, by decide +kernel, by decide⟩
theorem gX12_290 : pm_GI RX12 290 12 20 := ⟨⟨RX12, TX12, 39, rfl, by decide, uw12, (gt_6 (List.mem_of_getElem? (i := 61) rfl) rfl)⟩, by decide +kernel, by decide +kernel, by decide⟩
theorem gX12_293 : pm_GI RX12 293 12 21 := ⟨⟨RX12, TX12, 39, rfl, by decide, uw12, (gt_6 (List.mem_of_getElem? (i := 62) rfl) rfl)⟩, by decide +kernel, by decide +kernel, by decide⟩
theorem gX12_309 : pm_GI RX12 309 12 22 := ⟨⟨RX12, TX12, 39, rfl, by decide, uw12, (gt_6 (List.mem_of_getElem? (i := 63) rfl) rfl)⟩, by decide +kernel, by decide +kernel, by decide⟩
theorem gX12_375 : pm_GI RX12 375 12 26 := ⟨⟨RX12, TX12, 39, rfl, by decide, uw12, (gt_6 (List.mem_of_getElem? (i := 67) rfl) rfl)⟩, by decide +kernel, by decide +kernel, by decide⟩
theorem gX12_401 : pm_GI RX12 401 12 27 := ⟨⟨RX12, TX12, 39, rfl, by decide, uw12, (gt_6 (List.mem_of_getElem? (i := 68) rfl) rfl)⟩, by decide +kernel, by decide +kernel, by decide⟩
theorem pX11_11 (y : MethodName) (hy : y.cls = RX11) (hn : y.name = "<init>") : pm_PR y 11 11 0 (.array .byte) := ⟨⟨RX11, TX11, 18, tyX11, rfl, by decide, uw11, (by rw [hy]; exact (gt_2 (List.mem_of_getElem? (i := 182) rfl) rfl)), tyX11_ok, nmX11, rfl, Or.inr ⟨rfl, hn, hy.symm⟩⟩, by decide +kernel, by decide +kernel, by decide, Or.inr ⟨_, rfl⟩⟩
theorem pX11_15 (y : MethodName) (hy : y.cls = RX11) : pm_PI y 15 11 1 .int := ⟨⟨RX11, TX11, 18, tyX11, rfl, by decide, uw11, (by rw [hy]; exact (gt_2 (List.mem_of_getElem? (i := 183) rfl) rfl)), tyX11_ok, nmX11, rfl, Or.inl rfl⟩, by decide +kernel, by decide +kernel, by decide⟩
theorem pX11_22 (y : MethodName) (hy : y.cls = RX11) (hn : y.name = "<init>") : pm_PR y 22 11 2 (.object "RubatoDesk$Reader") := ⟨⟨RX11, TX11, 18, tyX11, rfl, by decide, uw11, (by rw [hy]; exact (gt_2 (List.mem_of_getElem? (i := 184) rfl) rfl)), tyX11_ok, nmX11, rfl, Or.inr ⟨rfl, hn, hy.symm⟩⟩, by decide +kernel, by decide +kernel, by decide, Or.inl ⟨_, rfl⟩⟩
theorem pX11_28 (y : MethodName) (hy : y.cls = RX11) (hn : y.name = "<init>") : pm_PR y 28 11 3 (.array (.object "RubatoDesk$Sheet")) := ⟨⟨RX11, TX11, 18, tyX11, rfl, by decide, uw11, (by rw [hy]; exact (gt_2 (List.mem_of_getElem? (i := 185) rfl) rfl)), tyX11_ok, nmX11, rfl, Or.inr ⟨rfl, hn, hy.symm⟩⟩, by decide +kernel, by decide +kernel, by decide, Or.inr ⟨_, rfl⟩⟩
theorem pX11_35 (y : MethodName) (hy : y.cls = RX11) (hn : y.name = "<init>") : pm_PR y 35 11 5 (.object "RubatoDesk$State") := ⟨⟨RX11, TX11, 18, tyX11, rfl, by decide, uw11, (by rw [hy]; exact (gt_2 (List.mem_of_getElem? (i := 187) rfl) rfl)), tyX11_ok, nmX11, rfl, Or.inr ⟨rfl, hn, hy.symm⟩⟩, by decide +kernel, by decide +kernel, by decide, Or.inl ⟨_, rfl⟩⟩
theorem pX11_39 (y : MethodName) (hy : y.cls = RX11) (hn : y.name = "<init>") : pm_PR y 39 11 6 (.object "RubatoDesk$State") := ⟨⟨RX11, TX11, 18, tyX11, rfl, by decide, uw11, (by rw [hy]; exact (gt_2 (List.mem_of_getElem? (i := 188) rfl) rfl)), tyX11_ok, nmX11, rfl, Or.inr ⟨rfl, hn, hy.symm⟩⟩, by decide +kernel, by decide +kernel, by decide, Or.inl ⟨_, rfl⟩⟩
theorem pX11_45 (y : MethodName) (hy : y.cls = RX11) (hn : y.name = "<init>") : pm_PR y 45 11 7 (.object "RubatoDesk$History") := ⟨⟨RX11, TX11, 18, tyX11, rfl, by decide, uw11, (by rw [hy]; exact (gt_2 (List.mem_of_getElem? (i := 189) rfl) rfl)), tyX11_ok, nmX11, rfl, Or.inr ⟨rfl, hn, hy.symm⟩⟩, by decide +kernel, by decide +kernel, by decide, Or.inl ⟨_, rfl⟩⟩
theorem pX11_49 (y : MethodName) (hy : y.cls = RX11) (hn : y.name = "<init>") : pm_PR y 49 11 8 (.array (.object "RubatoDesk$Sheet")) := ⟨⟨RX11, TX11, 18, tyX11, rfl, by decide, uw11, (by rw [hy]; exact (gt_2 (List.mem_of_getElem? (i := 190) rfl) rfl)), tyX11_ok, nmX11, rfl, Or.inr ⟨rfl, hn, hy.symm⟩⟩, by decide +kernel, by decide +kernel, by decide, Or.inr ⟨_, rfl⟩⟩
theorem pX11_52 (y : MethodName) (hy : y.cls = RX11) (hn : y.name = "<init>") : pm_PR y 52 11 9 (.array (.object "RubatoDesk$State")) := ⟨⟨RX11, TX11, 18, tyX11, rfl, by decide, uw11, (by rw [hy]; exact (gt_2 (List.mem_of_getElem? (i := 191) rfl) rfl)), tyX11_ok, nmX11, rfl, Or.inr ⟨rfl, hn, hy.symm⟩⟩, by decide +kernel, by decide +kernel, by decide, Or.inr ⟨_, rfl⟩⟩
theorem pX11_58 (y : MethodName) (hy : y.cls = RX11) (hn : y.name = "<init>") : pm_PR y 58 11 10 (.array (.object "RubatoDesk$Tray")) := ⟨⟨RX11, TX11, 18, tyX11, rfl, by decide, uw11, (by rw [hy]; exact (gt_2 (List.mem_of_getElem? (i := 192) rfl) rfl)), tyX11_ok, nmX11, rfl, Or.inr ⟨rfl, hn, hy.symm⟩⟩, by decide +kernel, by decide +kernel, by decide, Or.inr ⟨_, rfl⟩⟩
theorem pX11_62 (y : MethodName) (hy : y.cls = RX11) (hn : y.name = "<init>") : pm_PR y 62 11 16 (.array .int) := ⟨⟨RX11, TX11, 18, tyX11, rfl, by decide, uw11, (by rw [hy]; exact (gt_2 (List.mem_of_getElem? (i := 198) rfl) rfl)), tyX11_ok, nmX11, rfl, Or.inr ⟨rfl, hn, hy.symm⟩⟩, by decide +kernel, by decide +kernel, by decide, Or.inr ⟨_, rfl⟩⟩
theorem pX11_66 (y : MethodName) (hy : y.cls = RX11) (hn : y.name = "<init>") : pm_PR y 66 11 17 (.array .int) := ⟨⟨RX11, TX11, 18, tyX11, rfl, by decide, uw11, (by rw [hy]; exact (gt_2 (List.mem_of_getElem? (i := 199) rfl) rfl)), tyX11_ok, nmX11, rfl, Or.inr ⟨rfl, hn, hy.symm⟩⟩, by decide +kernel, by decide +kernel, by decide, Or.inr ⟨_, rfl⟩⟩
theorem pX11_71 (y : MethodName) (hy : y.cls = RX11) : pm_PR y 71 11 4 (.object "RubatoDesk$Sheet") := ⟨⟨RX11, TX11, 18, tyX11, rfl, by decide, uw11, (by rw [hy]; exact (gt_2 (List.mem_of_getElem? (i := 186) rfl) rfl)), tyX11_ok, nmX11, rfl, Or.inl rfl⟩, by decide +kernel, by decide +kernel, by decide, Or.inl ⟨_, rfl⟩⟩
theorem pX11_80 (y : MethodName) (hy : y.cls = RX11) (hn : y.name = "<init>") : pm_PR y 80 11 11 (.object "RubatoDesk$Bars") := ⟨⟨RX11, TX11, 18, tyX11, rfl, by decide, uw11, (by rw [hy]; exact (gt_2 (List.mem_of_getElem? (i := 193) rfl) rfl)), tyX11_ok, nmX11, rfl, Or.inr ⟨rfl, hn, hy.symm⟩⟩, by decide +kernel, by decide +kernel, by decide, Or.inl ⟨_, rfl⟩⟩
theorem pX11_89 (y : MethodName) (hy : y.cls = RX11) (hn : y.name = "<init>") : pm_PR y 89 11 12 (.object "RubatoDesk$Course") := ⟨⟨RX11, TX11, 18, tyX11, rfl, by decide, uw11, (by rw [hy]; exact (gt_2 (List.mem_of_getElem? (i := 194) rfl) rfl)), tyX11_ok, nmX11, rfl, Or.inr ⟨rfl, hn, hy.symm⟩⟩, by decide +kernel, by decide +kernel, by decide, Or.inl ⟨_, rfl⟩⟩
theorem pX11_96 (y : MethodName) (hy : y.cls = RX11) (hn : y.name = "<init>") : pm_PR y 96 11 13 (.object "RubatoDesk$Ways") := ⟨⟨RX11, TX11, 18, tyX11, rfl, by decide, uw11, (by rw [hy]; exact (gt_2 (List.mem_of_getElem? (i := 195) rfl) rfl)), tyX11_ok, nmX11, rfl, Or.inr ⟨rfl, hn, hy.symm⟩⟩, by decide +kernel, by decide +kernel, by decide, Or.inl ⟨_, rfl⟩⟩
theorem pX11_105 (y : MethodName) (hy : y.cls = RX11) (hn : y.name = "<init>") : pm_PR y 105 11 14 (.object "RubatoDesk$Orders") := ⟨⟨RX11, TX11, 18, tyX11, rfl, by decide, uw11, (by rw [hy]; exact (gt_2 (List.mem_of_getElem? (i := 196) rfl) rfl)), tyX11_ok, nmX11, rfl, Or.inr ⟨rfl, hn, hy.symm⟩⟩, by decide +kernel, by decide +kernel, by decide, Or.inl ⟨_, rfl⟩⟩
theorem pX11_114 (y : MethodName) (hy : y.cls = RX11) (hn : y.name = "<init>") : pm_PR y 114 11 15 (.object "RubatoDesk$Deeds") := ⟨⟨RX11, TX11, 18, tyX11, rfl, by decide, uw11, (by rw [hy]; exact (gt_2 (List.mem_of_getElem? (i := 197) rfl) rfl)), tyX11_ok, nmX11, rfl, Or.inr ⟨rfl, hn, hy.symm⟩⟩, by decide +kernel, by decide +kernel, by decide, Or.inl ⟨_, rfl⟩⟩
theorem pX0_9 (y : MethodName) (hy : y.cls = RX0) : pm_PI y 9 0 0 .int := ⟨⟨RX0, TX0, 15, tyX0, rfl, by decide, uw0, (by rw [hy]; exact (gt_1 (List.mem_of_getElem? (i := 230) rfl) rfl)), tyX0_ok, nmX0, rfl, Or.inl rfl⟩, by decide +kernel, by decide +kernel, by decide⟩
theorem pX0_15 (y : MethodName) (hy : y.cls = RX0) : pm_PI y 15 0 1 .boolean := ⟨⟨RX0, TX0, 15, tyX0, rfl, by decide, uw0, (by rw [hy]; exact (gt_1 (List.mem_of_getElem? (i := 233) rfl) rfl)), tyX0_ok, nmX0, rfl, Or.inl rfl⟩, by decide +kernel, by decide +kernel, by decide⟩
theorem pX0_19 (y : MethodName) (hy : y.cls = RX0) : pm_PI y 19 0 3 .boolean := ⟨⟨RX0, TX0, 15, tyX0, rfl, by decide, uw0, (by rw [hy]; exact (gt_1 (List.mem_of_getElem? (i := 238) rfl) rfl)), tyX0_ok, nmX0, rfl, Or.inl rfl⟩, by decide +kernel, by decide +kernel, by decide⟩
theorem pX0_22 (y : MethodName) (hy : y.cls = RX0) : pm_PI y 22 0 4 .boolean := ⟨⟨RX0, TX0, 15, tyX0, rfl, by decide, uw0, (by rw [hy]; exact (gt_1 (List.mem_of_getElem? (i := 239) rfl) rfl)), tyX0_ok, nmX0, rfl, Or.inl rfl⟩, by decide +kernel, by decide +kernel, by decide⟩
theorem pX0_25 (y : MethodName) (hy : y.cls = RX0) : pm_PI y 25 0 5 .boolean := ⟨⟨RX0, TX0, 15, tyX0, rfl, by decide, uw0, (by rw [hy]; exact (gt_2 (List.mem_of_getElem? (i := 0) rfl) rfl)), tyX0_ok, nmX0, rfl, Or.inl rfl⟩, by decide +kernel, by decide +kernel, by decide⟩
theorem pX0_28 (y : MethodName) (hy : y.cls = RX0) : pm_PI y 28 0 6 .int := ⟨⟨RX0, TX0, 15, tyX0, rfl, by decide, uw0, (by rw [hy]; exact (gt_2 (List.mem_of_getElem? (i := 1) rfl) rfl)), tyX0_ok, nmX0, rfl, Or.inl rfl⟩, by decide +kernel, by decide +kernel, by decide⟩
theorem pX0_33 (y : MethodName) (hy : y.cls = RX0) (hn : y.name = "<init>") : pm_PR y 33 0 7 (.array .int) := ⟨⟨RX0, TX0, 15, tyX0, rfl, by decide, uw0, (by rw [hy]; exact (gt_2 (List.mem_of_getElem? (i := 2) rfl) rfl)), tyX0_ok, nmX0, rfl, Or.inr ⟨rfl, hn, hy.symm⟩⟩, by decide +kernel, by decide +kernel, by decide, Or.inr ⟨_, rfl⟩⟩
theorem pX0_39 (y : MethodName) (hy : y.cls = RX0) (hn : y.name = "<init>") : pm_PR y 39 0 8 (.array .int) := ⟨⟨RX0, TX0, 15, tyX0, rfl, by decide, uw0, (by rw [hy]; exact (gt_2 (List.mem_of_getElem? (i := 3) rfl) rfl)), tyX0_ok, nmX0, rfl, Or.inr ⟨rfl, hn, hy.symm⟩⟩, by decide +kernel, by decide +kernel, by decide, Or.inr ⟨_, rfl⟩⟩
theorem pX0_44 (y : MethodName) (hy : y.cls = RX0) (hn : y.name = "<init>") : pm_PR y 44 0 9 (.array (.array .long)) := ⟨⟨RX0, TX0, 15, tyX0, rfl, by decide, uw0, (by rw [hy]; exact (gt_2 (List.mem_of_getElem? (i := 4) rfl) rfl)), tyX0_ok, nmX0, rfl, Or.inr ⟨rfl, hn, hy.symm⟩⟩, by decide +kernel, by decide +kernel, by decide, Or.inr ⟨_, rfl⟩⟩
theorem pX0_48 (y : MethodName) (hy : y.cls = RX0) (hn : y.name = "<init>") : pm_PR y 48 0 10 (.array .int) := ⟨⟨RX0, TX0, 15, tyX0, rfl, by decide, uw0, (by rw [hy]; exact (gt_2 (List.mem_of_getElem? (i := 5) rfl) rfl)), tyX0_ok, nmX0, rfl, Or.inr ⟨rfl, hn, hy.symm⟩⟩, by decide +kernel, by decide +kernel, by decide, Or.inr ⟨_, rfl⟩⟩
theorem pX0_51 (y : MethodName) (hy : y.cls = RX0) (hn : y.name = "<init>") : pm_PR y 51 0 11 (.array .int) := ⟨⟨RX0, TX0, 15, tyX0, rfl, by decide, uw0, (by rw [hy]; exact (gt_2 (List.mem_of_getElem? (i := 6) rfl) rfl)), tyX0_ok, nmX0, rfl, Or.inr ⟨rfl, hn, hy.symm⟩⟩, by decide +kernel, by decide +kernel, by decide, Or.inr ⟨_, rfl⟩⟩
theorem pX0_54 (y : MethodName) (hy : y.cls = RX0) : pm_PI y 54 0 12 .int := ⟨⟨RX0, TX0, 15, tyX0, rfl, by decide, uw0, (by rw [hy]; exact (gt_2 (List.mem_of_getElem? (i := 7) rfl) rfl)), tyX0_ok, nmX0, rfl, Or.inl rfl⟩, by decide +kernel, by decide +kernel, by decide⟩
theorem pX0_57 (y : MethodName) (hy : y.cls = RX0) : pm_PR y 57 0 13 (.array .long) := ⟨⟨RX0, TX0, 15, tyX0, rfl, by decide, uw0, (by rw [hy]; exact (gt_2 (List.mem_of_getElem? (i := 8) rfl) rfl)), tyX0_ok, nmX0, rfl, Or.inl rfl⟩, by decide +kernel, by decide +kernel, by decide, Or.inr ⟨_, rfl⟩⟩
theorem pX0_60 (y : MethodName) (hy : y.cls = RX0) : pm_PI y 60 0 14 .int := ⟨⟨RX0, TX0, 15, tyX0, rfl, by decide, uw0, (by rw [hy]; exact (gt_2 (List.mem_of_getElem? (i := 9) rfl) rfl)), tyX0_ok, nmX0, rfl, Or.inl rfl⟩, by decide +kernel, by decide +kernel, by decide⟩
theorem pX0_63 (y : MethodName) (hy : y.cls = RX0) : pm_PR y 63 0 2 (.object "RubatoDesk$Sheet") := ⟨⟨RX0, TX0, 15, tyX0, rfl, by decide, uw0, (by rw [hy]; exact (gt_1 (List.mem_of_getElem? (i := 234) rfl) rfl)), tyX0_ok, nmX0, rfl, Or.inl rfl⟩, by decide +kernel, by decide +kernel, by decide, Or.inl ⟨_, rfl⟩⟩
theorem pX1_9 (y : MethodName) (hy : y.cls = RX1) : pm_PI y 9 1 0 .int := ⟨⟨RX1, TX1, 7, tyX1, rfl, by decide, uw1, (by rw [hy]; exact (gt_2 (List.mem_of_getElem? (i := 47) rfl) rfl)), tyX1_ok, nmX1, rfl, Or.inl rfl⟩, by decide +kernel, by decide +kernel, by decide⟩
theorem pX1_15 (y : MethodName) (hy : y.cls = RX1) : pm_PI y 15 1 1 .int := ⟨⟨RX1, TX1, 7, tyX1, rfl, by decide, uw1, (by rw [hy]; exact (gt_2 (List.mem_of_getElem? (i := 50) rfl) rfl)), tyX1_ok, nmX1, rfl, Or.inl rfl⟩, by decide +kernel, by decide +kernel, by decide⟩
theorem pX1_18 (y : MethodName) (hy : y.cls = RX1) : pm_PI y 18 1 2 .int := ⟨⟨RX1, TX1, 7, tyX1, rfl, by decide, uw1, (by rw [hy]; exact (gt_2 (List.mem_of_getElem? (i := 53) rfl) rfl)), tyX1_ok, nmX1, rfl, Or.inl rfl⟩, by decide +kernel, by decide +kernel, by decide⟩
theorem pX1_21 (y : MethodName) (hy : y.cls = RX1) (hn : y.name = "<init>") : pm_PR y 21 1 4 (.array .int) := ⟨⟨RX1, TX1, 7, tyX1, rfl, by decide, uw1, (by rw [hy]; exact (gt_2 (List.mem_of_getElem? (i := 56) rfl) rfl)), tyX1_ok, nmX1, rfl, Or.inr ⟨rfl, hn, hy.symm⟩⟩, by decide +kernel, by decide +kernel, by decide, Or.inr ⟨_, rfl⟩⟩
theorem pX1_25 (y : MethodName) (hy : y.cls = RX1) : pm_PR y 25 1 5 (.array .long) := ⟨⟨RX1, TX1, 7, tyX1, rfl, by decide, uw1, (by rw [hy]; exact (gt_2 (List.mem_of_getElem? (i := 57) rfl) rfl)), tyX1_ok, nmX1, rfl, Or.inl rfl⟩, by decide +kernel, by decide +kernel, by decide, Or.inr ⟨_, rfl⟩⟩
theorem pX1_29 (y : MethodName) (hy : y.cls = RX1) : pm_PR y 29 1 6 (.array .long) := ⟨⟨RX1, TX1, 7, tyX1, rfl, by decide, uw1, (by rw [hy]; exact (gt_2 (List.mem_of_getElem? (i := 58) rfl) rfl)), tyX1_ok, nmX1, rfl, Or.inl rfl⟩, by decide +kernel, by decide +kernel, by decide, Or.inr ⟨_, rfl⟩⟩
theorem pX1_32 (y : MethodName) (hy : y.cls = RX1) (hn : y.name = "<init>") : pm_PR y 32 1 3 (.object "RubatoDesk$Bars") := ⟨⟨RX1, TX1, 7, tyX1, rfl, by decide, uw1, (by rw [hy]; exact (gt_2 (List.mem_of_getElem? (i := 55) rfl) rfl)), tyX1_ok, nmX1, rfl, Or.inr ⟨rfl, hn, hy.symm⟩⟩, by decide +kernel, by decide +kernel, by decide, Or.inl ⟨_, rfl⟩⟩
theorem pX2_9 (y : MethodName) (hy : y.cls = RX2) : pm_PI y 9 2 0 .int := ⟨⟨RX2, TX2, 5, tyX2, rfl, by decide, uw2, (by rw [hy]; exact (gt_2 (List.mem_of_getElem? (i := 165) rfl) rfl)), tyX2_ok, nmX2, rfl, Or.inl rfl⟩, by decide +kernel, by decide +kernel, by decide⟩
theorem pX2_15 (y : MethodName) (hy : y.cls = RX2) : pm_PI y 15 2 4 .int := ⟨⟨RX2, TX2, 5, tyX2, rfl, by decide, uw2, (by rw [hy]; exact (gt_2 (List.mem_of_getElem? (i := 170) rfl) rfl)), tyX2_ok, nmX2, rfl, Or.inl rfl⟩, by decide +kernel, by decide +kernel, by decide⟩
theorem pX2_18 (y : MethodName) (hy : y.cls = RX2) (hn : y.name = "<init>") : pm_PR y 18 2 1 (.object "RubatoDesk$Bars") := ⟨⟨RX2, TX2, 5, tyX2, rfl, by decide, uw2, (by rw [hy]; exact (gt_2 (List.mem_of_getElem? (i := 167) rfl) rfl)), tyX2_ok, nmX2, rfl, Or.inr ⟨rfl, hn, hy.symm⟩⟩, by decide +kernel, by decide +kernel, by decide, Or.inl ⟨_, rfl⟩⟩
theorem pX2_22 (y : MethodName) (hy : y.cls = RX2) (hn : y.name = "<init>") : pm_PR y 22 2 2 (.object "RubatoDesk$Course") := ⟨⟨RX2, TX2, 5, tyX2, rfl, by decide, uw2, (by rw [hy]; exact (gt_2 (List.mem_of_getElem? (i := 168) rfl) rfl)), tyX2_ok, nmX2, rfl, Or.inr ⟨rfl, hn, hy.symm⟩⟩, by decide +kernel, by decide +kernel, by decide, Or.inl ⟨_, rfl⟩⟩
theorem pX2_26 (y : MethodName) (hy : y.cls = RX2) (hn : y.name = "<init>") : pm_PR y 26 2 3 (.object "RubatoDesk$Ways") := ⟨⟨RX2, TX2, 5, tyX2, rfl, by decide, uw2, (by rw [hy]; exact (gt_2 (List.mem_of_getElem? (i := 169) rfl) rfl)), tyX2_ok, nmX2, rfl, Or.inr ⟨rfl, hn, hy.symm⟩⟩, by decide +kernel, by decide +kernel, by decide, Or.inl ⟨_, rfl⟩⟩
theorem pX2_93 (y : MethodName) (hy : y.cls = RX2) : pm_PI y 93 8 3 .int := ⟨⟨RX8, TX8, 5, tyX8, rfl, by decide, uw8, (by rw [hy]; exact (gt_1 (List.mem_of_getElem? (i := 93) rfl) rfl)), tyX8_ok, nmX8, rfl, Or.inl rfl⟩, by decide +kernel, by decide +kernel, by decide⟩
theorem pX2_96 (y : MethodName) (hy : y.cls = RX2) : pm_PI y 96 8 4 .int := ⟨⟨RX8, TX8, 5, tyX8, rfl, by decide, uw8, (by rw [hy]; exact (gt_1 (List.mem_of_getElem? (i := 96) rfl) rfl)), tyX8_ok, nmX8, rfl, Or.inl rfl⟩, by decide +kernel, by decide +kernel, by decide⟩
theorem pX3_9 (y : MethodName) (hy : y.cls = RX3) : pm_PI y 9 3 0 .int := ⟨⟨RX3, TX3, 3, tyX3, rfl, by decide, uw3, (by rw [hy]; exact (gt_1 (List.mem_of_getElem? (i := 118) rfl) rfl)), tyX3_ok, nmX3, rfl, Or.inl rfl⟩, by decide +kernel, by decide +kernel, by decide⟩
theorem pX3_17 (y : MethodName) (hy : y.cls = RX3) (hn : y.name = "<init>") : pm_PR y 17 3 1 (.array (.object "RubatoDesk$State")) := ⟨⟨RX3, TX3, 3, tyX3, rfl, by decide, uw3, (by rw [hy]; exact (gt_1 (List.mem_of_getElem? (i := 120) rfl) rfl)), tyX3_ok, nmX3, rfl, Or.inr ⟨rfl, hn, hy.symm⟩⟩, by decide +kernel, by decide +kernel, by decide, Or.inr ⟨_, rfl⟩⟩
theorem pX3_21 (y : MethodName) (hy : y.cls = RX3) : pm_PI y 21 3 2 .int := ⟨⟨RX3, TX3, 3, tyX3, rfl, by decide, uw3, (by rw [hy]; exact (gt_1 (List.mem_of_getElem? (i := 121) rfl) rfl)), tyX3_ok, nmX3, rfl, Or.inl rfl⟩, by decide +kernel, by decide +kernel, by decide⟩
theorem pX4_9 (y : MethodName) (hy : y.cls = RX4) (hn : y.name = "<init>") : pm_PR y 9 4 0 (.array .int) := ⟨⟨RX4, TX4, 3, tyX4, rfl, by decide, uw4, (by rw [hy]; exact (gt_1 (List.mem_of_getElem? (i := 159) rfl) rfl)), tyX4_ok, nmX4, rfl, Or.inr ⟨rfl, hn, hy.symm⟩⟩, by decide +kernel, by decide +kernel, by decide, Or.inr ⟨_, rfl⟩⟩
theorem pX4_15 (y : MethodName) (hy : y.cls = RX4) : pm_PI y 15 4 1 .int := ⟨⟨RX4, TX4, 3, tyX4, rfl, by decide, uw4, (by rw [hy]; exact (gt_1 (List.mem_of_getElem? (i := 160) rfl) rfl)), tyX4_ok, nmX4, rfl, Or.inl rfl⟩, by decide +kernel, by decide +kernel, by decide⟩
theorem pX4_19 (y : MethodName) (hy : y.cls = RX4) : pm_PI y 19 4 2 .int := ⟨⟨RX4, TX4, 3, tyX4, rfl, by decide, uw4, (by rw [hy]; exact (gt_1 (List.mem_of_getElem? (i := 161) rfl) rfl)), tyX4_ok, nmX4, rfl, Or.inl rfl⟩, by decide +kernel, by decide +kernel, by decide⟩
theorem pX5_10 (y : MethodName) (hy : y.cls = RX5) : pm_PI y 10 5 0 .int := ⟨⟨RX5, TX5, 9, tyX5, rfl, by decide, uw5, (by rw [hy]; exact (gt_2 (List.mem_of_getElem? (i := 130) rfl) rfl)), tyX5_ok, nmX5, rfl, Or.inl rfl⟩, by decide +kernel, by decide +kernel, by decide⟩
theorem pX5_18 (y : MethodName) (hy : y.cls = RX5) (hn : y.name = "<init>") : pm_PR y 18 5 3 (.array (.array .int)) := ⟨⟨RX5, TX5, 9, tyX5, rfl, by decide, uw5, (by rw [hy]; exact (gt_2 (List.mem_of_getElem? (i := 134) rfl) rfl)), tyX5_ok, nmX5, rfl, Or.inr ⟨rfl, hn, hy.symm⟩⟩, by decide +kernel, by decide +kernel, by decide, Or.inr ⟨_, rfl⟩⟩
theorem pX5_21 (y : MethodName) (hy : y.cls = RX5) (hn : y.name = "<init>") : pm_PR y 21 5 4 (.array .int) := ⟨⟨RX5, TX5, 9, tyX5, rfl, by decide, uw5, (by rw [hy]; exact (gt_2 (List.mem_of_getElem? (i := 135) rfl) rfl)), tyX5_ok, nmX5, rfl, Or.inr ⟨rfl, hn, hy.symm⟩⟩, by decide +kernel, by decide +kernel, by decide, Or.inr ⟨_, rfl⟩⟩
theorem pX5_25 (y : MethodName) (hy : y.cls = RX5) (hn : y.name = "<init>") : pm_PR y 25 5 5 (.array .int) := ⟨⟨RX5, TX5, 9, tyX5, rfl, by decide, uw5, (by rw [hy]; exact (gt_2 (List.mem_of_getElem? (i := 136) rfl) rfl)), tyX5_ok, nmX5, rfl, Or.inr ⟨rfl, hn, hy.symm⟩⟩, by decide +kernel, by decide +kernel, by decide, Or.inr ⟨_, rfl⟩⟩
theorem pX5_28 (y : MethodName) (hy : y.cls = RX5) (hn : y.name = "<init>") : pm_PR y 28 5 6 (.array .int) := ⟨⟨RX5, TX5, 9, tyX5, rfl, by decide, uw5, (by rw [hy]; exact (gt_2 (List.mem_of_getElem? (i := 137) rfl) rfl)), tyX5_ok, nmX5, rfl, Or.inr ⟨rfl, hn, hy.symm⟩⟩, by decide +kernel, by decide +kernel, by decide, Or.inr ⟨_, rfl⟩⟩
theorem pX5_31 (y : MethodName) (hy : y.cls = RX5) : pm_PI y 31 5 7 .int := ⟨⟨RX5, TX5, 9, tyX5, rfl, by decide, uw5, (by rw [hy]; exact (gt_2 (List.mem_of_getElem? (i := 138) rfl) rfl)), tyX5_ok, nmX5, rfl, Or.inl rfl⟩, by decide +kernel, by decide +kernel, by decide⟩
theorem pX5_34 (y : MethodName) (hy : y.cls = RX5) : pm_PI y 34 5 8 .int := ⟨⟨RX5, TX5, 9, tyX5, rfl, by decide, uw5, (by rw [hy]; exact (gt_2 (List.mem_of_getElem? (i := 139) rfl) rfl)), tyX5_ok, nmX5, rfl, Or.inl rfl⟩, by decide +kernel, by decide +kernel, by decide⟩
theorem pX5_37 (y : MethodName) (hy : y.cls = RX5) (hn : y.name = "<init>") : pm_PR y 37 5 1 (.object "RubatoDesk$Bars") := ⟨⟨RX5, TX5, 9, tyX5, rfl, by decide, uw5, (by rw [hy]; exact (gt_2 (List.mem_of_getElem? (i := 132) rfl) rfl)), tyX5_ok, nmX5, rfl, Or.inr ⟨rfl, hn, hy.symm⟩⟩, by decide +kernel, by decide +kernel, by decide, Or.inl ⟨_, rfl⟩⟩
theorem pX5_41 (y : MethodName) (hy : y.cls = RX5) (hn : y.name = "<init>") : pm_PR y 41 5 2 (.object "RubatoDesk$Ways") := ⟨⟨RX5, TX5, 9, tyX5, rfl, by decide, uw5, (by rw [hy]; exact (gt_2 (List.mem_of_getElem? (i := 133) rfl) rfl)), tyX5_ok, nmX5, rfl, Or.inr ⟨rfl, hn, hy.symm⟩⟩, by decide +kernel, by decide +kernel, by decide, Or.inl ⟨_, rfl⟩⟩
theorem pX6_11 (y : MethodName) (hy : y.cls = RX6) : pm_PI y 11 6 0 .int := ⟨⟨RX6, TX6, 11, tyX6, rfl, by decide, uw6, (by rw [hy]; exact (gt_1 (List.mem_of_getElem? (i := 36) rfl) rfl)), tyX6_ok, nmX6, rfl, Or.inl rfl⟩, by decide +kernel, by decide +kernel, by decide⟩
theorem pX6_15 (y : MethodName) (hy : y.cls = RX6) : pm_PI y 15 6 1 .int := ⟨⟨RX6, TX6, 11, tyX6, rfl, by decide, uw6, (by rw [hy]; exact (gt_1 (List.mem_of_getElem? (i := 38) rfl) rfl)), tyX6_ok, nmX6, rfl, Or.inl rfl⟩, by decide +kernel, by decide +kernel, by decide⟩
theorem pX6_18 (y : MethodName) (hy : y.cls = RX6) (hn : y.name = "<init>") : pm_PR y 18 6 2 (.array .int) := ⟨⟨RX6, TX6, 11, tyX6, rfl, by decide, uw6, (by rw [hy]; exact (gt_1 (List.mem_of_getElem? (i := 40) rfl) rfl)), tyX6_ok, nmX6, rfl, Or.inr ⟨rfl, hn, hy.symm⟩⟩, by decide +kernel, by decide +kernel, by decide, Or.inr ⟨_, rfl⟩⟩
theorem pX6_22 (y : MethodName) (hy : y.cls = RX6) (hn : y.name = "<init>") : pm_PR y 22 6 3 (.array .int) := ⟨⟨RX6, TX6, 11, tyX6, rfl, by decide, uw6, (by rw [hy]; exact (gt_1 (List.mem_of_getElem? (i := 41) rfl) rfl)), tyX6_ok, nmX6, rfl, Or.inr ⟨rfl, hn, hy.symm⟩⟩, by decide +kernel, by decide +kernel, by decide, Or.inr ⟨_, rfl⟩⟩
theorem pX6_25 (y : MethodName) (hy : y.cls = RX6) (hn : y.name = "<init>") : pm_PR y 25 6 4 (.array .int) := ⟨⟨RX6, TX6, 11, tyX6, rfl, by decide, uw6, (by rw [hy]; exact (gt_1 (List.mem_of_getElem? (i := 42) rfl) rfl)), tyX6_ok, nmX6, rfl, Or.inr ⟨rfl, hn, hy.symm⟩⟩, by decide +kernel, by decide +kernel, by decide, Or.inr ⟨_, rfl⟩⟩
theorem pX6_28 (y : MethodName) (hy : y.cls = RX6) : pm_PI y 28 6 5 .int := ⟨⟨RX6, TX6, 11, tyX6, rfl, by decide, uw6, (by rw [hy]; exact (gt_1 (List.mem_of_getElem? (i := 43) rfl) rfl)), tyX6_ok, nmX6, rfl, Or.inl rfl⟩, by decide +kernel, by decide +kernel, by decide⟩
theorem pX6_31 (y : MethodName) (hy : y.cls = RX6) : pm_PI y 31 6 6 .int := ⟨⟨RX6, TX6, 11, tyX6, rfl, by decide, uw6, (by rw [hy]; exact (gt_1 (List.mem_of_getElem? (i := 44) rfl) rfl)), tyX6_ok, nmX6, rfl, Or.inl rfl⟩, by decide +kernel, by decide +kernel, by decide⟩
theorem pX6_34 (y : MethodName) (hy : y.cls = RX6) : pm_PR y 34 6 7 (.array .byte) := ⟨⟨RX6, TX6, 11, tyX6, rfl, by decide, uw6, (by rw [hy]; exact (gt_1 (List.mem_of_getElem? (i := 45) rfl) rfl)), tyX6_ok, nmX6, rfl, Or.inl rfl⟩, by decide +kernel, by decide +kernel, by decide, Or.inr ⟨_, rfl⟩⟩
theorem pX6_38 (y : MethodName) (hy : y.cls = RX6) : pm_PI y 38 6 8 .int := ⟨⟨RX6, TX6, 11, tyX6, rfl, by decide, uw6, (by rw [hy]; exact (gt_1 (List.mem_of_getElem? (i := 46) rfl) rfl)), tyX6_ok, nmX6, rfl, Or.inl rfl⟩, by decide +kernel, by decide +kernel, by decide⟩
theorem pX6_41 (y : MethodName) (hy : y.cls = RX6) : pm_PR y 41 6 9 (.object "RubatoDesk$Sheet") := ⟨⟨RX6, TX6, 11, tyX6, rfl, by decide, uw6, (by rw [hy]; exact (gt_1 (List.mem_of_getElem? (i := 47) rfl) rfl)), tyX6_ok, nmX6, rfl, Or.inl rfl⟩, by decide +kernel, by decide +kernel, by decide, Or.inl ⟨_, rfl⟩⟩
theorem pX6_45 (y : MethodName) (hy : y.cls = RX6) : pm_PR y 45 6 10 (.object "RubatoDesk$Law") := ⟨⟨RX6, TX6, 11, tyX6, rfl, by decide, uw6, (by rw [hy]; exact (gt_1 (List.mem_of_getElem? (i := 48) rfl) rfl)), tyX6_ok, nmX6, rfl, Or.inl rfl⟩, by decide +kernel, by decide +kernel, by decide, Or.inl ⟨_, rfl⟩⟩
theorem pX6_67 (y : MethodName) (hy : y.cls = RX6) : pm_PI y 67 7 9 .int := ⟨⟨RX7, TX7, 10, tyX7, rfl, by decide, uw7, (by rw [hy]; exact (gt_1 (List.mem_of_getElem? (i := 196) rfl) rfl)), tyX7_ok, nmX7, rfl, Or.inl rfl⟩, by decide +kernel, by decide +kernel, by decide⟩
theorem pX6_145 (y : MethodName) (hy : y.cls = RX6) : pm_PI y 145 7 8 .int := ⟨⟨RX7, TX7, 10, tyX7, rfl, by decide, uw7, (by rw [hy]; exact (gt_1 (List.mem_of_getElem? (i := 193) rfl) rfl)), tyX7_ok, nmX7, rfl, Or.inl rfl⟩, by decide +kernel, by decide +kernel, by decide⟩
theorem pX6_148 (y : MethodName) (hy : y.cls = RX6) : pm_PI y 148 7 6 .int := ⟨⟨RX7, TX7, 10, tyX7, rfl, by decide, uw7, (by rw [hy]; exact (gt_1 (List.mem_of_getElem? (i := 186) rfl) rfl)), tyX7_ok, nmX7, rfl, Or.inl rfl⟩, by decide +kernel, by decide +kernel, by decide⟩
theorem pX6_155 (y : MethodName) (hy : y.cls = RX6) : pm_PI y 155 7 7 .int := ⟨⟨RX7, TX7, 10, tyX7, rfl, by decide, uw7, (by rw [hy]; exact (gt_1 (List.mem_of_getElem? (i := 189) rfl) rfl)), tyX7_ok, nmX7, rfl, Or.inl rfl⟩, by decide +kernel, by decide +kernel, by decide⟩
theorem pX7_9 (y : MethodName) (hy : y.cls = RX7) (hn : y.name = "<init>") : pm_PR y 9 7 0 (.array .int) := ⟨⟨RX7, TX7, 10, tyX7, rfl, by decide, uw7, (by rw [hy]; exact (gt_1 (List.mem_of_getElem? (i := 169) rfl) rfl)), tyX7_ok, nmX7, rfl, Or.inr ⟨rfl, hn, hy.symm⟩⟩, by decide +kernel, by decide +kernel, by decide, Or.inr ⟨_, rfl⟩⟩
theorem pX7_15 (y : MethodName) (hy : y.cls = RX7) (hn : y.name = "<init>") : pm_PR y 15 7 1 (.array .int) := ⟨⟨RX7, TX7, 10, tyX7, rfl, by decide, uw7, (by rw [hy]; exact (gt_1 (List.mem_of_getElem? (i := 171) rfl) rfl)), tyX7_ok, nmX7, rfl, Or.inr ⟨rfl, hn, hy.symm⟩⟩, by decide +kernel, by decide +kernel, by decide, Or.inr ⟨_, rfl⟩⟩
theorem pX7_18 (y : MethodName) (hy : y.cls = RX7) (hn : y.name = "<init>") : pm_PR y 18 7 2 (.array .int) := ⟨⟨RX7, TX7, 10, tyX7, rfl, by decide, uw7, (by rw [hy]; exact (gt_1 (List.mem_of_getElem? (i := 172) rfl) rfl)), tyX7_ok, nmX7, rfl, Or.inr ⟨rfl, hn, hy.symm⟩⟩, by decide +kernel, by decide +kernel, by decide, Or.inr ⟨_, rfl⟩⟩
theorem pX7_21 (y : MethodName) (hy : y.cls = RX7) (hn : y.name = "<init>") : pm_PR y 21 7 3 (.array .int) := ⟨⟨RX7, TX7, 10, tyX7, rfl, by decide, uw7, (by rw [hy]; exact (gt_1 (List.mem_of_getElem? (i := 175) rfl) rfl)), tyX7_ok, nmX7, rfl, Or.inr ⟨rfl, hn, hy.symm⟩⟩, by decide +kernel, by decide +kernel, by decide, Or.inr ⟨_, rfl⟩⟩
theorem pX7_27 (y : MethodName) (hy : y.cls = RX7) (hn : y.name = "<init>") : pm_PR y 27 7 4 (.object "RubatoDesk$Law") := ⟨⟨RX7, TX7, 10, tyX7, rfl, by decide, uw7, (by rw [hy]; exact (gt_1 (List.mem_of_getElem? (i := 178) rfl) rfl)), tyX7_ok, nmX7, rfl, Or.inr ⟨rfl, hn, hy.symm⟩⟩, by decide +kernel, by decide +kernel, by decide, Or.inl ⟨_, rfl⟩⟩
theorem pX7_31 (y : MethodName) (hy : y.cls = RX7) (hn : y.name = "<init>") : pm_PR y 31 7 5 (.object "RubatoDesk$Law") := ⟨⟨RX7, TX7, 10, tyX7, rfl, by decide, uw7, (by rw [hy]; exact (gt_1 (List.mem_of_getElem? (i := 181) rfl) rfl)), tyX7_ok, nmX7, rfl, Or.inr ⟨rfl, hn, hy.symm⟩⟩, by decide +kernel, by decide +kernel, by decide, Or.inl ⟨_, rfl⟩⟩
theorem pX7_34 (y : MethodName) (hy : y.cls = RX7) : pm_PI y 34 7 6 .int := ⟨⟨RX7, TX7, 10, tyX7, rfl, by decide, uw7, (by rw [hy]; exact (gt_1 (List.mem_of_getElem? (i := 184) rfl) rfl)), tyX7_ok, nmX7, rfl, Or.inl rfl⟩, by decide +kernel, by decide +kernel, by decide⟩
theorem pX7_38 (y : MethodName) (hy : y.cls = RX7) : pm_PI y 38 7 7 .int := ⟨⟨RX7, TX7, 10, tyX7, rfl, by decide, uw7, (by rw [hy]; exact (gt_1 (List.mem_of_getElem? (i := 188) rfl) rfl)), tyX7_ok, nmX7, rfl, Or.inl rfl⟩, by decide +kernel, by decide +kernel, by decide⟩
theorem pX7_41 (y : MethodName) (hy : y.cls = RX7) : pm_PI y 41 7 8 .int := ⟨⟨RX7, TX7, 10, tyX7, rfl, by decide, uw7, (by rw [hy]; exact (gt_1 (List.mem_of_getElem? (i := 191) rfl) rfl)), tyX7_ok, nmX7, rfl, Or.inl rfl⟩, by decide +kernel, by decide +kernel, by decide⟩
theorem pX7_44 (y : MethodName) (hy : y.cls = RX7) : pm_PI y 44 7 9 .int := ⟨⟨RX7, TX7, 10, tyX7, rfl, by decide, uw7, (by rw [hy]; exact (gt_1 (List.mem_of_getElem? (i := 195) rfl) rfl)), tyX7_ok, nmX7, rfl, Or.inl rfl⟩, by decide +kernel, by decide +kernel, by decide⟩
theorem pX8_9 (y : MethodName) (hy : y.cls = RX8) (hn : y.name = "<init>") : pm_PR y 9 8 0 (.array .int) := ⟨⟨RX8, TX8, 5, tyX8, rfl, by decide, uw8, (by rw [hy]; exact (gt_1 (List.mem_of_getElem? (i := 82) rfl) rfl)), tyX8_ok, nmX8, rfl, Or.inr ⟨rfl, hn, hy.symm⟩⟩, by decide +kernel, by decide +kernel, by decide, Or.inr ⟨_, rfl⟩⟩
theorem pX8_15 (y : MethodName) (hy : y.cls = RX8) (hn : y.name = "<init>") : pm_PR y 15 8 1 (.array .int) := ⟨⟨RX8, TX8, 5, tyX8, rfl, by decide, uw8, (by rw [hy]; exact (gt_1 (List.mem_of_getElem? (i := 86) rfl) rfl)), tyX8_ok, nmX8, rfl, Or.inr ⟨rfl, hn, hy.symm⟩⟩, by decide +kernel, by decide +kernel, by decide, Or.inr ⟨_, rfl⟩⟩
theorem pX8_18 (y : MethodName) (hy : y.cls = RX8) (hn : y.name = "<init>") : pm_PR y 18 8 2 (.array .int) := ⟨⟨RX8, TX8, 5, tyX8, rfl, by decide, uw8, (by rw [hy]; exact (gt_1 (List.mem_of_getElem? (i := 88) rfl) rfl)), tyX8_ok, nmX8, rfl, Or.inr ⟨rfl, hn, hy.symm⟩⟩, by decide +kernel, by decide +kernel, by decide, Or.inr ⟨_, rfl⟩⟩
theorem pX8_21 (y : MethodName) (hy : y.cls = RX8) : pm_PI y 21 8 3 .int := ⟨⟨RX8, TX8, 5, tyX8, rfl, by decide, uw8, (by rw [hy]; exact (gt_1 (List.mem_of_getElem? (i := 92) rfl) rfl)), tyX8_ok, nmX8, rfl, Or.inl rfl⟩, by decide +kernel, by decide +kernel, by decide⟩
theorem pX8_25 (y : MethodName) (hy : y.cls = RX8) : pm_PI y 25 8 4 .int := ⟨⟨RX8, TX8, 5, tyX8, rfl, by decide, uw8, (by rw [hy]; exact (gt_1 (List.mem_of_getElem? (i := 95) rfl) rfl)), tyX8_ok, nmX8, rfl, Or.inl rfl⟩, by decide +kernel, by decide +kernel, by decide⟩
theorem pX9_11 (y : MethodName) (hy : y.cls = RX9) : pm_PI y 11 9 0 .int := ⟨⟨RX9, TX9, 3, tyX9, rfl, by decide, uw9, (by rw [hy]; exact (gt_1 (List.mem_of_getElem? (i := 136) rfl) rfl)), tyX9_ok, nmX9, rfl, Or.inl rfl⟩, by decide +kernel, by decide +kernel, by decide⟩
theorem pX9_15 (y : MethodName) (hy : y.cls = RX9) : pm_PI y 15 9 1 .int := ⟨⟨RX9, TX9, 3, tyX9, rfl, by decide, uw9, (by rw [hy]; exact (gt_1 (List.mem_of_getElem? (i := 138) rfl) rfl)), tyX9_ok, nmX9, rfl, Or.inl rfl⟩, by decide +kernel, by decide +kernel, by decide⟩
theorem pX9_18 (y : MethodName) (hy : y.cls = RX9) (hn : y.name = "<init>") : pm_PR y 18 9 2 (.array .long) := ⟨⟨RX9, TX9, 3, tyX9, rfl, by decide, uw9, (by rw [hy]; exact (gt_1 (List.mem_of_getElem? (i := 139) rfl) rfl)), tyX9_ok, nmX9, rfl, Or.inr ⟨rfl, hn, hy.symm⟩⟩, by decide +kernel, by decide +kernel, by decide, Or.inr ⟨_, rfl⟩⟩
theorem pX10_9 (y : MethodName) (hy : y.cls = RX10) (hn : y.name = "<init>") : pm_PR y 9 10 0 (.array .int) := ⟨⟨RX10, TX10, 11, tyX10, rfl, by decide, uw10, (by rw [hy]; exact (gt_2 (List.mem_of_getElem? (i := 81) rfl) rfl)), tyX10_ok, nmX10, rfl, Or.inr ⟨rfl, hn, hy.symm⟩⟩, by decide +kernel, by decide +kernel, by decide, Or.inr ⟨_, rfl⟩⟩
theorem pX10_15 (y : MethodName) (hy : y.cls = RX10) (hn : y.name = "<init>") : pm_PR y 15 10 1 (.array .int) := ⟨⟨RX10, TX10, 11, tyX10, rfl, by decide, uw10, (by rw [hy]; exact (gt_2 (List.mem_of_getElem? (i := 83) rfl) rfl)), tyX10_ok, nmX10, rfl, Or.inr ⟨rfl, hn, hy.symm⟩⟩, by decide +kernel, by decide +kernel, by decide, Or.inr ⟨_, rfl⟩⟩
theorem pX10_18 (y : MethodName) (hy : y.cls = RX10) : pm_PI y 18 10 2 .int := ⟨⟨RX10, TX10, 11, tyX10, rfl, by decide, uw10, (by rw [hy]; exact (gt_2 (List.mem_of_getElem? (i := 86) rfl) rfl)), tyX10_ok, nmX10, rfl, Or.inl rfl⟩, by decide +kernel, by decide +kernel, by decide⟩
theorem pX10_22 (y : MethodName) (hy : y.cls = RX10) : pm_PI y 22 10 3 .int := ⟨⟨RX10, TX10, 11, tyX10, rfl, by decide, uw10, (by rw [hy]; exact (gt_2 (List.mem_of_getElem? (i := 89) rfl) rfl)), tyX10_ok, nmX10, rfl, Or.inl rfl⟩, by decide +kernel, by decide +kernel, by decide⟩
theorem pX10_25 (y : MethodName) (hy : y.cls = RX10) (hn : y.name = "<init>") : pm_PR y 25 10 5 (.array .int) := ⟨⟨RX10, TX10, 11, tyX10, rfl, by decide, uw10, (by rw [hy]; exact (gt_2 (List.mem_of_getElem? (i := 92) rfl) rfl)), tyX10_ok, nmX10, rfl, Or.inr ⟨rfl, hn, hy.symm⟩⟩, by decide +kernel, by decide +kernel, by decide, Or.inr ⟨_, rfl⟩⟩
theorem pX10_28 (y : MethodName) (hy : y.cls = RX10) (hn : y.name = "<init>") : pm_PR y 28 10 6 (.array .byte) := ⟨⟨RX10, TX10, 11, tyX10, rfl, by decide, uw10, (by rw [hy]; exact (gt_2 (List.mem_of_getElem? (i := 93) rfl) rfl)), tyX10_ok, nmX10, rfl, Or.inr ⟨rfl, hn, hy.symm⟩⟩, by decide +kernel, by decide +kernel, by decide, Or.inr ⟨_, rfl⟩⟩
theorem pX10_32 (y : MethodName) (hy : y.cls = RX10) : pm_PR y 32 10 7 (.array .int) := ⟨⟨RX10, TX10, 11, tyX10, rfl, by decide, uw10, (by rw [hy]; exact (gt_2 (List.mem_of_getElem? (i := 94) rfl) rfl)), tyX10_ok, nmX10, rfl, Or.inl rfl⟩, by decide +kernel, by decide +kernel, by decide, Or.inr ⟨_, rfl⟩⟩
theorem pX10_35 (y : MethodName) (hy : y.cls = RX10) : pm_PR y 35 10 8 (.array .int) := ⟨⟨RX10, TX10, 11, tyX10, rfl, by decide, uw10, (by rw [hy]; exact (gt_2 (List.mem_of_getElem? (i := 95) rfl) rfl)), tyX10_ok, nmX10, rfl, Or.inl rfl⟩, by decide +kernel, by decide +kernel, by decide, Or.inr ⟨_, rfl⟩⟩
theorem pX10_38 (y : MethodName) (hy : y.cls = RX10) : pm_PR y 38 10 9 (.array .long) := ⟨⟨RX10, TX10, 11, tyX10, rfl, by decide, uw10, (by rw [hy]; exact (gt_2 (List.mem_of_getElem? (i := 96) rfl) rfl)), tyX10_ok, nmX10, rfl, Or.inl rfl⟩, by decide +kernel, by decide +kernel, by decide, Or.inr ⟨_, rfl⟩⟩
theorem pX10_42 (y : MethodName) (hy : y.cls = RX10) : pm_PR y 42 10 10 (.array .long) := ⟨⟨RX10, TX10, 11, tyX10, rfl, by decide, uw10, (by rw [hy]; exact (gt_2 (List.mem_of_getElem? (i := 97) rfl) rfl)), tyX10_ok, nmX10, rfl, Or.inl rfl⟩, by decide +kernel, by decide +kernel, by decide, Or.inr ⟨_, rfl⟩⟩
theorem pX10_45 (y : MethodName) (hy : y.cls = RX10) (hn : y.name = "<init>") : pm_PR y 45 10 4 (.object "RubatoDesk$Bars") := ⟨⟨RX10, TX10, 11, tyX10, rfl, by decide, uw10, (by rw [hy]; exact (gt_2 (List.mem_of_getElem? (i := 91) rfl) rfl)), tyX10_ok, nmX10, rfl, Or.inr ⟨rfl, hn, hy.symm⟩⟩, by decide +kernel, by decide +kernel, by decide, Or.inl ⟨_, rfl⟩⟩
theorem pX12_1 (y : MethodName) (hy : y.cls = RX12) : pm_PI y 1 12 0 .int := ⟨⟨RX12, TX12, 39, tyX12, rfl, by decide, uw12, (by rw [hy]; exact (gt_6 (List.mem_of_getElem? (i := 41) rfl) rfl)), tyX12_ok, nmX12, rfl, Or.inl rfl⟩, by decide +kernel, by decide +kernel, by decide⟩
theorem pX12_13 (y : MethodName) (hy : y.cls = RX12) (hn : y.name = "<init>") : pm_PR y 13 12 1 (.array .int) := ⟨⟨RX12, TX12, 39, tyX12, rfl, by decide, uw12, (by rw [hy]; exact (gt_6 (List.mem_of_getElem? (i := 42) rfl) rfl)), tyX12_ok, nmX12, rfl, Or.inr ⟨rfl, hn, hy.symm⟩⟩, by decide +kernel, by decide +kernel, by decide, Or.inr ⟨_, rfl⟩⟩
theorem pX12_17 (y : MethodName) (hy : y.cls = RX12) (hn : y.name = "<init>") : pm_PR y 17 12 2 (.array .boolean) := ⟨⟨RX12, TX12, 39, tyX12, rfl, by decide, uw12, (by rw [hy]; exact (gt_6 (List.mem_of_getElem? (i := 43) rfl) rfl)), tyX12_ok, nmX12, rfl, Or.inr ⟨rfl, hn, hy.symm⟩⟩, by decide +kernel, by decide +kernel, by decide, Or.inr ⟨_, rfl⟩⟩
theorem pX12_21 (y : MethodName) (hy : y.cls = RX12) (hn : y.name = "<init>") : pm_PR y 21 12 3 (.array .int) := ⟨⟨RX12, TX12, 39, tyX12, rfl, by decide, uw12, (by rw [hy]; exact (gt_6 (List.mem_of_getElem? (i := 44) rfl) rfl)), tyX12_ok, nmX12, rfl, Or.inr ⟨rfl, hn, hy.symm⟩⟩, by decide +kernel, by decide +kernel, by decide, Or.inr ⟨_, rfl⟩⟩
theorem pX12_24 (y : MethodName) (hy : y.cls = RX12) (hn : y.name = "<init>") : pm_PR y 24 12 4 (.array .int) := ⟨⟨RX12, TX12, 39, tyX12, rfl, by decide, uw12, (by rw [hy]; exact (gt_6 (List.mem_of_getElem? (i := 45) rfl) rfl)), tyX12_ok, nmX12, rfl, Or.inr ⟨rfl, hn, hy.symm⟩⟩, by decide +kernel, by decide +kernel, by decide, Or.inr ⟨_, rfl⟩⟩
theorem pX12_27 (y : MethodName) (hy : y.cls = RX12) : pm_PI y 27 12 14 .int := ⟨⟨RX12, TX12, 39, tyX12, rfl, by decide, uw12, (by rw [hy]; exact (gt_6 (List.mem_of_getElem? (i := 55) rfl) rfl)), tyX12_ok, nmX12, rfl, Or.inl rfl⟩, by decide +kernel, by decide +kernel, by decide⟩
theorem pX12_30 (y : MethodName) (hy : y.cls = RX12) (hn : y.name = "<init>") : pm_PR y 30 12 15 (.array .int) := ⟨⟨RX12, TX12, 39, tyX12, rfl, by decide, uw12, (by rw [hy]; exact (gt_6 (List.mem_of_getElem? (i := 56) rfl) rfl)), tyX12_ok, nmX12, rfl, Or.inr ⟨rfl, hn, hy.symm⟩⟩, by decide +kernel, by decide +kernel, by decide, Or.inr ⟨_, rfl⟩⟩
theorem pX12_33 (y : MethodName) (hy : y.cls = RX12) (hn : y.name = "<init>") : pm_PR y 33 12 16 (.array .int) := ⟨⟨RX12, TX12, 39, tyX12, rfl, by decide, uw12, (by rw [hy]; exact (gt_6 (List.mem_of_getElem? (i := 57) rfl) rfl)), tyX12_ok, nmX12, rfl, Or.inr ⟨rfl, hn, hy.symm⟩⟩, by decide +kernel, by decide +kernel, by decide, Or.inr ⟨_, rfl⟩⟩
theorem pX12_36 (y : MethodName) (hy : y.cls = RX12) (hn : y.name = "<init>") : pm_PR y 36 12 17 (.array .int) := ⟨⟨RX12, TX12, 39, tyX12, rfl, by decide, uw12, (by rw [hy]; exact (gt_6 (List.mem_of_getElem? (i := 58) rfl) rfl)), tyX12_ok, nmX12, rfl, Or.inr ⟨rfl, hn, hy.symm⟩⟩, by decide +kernel, by decide +kernel, by decide, Or.inr ⟨_, rfl⟩⟩
theorem pX12_39 (y : MethodName) (hy : y.cls = RX12) (hn : y.name = "<init>") : pm_PR y 39 12 18 (.array .int) := ⟨⟨RX12, TX12, 39, tyX12, rfl, by decide, uw12, (by rw [hy]; exact (gt_6 (List.mem_of_getElem? (i := 59) rfl) rfl)), tyX12_ok, nmX12, rfl, Or.inr ⟨rfl, hn, hy.symm⟩⟩, by decide +kernel, by decide +kernel, by decide, Or.inr ⟨_, rfl⟩⟩
theorem pX12_42 (y : MethodName) (hy : y.cls = RX12) (hn : y.name = "<init>") : pm_PR y 42 12 19 (.array .int) := ⟨⟨RX12, TX12, 39, tyX12, rfl, by decide, uw12, (by rw [hy]; exact (gt_6 (List.mem_of_getElem? (i := 60) rfl) rfl)), tyX12_ok, nmX12, rfl, Or.inr ⟨rfl, hn, hy.symm⟩⟩, by decide +kernel, by decide +kernel, by decide, Or.inr ⟨_, rfl⟩⟩
theorem pX12_45 (y : MethodName) (hy : y.cls = RX12) (hn : y.name = "<init>") : pm_PR y 45 12 23 (.array .int) := ⟨⟨RX12, TX12, 39, tyX12, rfl, by decide, uw12, (by rw [hy]; exact (gt_6 (List.mem_of_getElem? (i := 64) rfl) rfl)), tyX12_ok, nmX12, rfl, Or.inr ⟨rfl, hn, hy.symm⟩⟩, by decide +kernel, by decide +kernel, by decide, Or.inr ⟨_, rfl⟩⟩
theorem pX12_48 (y : MethodName) (hy : y.cls = RX12) (hn : y.name = "<init>") : pm_PR y 48 12 25 (.array .int) := ⟨⟨RX12, TX12, 39, tyX12, rfl, by decide, uw12, (by rw [hy]; exact (gt_6 (List.mem_of_getElem? (i := 66) rfl) rfl)), tyX12_ok, nmX12, rfl, Or.inr ⟨rfl, hn, hy.symm⟩⟩, by decide +kernel, by decide +kernel, by decide, Or.inr ⟨_, rfl⟩⟩
theorem pX12_51 (y : MethodName) (hy : y.cls = RX12) (hn : y.name = "<init>") : pm_PR y 51 12 28 (.array .long) := ⟨⟨RX12, TX12, 39, tyX12, rfl, by decide, uw12, (by rw [hy]; exact (gt_6 (List.mem_of_getElem? (i := 69) rfl) rfl)), tyX12_ok, nmX12, rfl, Or.inr ⟨rfl, hn, hy.symm⟩⟩, by decide +kernel, by decide +kernel, by decide, Or.inr ⟨_, rfl⟩⟩
theorem pX12_55 (y : MethodName) (hy : y.cls = RX12) (hn : y.name = "<init>") : pm_PR y 55 12 29 (.array .long) := ⟨⟨RX12, TX12, 39, tyX12, rfl, by decide, uw12, (by rw [hy]; exact (gt_6 (List.mem_of_getElem? (i := 70) rfl) rfl)), tyX12_ok, nmX12, rfl, Or.inr ⟨rfl, hn, hy.symm⟩⟩, by decide +kernel, by decide +kernel, by decide, Or.inr ⟨_, rfl⟩⟩
theorem pX12_58 (y : MethodName) (hy : y.cls = RX12) (hn : y.name = "<init>") : pm_PR y 58 12 30 (.array .int) := ⟨⟨RX12, TX12, 39, tyX12, rfl, by decide, uw12, (by rw [hy]; exact (gt_6 (List.mem_of_getElem? (i := 71) rfl) rfl)), tyX12_ok, nmX12, rfl, Or.inr ⟨rfl, hn, hy.symm⟩⟩, by decide +kernel, by decide +kernel, by decide, Or.inr ⟨_, rfl⟩⟩
theorem pX12_61 (y : MethodName) (hy : y.cls = RX12) (hn : y.name = "<init>") : pm_PR y 61 12 31 (.array .int) := ⟨⟨RX12, TX12, 39, tyX12, rfl, by decide, uw12, (by rw [hy]; exact (gt_6 (List.mem_of_getElem? (i := 72) rfl) rfl)), tyX12_ok, nmX12, rfl, Or.inr ⟨rfl, hn, hy.symm⟩⟩, by decide +kernel, by decide +kernel, by decide, Or.inr ⟨_, rfl⟩⟩
theorem pX12_64 (y : MethodName) (hy : y.cls = RX12) (hn : y.name = "<init>") : pm_PR y 64 12 32 (.array .boolean) := ⟨⟨RX12, TX12, 39, tyX12, rfl, by decide, uw12, (by rw [hy]; exact (gt_6 (List.mem_of_getElem? (i := 73) rfl) rfl)), tyX12_ok, nmX12, rfl, Or.inr ⟨rfl, hn, hy.symm⟩⟩, by decide +kernel, by decide +kernel, by decide, Or.inr ⟨_, rfl⟩⟩
theorem pX12_67 (y : MethodName) (hy : y.cls = RX12) (hn : y.name = "<init>") : pm_PR y 67 12 33 (.array .boolean) := ⟨⟨RX12, TX12, 39, tyX12, rfl, by decide, uw12, (by rw [hy]; exact (gt_6 (List.mem_of_getElem? (i := 74) rfl) rfl)), tyX12_ok, nmX12, rfl, Or.inr ⟨rfl, hn, hy.symm⟩⟩, by decide +kernel, by decide +kernel, by decide, Or.inr ⟨_, rfl⟩⟩
theorem pX12_70 (y : MethodName) (hy : y.cls = RX12) (hn : y.name = "<init>") : pm_PR y 70 12 34 (.array .int) := ⟨⟨RX12, TX12, 39, tyX12, rfl, by decide, uw12, (by rw [hy]; exact (gt_6 (List.mem_of_getElem? (i := 75) rfl) rfl)), tyX12_ok, nmX12, rfl, Or.inr ⟨rfl, hn, hy.symm⟩⟩, by decide +kernel, by decide +kernel, by decide, Or.inr ⟨_, rfl⟩⟩
theorem pX12_73 (y : MethodName) (hy : y.cls = RX12) (hn : y.name = "<init>") : pm_PR y 73 12 35 (.array .int) := ⟨⟨RX12, TX12, 39, tyX12, rfl, by decide, uw12, (by rw [hy]; exact (gt_6 (List.mem_of_getElem? (i := 76) rfl) rfl)), tyX12_ok, nmX12, rfl, Or.inr ⟨rfl, hn, hy.symm⟩⟩, by decide +kernel, by decide +kernel, by decide, Or.inr ⟨_, rfl⟩⟩
theorem pX12_76 (y : MethodName) (hy : y.cls = RX12) (hn : y.name = "<init>") : pm_PR y 76 12 36 (.array .int) := ⟨⟨RX12, TX12, 39, tyX12, rfl, by decide, uw12, (by rw [hy]; exact (gt_6 (List.mem_of_getElem? (i := 77) rfl) rfl)), tyX12_ok, nmX12, rfl, Or.inr ⟨rfl, hn, hy.symm⟩⟩, by decide +kernel, by decide +kernel, by decide, Or.inr ⟨_, rfl⟩⟩
theorem pX12_79 (y : MethodName) (hy : y.cls = RX12) (hn : y.name = "<init>") : pm_PR y 79 12 37 (.array .int) := ⟨⟨RX12, TX12, 39, tyX12, rfl, by decide, uw12, (by rw [hy]; exact (gt_6 (List.mem_of_getElem? (i := 78) rfl) rfl)), tyX12_ok, nmX12, rfl, Or.inr ⟨rfl, hn, hy.symm⟩⟩, by decide +kernel, by decide +kernel, by decide, Or.inr ⟨_, rfl⟩⟩
theorem pX12_82 (y : MethodName) (hy : y.cls = RX12) (hn : y.name = "<init>") : pm_PR y 82 12 38 (.array .long) := ⟨⟨RX12, TX12, 39, tyX12, rfl, by decide, uw12, (by rw [hy]; exact (gt_6 (List.mem_of_getElem? (i := 79) rfl) rfl)), tyX12_ok, nmX12, rfl, Or.inr ⟨rfl, hn, hy.symm⟩⟩, by decide +kernel, by decide +kernel, by decide, Or.inr ⟨_, rfl⟩⟩
theorem pX12_89 (y : MethodName) (hy : y.cls = RX12) : pm_PI y 89 12 5 .int := ⟨⟨RX12, TX12, 39, tyX12, rfl, by decide, uw12, (by rw [hy]; exact (gt_6 (List.mem_of_getElem? (i := 46) rfl) rfl)), tyX12_ok, nmX12, rfl, Or.inl rfl⟩, by decide +kernel, by decide +kernel, by decide⟩
theorem pX12_93 (y : MethodName) (hy : y.cls = RX12) : pm_PI y 93 12 8 .int := ⟨⟨RX12, TX12, 39, tyX12, rfl, by decide, uw12, (by rw [hy]; exact (gt_6 (List.mem_of_getElem? (i := 49) rfl) rfl)), tyX12_ok, nmX12, rfl, Or.inl rfl⟩, by decide +kernel, by decide +kernel, by decide⟩
theorem pX12_108 (y : MethodName) (hy : y.cls = RX12) : pm_PI y 108 12 6 .int := ⟨⟨RX12, TX12, 39, tyX12, rfl, by decide, uw12, (by rw [hy]; exact (gt_6 (List.mem_of_getElem? (i := 47) rfl) rfl)), tyX12_ok, nmX12, rfl, Or.inl rfl⟩, by decide +kernel, by decide +kernel, by decide⟩
theorem pX12_111 (y : MethodName) (hy : y.cls = RX12) : pm_PI y 111 12 7 .int := ⟨⟨RX12, TX12, 39, tyX12, rfl, by decide, uw12, (by rw [hy]; exact (gt_6 (List.mem_of_getElem? (i := 48) rfl) rfl)), tyX12_ok, nmX12, rfl, Or.inl rfl⟩, by decide +kernel, by decide +kernel, by decide⟩
theorem pX12_118 (y : MethodName) (hy : y.cls = RX12) : pm_PI y 118 12 9 .int := ⟨⟨RX12, TX12, 39, tyX12, rfl, by decide, uw12, (by rw [hy]; exact (gt_6 (List.mem_of_getElem? (i := 50) rfl) rfl)), tyX12_ok, nmX12, rfl, Or.inl rfl⟩, by decide +kernel, by decide +kernel, by decide⟩
theorem pX12_131 (y : MethodName) (hy : y.cls = RX12) : pm_PI y 131 12 10 .int := ⟨⟨RX12, TX12, 39, tyX12, rfl, by decide, uw12, (by rw [hy]; exact (gt_6 (List.mem_of_getElem? (i := 51) rfl) rfl)), tyX12_ok, nmX12, rfl, Or.inl rfl⟩, by decide +kernel, by decide +kernel, by decide⟩
theorem pX12_136 (y : MethodName) (hy : y.cls = RX12) : pm_PI y 136 12 11 .int := ⟨⟨RX12, TX12, 39, tyX12, rfl, by decide, uw12, (by rw [hy]; exact (gt_6 (List.mem_of_getElem? (i := 52) rfl) rfl)), tyX12_ok, nmX12, rfl, Or.inl rfl⟩, by decide +kernel, by decide +kernel, by decide⟩
theorem pX12_139 (y : MethodName) (hy : y.cls = RX12) : pm_PI y 139 12 12 .int := ⟨⟨RX12, TX12, 39, tyX12, rfl, by decide, uw12, (by rw [hy]; exact (gt_6 (List.mem_of_getElem? (i := 53) rfl) rfl)), tyX12_ok, nmX12, rfl, Or.inl rfl⟩, by decide +kernel, by decide +kernel, by decide⟩
theorem pX12_213 (y : MethodName) (hy : y.cls = RX12) : pm_PI y 213 12 13 .int := ⟨⟨RX12, TX12, 39, tyX12, rfl, by decide, uw12, (by rw [hy]; exact (gt_6 (List.mem_of_getElem? (i := 54) rfl) rfl)), tyX12_ok, nmX12, rfl, Or.inl rfl⟩, by decide +kernel, by decide +kernel, by decide⟩
theorem pX12_274 (y : MethodName) (hy : y.cls = RX12) : pm_PI y 274 12 24 .int := ⟨⟨RX12, TX12, 39, tyX12, rfl, by decide, uw12, (by rw [hy]; exact (gt_6 (List.mem_of_getElem? (i := 65) rfl) rfl)), tyX12_ok, nmX12, rfl, Or.inl rfl⟩, by decide +kernel, by decide +kernel, by decide⟩
theorem pX12_290 (y : MethodName) (hy : y.cls = RX12) : pm_PI y 290 12 20 .int := ⟨⟨RX12, TX12, 39, tyX12, rfl, by decide, uw12, (by rw [hy]; exact (gt_6 (List.mem_of_getElem? (i := 61) rfl) rfl)), tyX12_ok, nmX12, rfl, Or.inl rfl⟩, by decide +kernel, by decide +kernel, by decide⟩
theorem pX12_293 (y : MethodName) (hy : y.cls = RX12) : pm_PI y 293 12 21 .int := ⟨⟨RX12, TX12, 39, tyX12, rfl, by decide, uw12, (by rw [hy]; exact (gt_6 (List.mem_of_getElem? (i := 62) rfl) rfl)), tyX12_ok, nmX12, rfl, Or.inl rfl⟩, by decide +kernel, by decide +kernel, by decide⟩
theorem pX12_309 (y : MethodName) (hy : y.cls = RX12) : pm_PI y 309 12 22 .int := ⟨⟨RX12, TX12, 39, tyX12, rfl, by decide, uw12, (by rw [hy]; exact (gt_6 (List.mem_of_getElem? (i := 63) rfl) rfl)), tyX12_ok, nmX12, rfl, Or.inl rfl⟩, by decide +kernel, by decide +kernel, by decide⟩
theorem pX12_375 (y : MethodName) (hy : y.cls = RX12) : pm_PI y 375 12 26 .int := ⟨⟨RX12, TX12, 39, tyX12, rfl, by decide, uw12, (by rw [hy]; exact (gt_6 (List.mem_of_getElem? (i := 67) rfl) rfl)), tyX12_ok, nmX12, rfl, Or.inl rfl⟩, by decide +kernel, by decide +kernel, by decide⟩
theorem pX12_401 (y : MethodName) (hy : y.cls = RX12) : pm_PI y 401 12 27 .int := ⟨⟨RX12, TX12, 39, tyX12, rfl, by decide, uw12, (by rw [hy]; exact (gt_6 (List.mem_of_getElem? (i := 68) rfl) rfl)), tyX12_ok, nmX12, rfl, Or.inl rfl⟩, by decide +kernel, by decide +kernel, by decide⟩
theorem lX11_5 : Cond.methodLink RX11 5 objectInit ∈ GT := (gt_1 (List.mem_of_getElem? (i := 27) rfl) rfl)
theorem lX11_21 : pm_LI RX11 21 mX6_init := ⟨rfl, rfl, (gt_1 (List.mem_of_getElem? (i := 33) rfl) rfl), Or.inr ⟨"RubatoDesk", List.mem_filter.mpr ⟨List.mem_append.mpr (Or.inr (by decide +kernel)), rfl⟩⟩⟩
theorem lX11_34 : pm_LI RX11 34 mX8_init := ⟨rfl, rfl, (gt_1 (List.mem_of_getElem? (i := 79) rfl) rfl), Or.inr ⟨"RubatoDesk", List.mem_filter.mpr ⟨List.mem_append.mpr (Or.inr (by decide +kernel)), rfl⟩⟩⟩
theorem lX11_44 : pm_LI RX11 44 mX3_init := ⟨rfl, rfl, (gt_1 (List.mem_of_getElem? (i := 112) rfl) rfl), Or.inl (gt_1 (List.mem_of_getElem? (i := 111) rfl) rfl)⟩
theorem lX11_69 : pm_LI RX11 69 mX9_init := ⟨rfl, rfl, (gt_1 (List.mem_of_getElem? (i := 133) rfl) rfl), Or.inr ⟨"RubatoDesk", List.mem_filter.mpr ⟨List.mem_append.mpr (Or.inr (by decide +kernel)), rfl⟩⟩⟩
theorem lX11_70 : pm_LI RX11 70 mX7_init := ⟨rfl, rfl, (gt_1 (List.mem_of_getElem? (i := 150) rfl) rfl), Or.inr ⟨"RubatoDesk", List.mem_filter.mpr ⟨List.mem_append.mpr (Or.inr (by decide +kernel)), rfl⟩⟩⟩
theorem lX11_77 : pm_LI RX11 77 mX0_init := ⟨rfl, rfl, (gt_1 (List.mem_of_getElem? (i := 222) rfl) rfl), Or.inl (gt_1 (List.mem_of_getElem? (i := 221) rfl) rfl)⟩
theorem lX11_86 : pm_LI RX11 86 mX1_init := ⟨rfl, rfl, (gt_2 (List.mem_of_getElem? (i := 44) rfl) rfl), Or.inl (gt_2 (List.mem_of_getElem? (i := 43) rfl) rfl)⟩
theorem lX11_95 : pm_LI RX11 95 mX10_init := ⟨rfl, rfl, (gt_2 (List.mem_of_getElem? (i := 77) rfl) rfl), Or.inl (gt_2 (List.mem_of_getElem? (i := 76) rfl) rfl)⟩
theorem lX11_102 : pm_LI RX11 102 mX5_init := ⟨rfl, rfl, (gt_2 (List.mem_of_getElem? (i := 124) rfl) rfl), Or.inl (gt_2 (List.mem_of_getElem? (i := 123) rfl) rfl)⟩
theorem lX11_111 : pm_LI RX11 111 mX2_init := ⟨rfl, rfl, (gt_2 (List.mem_of_getElem? (i := 162) rfl) rfl), Or.inl (gt_2 (List.mem_of_getElem? (i := 161) rfl) rfl)⟩
theorem lX0_3 : Cond.methodLink RX0 3 objectInit ∈ GT := (gt_1 (List.mem_of_getElem? (i := 224) rfl) rfl)
theorem lX1_3 : Cond.methodLink RX1 3 objectInit ∈ GT := (gt_2 (List.mem_of_getElem? (i := 46) rfl) rfl)
theorem lX2_3 : Cond.methodLink RX2 3 objectInit ∈ GT := (gt_2 (List.mem_of_getElem? (i := 164) rfl) rfl)
theorem lX3_3 : Cond.methodLink RX3 3 objectInit ∈ GT := (gt_1 (List.mem_of_getElem? (i := 114) rfl) rfl)
theorem lX3_24 : pm_LI RX3 24 mX8_init := ⟨rfl, rfl, (gt_1 (List.mem_of_getElem? (i := 79) rfl) rfl), Or.inr ⟨"RubatoDesk", List.mem_filter.mpr ⟨List.mem_append.mpr (Or.inr (by decide +kernel)), rfl⟩⟩⟩
theorem lX4_3 : Cond.methodLink RX4 3 objectInit ∈ GT := (gt_1 (List.mem_of_getElem? (i := 158) rfl) rfl)
theorem lX5_3 : Cond.methodLink RX5 3 objectInit ∈ GT := (gt_2 (List.mem_of_getElem? (i := 126) rfl) rfl)
theorem lX6_5 : Cond.methodLink RX6 5 objectInit ∈ GT := (gt_1 (List.mem_of_getElem? (i := 35) rfl) rfl)
theorem lX7_3 : Cond.methodLink RX7 3 objectInit ∈ GT := (gt_1 (List.mem_of_getElem? (i := 152) rfl) rfl)
theorem lX7_26 : pm_LI RX7 26 mX4_init := ⟨rfl, rfl, (gt_1 (List.mem_of_getElem? (i := 156) rfl) rfl), Or.inr ⟨"RubatoDesk", List.mem_filter.mpr ⟨List.mem_append.mpr (Or.inr (by decide +kernel)), rfl⟩⟩⟩
theorem lX8_3 : Cond.methodLink RX8 3 objectInit ∈ GT := (gt_1 (List.mem_of_getElem? (i := 81) rfl) rfl)
theorem lX9_3 : Cond.methodLink RX9 3 objectInit ∈ GT := (gt_1 (List.mem_of_getElem? (i := 135) rfl) rfl)
theorem lX10_3 : Cond.methodLink RX10 3 objectInit ∈ GT := (gt_2 (List.mem_of_getElem? (i := 79) rfl) rfl)
theorem lL_9 : pm_LI RL 9 mX11_init := ⟨rfl, rfl, (gt_1 (List.mem_of_getElem? (i := 25) rfl) rfl), Or.inl (gt_1 (List.mem_of_getElem? (i := 24) rfl) rfl)⟩
theorem lL_12 : pm_LI RL 12 mX12_init := ⟨rfl, rfl, (gt_6 (List.mem_of_getElem? (i := 35) rfl) rfl), Or.inl (gt_6 (List.mem_of_getElem? (i := 34) rfl) rfl)⟩
theorem lX12_7 : Cond.methodLink RX12 7 objectInit ∈ GT := (gt_6 (List.mem_of_getElem? (i := 37) rfl) rfl)
theorem lX11_183 : pm_LS RX11 183 mX11_isDraw := ⟨(gt_4 (List.mem_of_getElem? (i := 29) rfl) rfl), Or.inl (gt_4 (List.mem_of_getElem? (i := 28) rfl) rfl)⟩
theorem lX11_232 : pm_LS RX11 232 mX11_isTray := ⟨(gt_4 (List.mem_of_getElem? (i := 202) rfl) rfl), Or.inl (gt_4 (List.mem_of_getElem? (i := 201) rfl) rfl)⟩
theorem lX11_265 : pm_LS RX11 265 mX11_isOfRow := ⟨(gt_5 (List.mem_of_getElem? (i := 22) rfl) rfl), Or.inl (gt_5 (List.mem_of_getElem? (i := 21) rfl) rfl)⟩
theorem lX11_281 : pm_LS RX11 281 mX11_isStore := ⟨(gt_5 (List.mem_of_getElem? (i := 34) rfl) rfl), Or.inl (gt_5 (List.mem_of_getElem? (i := 33) rfl) rfl)⟩
theorem lX11_315 : pm_LS RX11 315 mJ9_max_7cf53 := ⟨(gt_4 (List.mem_of_getElem? (i := 111) rfl) rfl), Or.inl (gt_5 (List.mem_of_getElem? (i := 94) rfl) rfl)⟩
theorem lX11_342 : pm_LS RX11 342 mX11_bitOf := ⟨(gt_4 (List.mem_of_getElem? (i := 147) rfl) rfl), Or.inl (gt_5 (List.mem_of_getElem? (i := 154) rfl) rfl)⟩
theorem lX11_364 : pm_LS RX11 364 mX11_commonDivisor := ⟨(gt_5 (List.mem_of_getElem? (i := 218) rfl) rfl), Or.inl (gt_5 (List.mem_of_getElem? (i := 217) rfl) rfl)⟩
theorem lX11_380 : pm_LS RX11 380 mJ9_min_7cf53 := ⟨(gt_3 (List.mem_of_getElem? (i := 20) rfl) rfl), Or.inl (gt_6 (List.mem_of_getElem? (i := 14) rfl) rfl)⟩
theorem lX11_399 : pm_LS RX11 399 mJ7_fill_53178 := ⟨(gt_1 (List.mem_of_getElem? (i := 228) rfl) rfl), Or.inl (gt_5 (List.mem_of_getElem? (i := 76) rfl) rfl)⟩
theorem lX0_67 : pm_LS RX0 67 mJ7_fill_53178 := ⟨(gt_1 (List.mem_of_getElem? (i := 228) rfl) rfl), Or.inl (gt_1 (List.mem_of_getElem? (i := 227) rfl) rfl)⟩
theorem lX1_36 : pm_LS RX1 36 mJ7_fill_53178 := ⟨(gt_1 (List.mem_of_getElem? (i := 228) rfl) rfl), Or.inl (gt_4 (List.mem_of_getElem? (i := 91) rfl) rfl)⟩
theorem lX1_59 : pm_LS RX1 59 mX11_bitOf := ⟨(gt_4 (List.mem_of_getElem? (i := 147) rfl) rfl), Or.inr ⟨"RubatoDesk", List.mem_filter.mpr ⟨List.mem_append.mpr (Or.inr (by decide +kernel)), rfl⟩⟩⟩
theorem lX1_64 : pm_LS RX1 64 mJ7_fill_d0a16 := ⟨(gt_5 (List.mem_of_getElem? (i := 58) rfl) rfl), Or.inl (gt_5 (List.mem_of_getElem? (i := 202) rfl) rfl)⟩
theorem lX1_67 : pm_LS RX1 67 mX0_placeOf := ⟨(gt_4 (List.mem_of_getElem? (i := 155) rfl) rfl), Or.inl (gt_5 (List.mem_of_getElem? (i := 203) rfl) rfl)⟩
theorem lX1_84 : pm_LS RX1 84 mX0_storeOf := ⟨(gt_4 (List.mem_of_getElem? (i := 134) rfl) rfl), Or.inl (gt_5 (List.mem_of_getElem? (i := 208) rfl) rfl)⟩
theorem lX1_87 : pm_LS RX1 87 mX0_lastOf := ⟨(gt_5 (List.mem_of_getElem? (i := 65) rfl) rfl), Or.inl (gt_5 (List.mem_of_getElem? (i := 209) rfl) rfl)⟩
theorem lX3_29 : pm_LS RX3 29 mJ9_min_7cf53 := ⟨(gt_3 (List.mem_of_getElem? (i := 20) rfl) rfl), Or.inl (gt_4 (List.mem_of_getElem? (i := 119) rfl) rfl)⟩
theorem lX4_24 : pm_LS RX4 24 mX4_joined := ⟨(gt_4 (List.mem_of_getElem? (i := 61) rfl) rfl), Or.inl (gt_4 (List.mem_of_getElem? (i := 60) rfl) rfl)⟩
theorem lX5_50 : pm_LS RX5 50 mJ7_fill_53178 := ⟨(gt_1 (List.mem_of_getElem? (i := 228) rfl) rfl), Or.inl (gt_5 (List.mem_of_getElem? (i := 107) rfl) rfl)⟩
theorem lX5_67 : pm_LS RX5 67 mX5_mostFrom := ⟨(gt_5 (List.mem_of_getElem? (i := 113) rfl) rfl), Or.inl (gt_5 (List.mem_of_getElem? (i := 112) rfl) rfl)⟩
theorem lX5_88 : pm_LS RX5 88 mJ9_max_7cf53 := ⟨(gt_4 (List.mem_of_getElem? (i := 111) rfl) rfl), Or.inl (gt_5 (List.mem_of_getElem? (i := 115) rfl) rfl)⟩
theorem lX5_103 : pm_LS RX5 103 mJ9_min_7cf53 := ⟨(gt_3 (List.mem_of_getElem? (i := 20) rfl) rfl), Or.inl (gt_5 (List.mem_of_getElem? (i := 131) rfl) rfl)⟩
theorem lX5_110 : pm_LS RX5 110 mJ6_bitCount_0f7a4 := ⟨(gt_5 (List.mem_of_getElem? (i := 137) rfl) rfl), Or.inl (gt_5 (List.mem_of_getElem? (i := 136) rfl) rfl)⟩
theorem lX6_49 : pm_LS RX6 49 mJ9_min_7cf53 := ⟨(gt_3 (List.mem_of_getElem? (i := 20) rfl) rfl), Or.inl (gt_3 (List.mem_of_getElem? (i := 19) rfl) rfl)⟩
theorem lX6_82 : pm_LS RX6 82 mX6_isLetter := ⟨(gt_3 (List.mem_of_getElem? (i := 40) rfl) rfl), Or.inl (gt_3 (List.mem_of_getElem? (i := 39) rfl) rfl)⟩
theorem lX6_95 : pm_LS RX6 95 mX6_isDigit := ⟨(gt_3 (List.mem_of_getElem? (i := 104) rfl) rfl), Or.inl (gt_3 (List.mem_of_getElem? (i := 103) rfl) rfl)⟩
theorem lX6_104 : pm_LS RX6 104 mX6_isSign := ⟨(gt_3 (List.mem_of_getElem? (i := 115) rfl) rfl), Or.inl (gt_3 (List.mem_of_getElem? (i := 114) rfl) rfl)⟩
theorem lX6_158 : pm_LS RX6 158 mX6_isFlag := ⟨(gt_3 (List.mem_of_getElem? (i := 162) rfl) rfl), Or.inl (gt_3 (List.mem_of_getElem? (i := 161) rfl) rfl)⟩
theorem lX6_177 : pm_LS RX6 177 mX6_joins := ⟨(gt_3 (List.mem_of_getElem? (i := 194) rfl) rfl), Or.inl (gt_3 (List.mem_of_getElem? (i := 193) rfl) rfl)⟩
theorem lX7_47 : pm_LS RX7 47 mJ7_fill_53178 := ⟨(gt_1 (List.mem_of_getElem? (i := 228) rfl) rfl), Or.inl (gt_3 (List.mem_of_getElem? (i := 26) rfl) rfl)⟩
theorem lX8_38 : pm_LS RX8 38 mJ7_fill_53178 := ⟨(gt_1 (List.mem_of_getElem? (i := 228) rfl) rfl), Or.inl (gt_3 (List.mem_of_getElem? (i := 220) rfl) rfl)⟩
theorem lX8_46 : pm_LS RX8 46 mJ9_min_7cf53 := ⟨(gt_3 (List.mem_of_getElem? (i := 20) rfl) rfl), Or.inl (gt_4 (List.mem_of_getElem? (i := 109) rfl) rfl)⟩
theorem lX8_52 : pm_LS RX8 52 mJ9_max_7cf53 := ⟨(gt_4 (List.mem_of_getElem? (i := 111) rfl) rfl), Or.inl (gt_4 (List.mem_of_getElem? (i := 110) rfl) rfl)⟩
theorem lX9_22 : pm_LS RX9 22 mJ9_min_7cf53 := ⟨(gt_3 (List.mem_of_getElem? (i := 20) rfl) rfl), Or.inl (gt_5 (List.mem_of_getElem? (i := 233) rfl) rfl)⟩
theorem lX9_28 : pm_LS RX9 28 mJ9_max_7cf53 := ⟨(gt_4 (List.mem_of_getElem? (i := 111) rfl) rfl), Or.inl (gt_5 (List.mem_of_getElem? (i := 234) rfl) rfl)⟩
theorem lX9_31 : pm_LS RX9 31 mJ7_fill_d0a16 := ⟨(gt_5 (List.mem_of_getElem? (i := 58) rfl) rfl), Or.inl (gt_5 (List.mem_of_getElem? (i := 235) rfl) rfl)⟩
theorem lX10_49 : pm_LS RX10 49 mJ7_fill_53178 := ⟨(gt_1 (List.mem_of_getElem? (i := 228) rfl) rfl), Or.inl (gt_2 (List.mem_of_getElem? (i := 80) rfl) rfl)⟩
theorem lX10_60 : pm_LS RX10 60 mJ9_min_7cf53 := ⟨(gt_3 (List.mem_of_getElem? (i := 20) rfl) rfl), Or.inl (gt_4 (List.mem_of_getElem? (i := 132) rfl) rfl)⟩
theorem lX10_66 : pm_LS RX10 66 mX0_storeOf := ⟨(gt_4 (List.mem_of_getElem? (i := 134) rfl) rfl), Or.inl (gt_4 (List.mem_of_getElem? (i := 133) rfl) rfl)⟩
theorem lX10_74 : pm_LS RX10 74 mJ9_max_7cf53 := ⟨(gt_4 (List.mem_of_getElem? (i := 111) rfl) rfl), Or.inl (gt_4 (List.mem_of_getElem? (i := 141) rfl) rfl)⟩
theorem lX10_81 : pm_LS RX10 81 mX11_bitOf := ⟨(gt_4 (List.mem_of_getElem? (i := 147) rfl) rfl), Or.inr ⟨"RubatoDesk", List.mem_filter.mpr ⟨List.mem_append.mpr (Or.inr (by decide +kernel)), rfl⟩⟩⟩
theorem lX10_91 : pm_LS RX10 91 mX0_placeOf := ⟨(gt_4 (List.mem_of_getElem? (i := 155) rfl) rfl), Or.inl (gt_4 (List.mem_of_getElem? (i := 154) rfl) rfl)⟩
theorem lX10_101 : pm_LS RX10 101 mX0_lastOf := ⟨(gt_5 (List.mem_of_getElem? (i := 65) rfl) rfl), Or.inl (gt_5 (List.mem_of_getElem? (i := 64) rfl) rfl)⟩
theorem lX10_104 : pm_LS RX10 104 mJ7_fill_d0a16 := ⟨(gt_5 (List.mem_of_getElem? (i := 58) rfl) rfl), Or.inl (gt_5 (List.mem_of_getElem? (i := 57) rfl) rfl)⟩
theorem lX12_85 : pm_LS RX12 85 mX12_plain := ⟨(gt_6 (List.mem_of_getElem? (i := 39) rfl) rfl), Or.inl (gt_6 (List.mem_of_getElem? (i := 38) rfl) rfl)⟩
theorem lX12_121 : pm_LS RX12 121 mX12_isSmall := ⟨(gt_6 (List.mem_of_getElem? (i := 182) rfl) rfl), Or.inl (gt_6 (List.mem_of_getElem? (i := 181) rfl) rfl)⟩
theorem lX12_128 : pm_LS RX12 128 mX12_isDigit := ⟨(gt_6 (List.mem_of_getElem? (i := 192) rfl) rfl), Or.inl (gt_6 (List.mem_of_getElem? (i := 191) rfl) rfl)⟩
theorem lX12_152 : pm_LS RX12 152 mX12_within := ⟨(gt_6 (List.mem_of_getElem? (i := 170) rfl) rfl), Or.inl (gt_6 (List.mem_of_getElem? (i := 169) rfl) rfl)⟩
theorem lX12_229 : pm_LS RX12 229 mX12_between := ⟨(gt_7 (List.mem_of_getElem? (i := 85) rfl) rfl), Or.inl (gt_7 (List.mem_of_getElem? (i := 84) rfl) rfl)⟩
theorem lX12_240 : pm_LS RX12 240 mX12_isStore := ⟨(gt_7 (List.mem_of_getElem? (i := 125) rfl) rfl), Or.inl (gt_7 (List.mem_of_getElem? (i := 124) rfl) rfl)⟩
theorem lX12_255 : pm_LS RX12 255 mX12_isDraw := ⟨(gt_7 (List.mem_of_getElem? (i := 68) rfl) rfl), Or.inl (gt_7 (List.mem_of_getElem? (i := 67) rfl) rfl)⟩
theorem lX12_262 : pm_LS RX12 262 mX12_spot := ⟨(gt_7 (List.mem_of_getElem? (i := 118) rfl) rfl), Or.inl (gt_7 (List.mem_of_getElem? (i := 117) rfl) rfl)⟩
theorem lX12_315 : pm_LS RX12 315 mX12_isIn := ⟨(gt_7 (List.mem_of_getElem? (i := 98) rfl) rfl), Or.inl (gt_7 (List.mem_of_getElem? (i := 97) rfl) rfl)⟩
theorem lX12_416 : pm_LS RX12 416 mX12_isTold := ⟨(gt_8 (List.mem_of_getElem? (i := 38) rfl) rfl), Or.inl (gt_8 (List.mem_of_getElem? (i := 37) rfl) rfl)⟩
theorem lX12_427 : pm_LS RX12 427 mX12_mark := ⟨(gt_8 (List.mem_of_getElem? (i := 69) rfl) rfl), Or.inl (gt_8 (List.mem_of_getElem? (i := 68) rfl) rfl)⟩
theorem lX12_470 : pm_LS RX12 470 mX12_bitsOf := ⟨(gt_8 (List.mem_of_getElem? (i := 129) rfl) rfl), Or.inl (gt_8 (List.mem_of_getElem? (i := 128) rfl) rfl)⟩
theorem lX12_477 : pm_LS RX12 477 mX12_isEnd := ⟨(gt_8 (List.mem_of_getElem? (i := 153) rfl) rfl), Or.inl (gt_8 (List.mem_of_getElem? (i := 152) rfl) rfl)⟩
theorem lX12_491 : pm_LS RX12 491 mX12_common := ⟨(gt_8 (List.mem_of_getElem? (i := 196) rfl) rfl), Or.inl (gt_8 (List.mem_of_getElem? (i := 195) rfl) rfl)⟩
theorem lX12_502 : pm_LS RX12 502 mX12_tens := ⟨(gt_8 (List.mem_of_getElem? (i := 193) rfl) rfl), Or.inl (gt_8 (List.mem_of_getElem? (i := 192) rfl) rfl)⟩
theorem lX12_507 : pm_LS RX12 507 mX12_cut := ⟨(gt_8 (List.mem_of_getElem? (i := 212) rfl) rfl), Or.inl (gt_8 (List.mem_of_getElem? (i := 211) rfl) rfl)⟩
theorem lX11_119 : pm_LV RX11 119 mX11_feedFour := ⟨(gt_3 (List.mem_of_getElem? (i := 4) rfl) rfl), (gt_s (List.mem_of_getElem? (i := 0) rfl)), (gt_3 (List.mem_of_getElem? (i := 2) rfl) rfl)⟩
theorem lX11_124 : pm_LV RX11 124 mX11_spareSheet := ⟨(gt_3 (List.mem_of_getElem? (i := 13) rfl) rfl), (gt_s (List.mem_of_getElem? (i := 1) rfl)), (gt_3 (List.mem_of_getElem? (i := 11) rfl) rfl)⟩
theorem lX11_128 : pm_LV RX11 128 mX6_read := ⟨(gt_3 (List.mem_of_getElem? (i := 16) rfl) rfl), (gt_3 (List.mem_of_getElem? (i := 17) rfl) rfl), (gt_3 (List.mem_of_getElem? (i := 15) rfl) rfl)⟩
theorem lX11_136 : pm_LV RX11 136 mX11_useSheet := ⟨(gt_3 (List.mem_of_getElem? (i := 199) rfl) rfl), (gt_s (List.mem_of_getElem? (i := 24) rfl)), (gt_3 (List.mem_of_getElem? (i := 197) rfl) rfl)⟩
theorem lX11_139 : pm_LV RX11 139 mX8_begin := ⟨(gt_3 (List.mem_of_getElem? (i := 214) rfl) rfl), (gt_3 (List.mem_of_getElem? (i := 215) rfl) rfl), (gt_3 (List.mem_of_getElem? (i := 213) rfl) rfl)⟩
theorem lX11_142 : pm_LV RX11 142 mX3_clear := ⟨(gt_3 (List.mem_of_getElem? (i := 222) rfl) rfl), (gt_3 (List.mem_of_getElem? (i := 223) rfl) rfl), (gt_3 (List.mem_of_getElem? (i := 221) rfl) rfl)⟩
theorem lX11_151 : pm_LV RX11 151 mX7_hasPlayer := ⟨(gt_3 (List.mem_of_getElem? (i := 234) rfl) rfl), (gt_3 (List.mem_of_getElem? (i := 235) rfl) rfl), (gt_3 (List.mem_of_getElem? (i := 233) rfl) rfl)⟩
theorem lX11_165 : pm_LV RX11 165 mX8_isBarred := ⟨(gt_3 (List.mem_of_getElem? (i := 239) rfl) rfl), (gt_4 (List.mem_of_getElem? (i := 0) rfl) rfl), (gt_3 (List.mem_of_getElem? (i := 238) rfl) rfl)⟩
theorem lX11_168 : pm_LV RX11 168 mX7_hasBar := ⟨(gt_4 (List.mem_of_getElem? (i := 7) rfl) rfl), (gt_4 (List.mem_of_getElem? (i := 8) rfl) rfl), (gt_4 (List.mem_of_getElem? (i := 6) rfl) rfl)⟩
theorem lX11_172 : pm_LV RX11 172 mX7_wantOf := ⟨(gt_4 (List.mem_of_getElem? (i := 11) rfl) rfl), (gt_4 (List.mem_of_getElem? (i := 12) rfl) rfl), (gt_4 (List.mem_of_getElem? (i := 10) rfl) rfl)⟩
theorem lX11_176 : pm_LV RX11 176 mX7_hasPiece := ⟨(gt_3 (List.mem_of_getElem? (i := 154) rfl) rfl), (gt_3 (List.mem_of_getElem? (i := 155) rfl) rfl), (gt_4 (List.mem_of_getElem? (i := 19) rfl) rfl)⟩
theorem lX11_179 : pm_LV RX11 179 mX7_barsOf := ⟨(gt_4 (List.mem_of_getElem? (i := 21) rfl) rfl), (gt_4 (List.mem_of_getElem? (i := 22) rfl) rfl), (gt_4 (List.mem_of_getElem? (i := 20) rfl) rfl)⟩
theorem lX11_186 : pm_LV RX11 186 mX11_takeUp := ⟨(gt_4 (List.mem_of_getElem? (i := 33) rfl) rfl), (gt_s (List.mem_of_getElem? (i := 26) rfl)), (gt_4 (List.mem_of_getElem? (i := 31) rfl) rfl)⟩
theorem lX11_190 : pm_LV RX11 190 mX0_gladBy := ⟨(gt_4 (List.mem_of_getElem? (i := 45) rfl) rfl), (gt_4 (List.mem_of_getElem? (i := 46) rfl) rfl), (gt_4 (List.mem_of_getElem? (i := 44) rfl) rfl)⟩
theorem lX11_194 : pm_LV RX11 194 mX8_copy := ⟨(gt_4 (List.mem_of_getElem? (i := 72) rfl) rfl), (gt_4 (List.mem_of_getElem? (i := 73) rfl) rfl), (gt_4 (List.mem_of_getElem? (i := 71) rfl) rfl)⟩
theorem lX11_198 : pm_LV RX11 198 mX2_playComing := ⟨(gt_4 (List.mem_of_getElem? (i := 76) rfl) rfl), (gt_4 (List.mem_of_getElem? (i := 77) rfl) rfl), (gt_4 (List.mem_of_getElem? (i := 75) rfl) rfl)⟩
theorem lX11_203 : pm_LV RX11 203 mX3_keep := ⟨(gt_4 (List.mem_of_getElem? (i := 115) rfl) rfl), (gt_4 (List.mem_of_getElem? (i := 116) rfl) rfl), (gt_4 (List.mem_of_getElem? (i := 114) rfl) rfl)⟩
theorem lX11_209 : pm_LV RX11 209 mX2_playBest := ⟨(gt_4 (List.mem_of_getElem? (i := 125) rfl) rfl), (gt_4 (List.mem_of_getElem? (i := 126) rfl) rfl), (gt_4 (List.mem_of_getElem? (i := 124) rfl) rfl)⟩
theorem lX11_212 : pm_LV RX11 212 mX2_lendTicks := ⟨(gt_4 (List.mem_of_getElem? (i := 170) rfl) rfl), (gt_4 (List.mem_of_getElem? (i := 171) rfl) rfl), (gt_4 (List.mem_of_getElem? (i := 169) rfl) rfl)⟩
theorem lX11_216 : pm_LV RX11 216 mX2_haveTemper := ⟨(gt_4 (List.mem_of_getElem? (i := 178) rfl) rfl), (gt_4 (List.mem_of_getElem? (i := 179) rfl) rfl), (gt_4 (List.mem_of_getElem? (i := 177) rfl) rfl)⟩
theorem lX11_219 : pm_LV RX11 219 mX2_holdFriday := ⟨(gt_4 (List.mem_of_getElem? (i := 186) rfl) rfl), (gt_4 (List.mem_of_getElem? (i := 187) rfl) rfl), (gt_4 (List.mem_of_getElem? (i := 185) rfl) rfl)⟩
theorem lX11_229 : pm_LV RX11 229 mX3_bringBack := ⟨(gt_4 (List.mem_of_getElem? (i := 194) rfl) rfl), (gt_4 (List.mem_of_getElem? (i := 195) rfl) rfl), (gt_4 (List.mem_of_getElem? (i := 193) rfl) rfl)⟩
theorem lX11_235 : pm_LV RX11 235 mX9_isMissing := ⟨(gt_4 (List.mem_of_getElem? (i := 205) rfl) rfl), (gt_4 (List.mem_of_getElem? (i := 206) rfl) rfl), (gt_4 (List.mem_of_getElem? (i := 204) rfl) rfl)⟩
theorem lX11_241 : pm_LV RX11 241 mX9_at := ⟨(gt_4 (List.mem_of_getElem? (i := 210) rfl) rfl), (gt_4 (List.mem_of_getElem? (i := 211) rfl) rfl), (gt_4 (List.mem_of_getElem? (i := 209) rfl) rfl)⟩
theorem lX11_245 : pm_LV RX11 245 mX2_doTold := ⟨(gt_4 (List.mem_of_getElem? (i := 214) rfl) rfl), (gt_4 (List.mem_of_getElem? (i := 215) rfl) rfl), (gt_4 (List.mem_of_getElem? (i := 213) rfl) rfl)⟩
theorem lX11_249 : pm_LV RX11 249 mX8_allStores := ⟨(gt_4 (List.mem_of_getElem? (i := 224) rfl) rfl), (gt_4 (List.mem_of_getElem? (i := 225) rfl) rfl), (gt_4 (List.mem_of_getElem? (i := 223) rfl) rfl)⟩
theorem lX11_253 : pm_LV RX11 253 mX8_allJoy := ⟨(gt_4 (List.mem_of_getElem? (i := 228) rfl) rfl), (gt_4 (List.mem_of_getElem? (i := 229) rfl) rfl), (gt_4 (List.mem_of_getElem? (i := 227) rfl) rfl)⟩
theorem lX11_256 : pm_LV RX11 256 mX2_sow := ⟨(gt_5 (List.mem_of_getElem? (i := 0) rfl) rfl), (gt_5 (List.mem_of_getElem? (i := 1) rfl) rfl), (gt_4 (List.mem_of_getElem? (i := 239) rfl) rfl)⟩
theorem lX11_259 : pm_LV RX11 259 mX2_doDrawn := ⟨(gt_5 (List.mem_of_getElem? (i := 4) rfl) rfl), (gt_5 (List.mem_of_getElem? (i := 5) rfl) rfl), (gt_5 (List.mem_of_getElem? (i := 3) rfl) rfl)⟩
theorem lX11_262 : pm_LV RX11 262 mX11_hasBoth := ⟨(gt_5 (List.mem_of_getElem? (i := 19) rfl) rfl), (gt_s (List.mem_of_getElem? (i := 32) rfl)), (gt_5 (List.mem_of_getElem? (i := 17) rfl) rfl)⟩
theorem lX11_268 : pm_LV RX11 268 mX1_run := ⟨(gt_4 (List.mem_of_getElem? (i := 88) rfl) rfl), (gt_4 (List.mem_of_getElem? (i := 89) rfl) rfl), (gt_5 (List.mem_of_getElem? (i := 24) rfl) rfl)⟩
theorem lX11_278 : pm_LV RX11 278 mX1_drawOf := ⟨(gt_5 (List.mem_of_getElem? (i := 26) rfl) rfl), (gt_5 (List.mem_of_getElem? (i := 27) rfl) rfl), (gt_5 (List.mem_of_getElem? (i := 25) rfl) rfl)⟩
theorem lX11_287 : pm_LV RX11 287 mX11_findBest := ⟨(gt_5 (List.mem_of_getElem? (i := 38) rfl) rfl), (gt_s (List.mem_of_getElem? (i := 33) rfl)), (gt_5 (List.mem_of_getElem? (i := 36) rfl) rfl)⟩
theorem lX11_291 : pm_LV RX11 291 mX10_tell := ⟨(gt_5 (List.mem_of_getElem? (i := 43) rfl) rfl), (gt_5 (List.mem_of_getElem? (i := 44) rfl) rfl), (gt_5 (List.mem_of_getElem? (i := 42) rfl) rfl)⟩
theorem lX11_299 : pm_LV RX11 299 mX10_howMany := ⟨(gt_5 (List.mem_of_getElem? (i := 54) rfl) rfl), (gt_5 (List.mem_of_getElem? (i := 55) rfl) rfl), (gt_5 (List.mem_of_getElem? (i := 53) rfl) rfl)⟩
theorem lX11_303 : pm_LV RX11 303 mX11_endsOf := ⟨(gt_5 (List.mem_of_getElem? (i := 73) rfl) rfl), (gt_s (List.mem_of_getElem? (i := 35) rfl)), (gt_5 (List.mem_of_getElem? (i := 71) rfl) rfl)⟩
theorem lX11_308 : pm_LV RX11 308 mX10_settle := ⟨(gt_4 (List.mem_of_getElem? (i := 129) rfl) rfl), (gt_4 (List.mem_of_getElem? (i := 130) rfl) rfl), (gt_5 (List.mem_of_getElem? (i := 40) rfl) rfl)⟩
theorem lX11_312 : pm_LV RX11 312 mX10_mostFrom := ⟨(gt_4 (List.mem_of_getElem? (i := 162) rfl) rfl), (gt_4 (List.mem_of_getElem? (i := 163) rfl) rfl), (gt_5 (List.mem_of_getElem? (i := 89) rfl) rfl)⟩
theorem lX11_323 : pm_LV RX11 323 mX5_find := ⟨(gt_5 (List.mem_of_getElem? (i := 100) rfl) rfl), (gt_5 (List.mem_of_getElem? (i := 101) rfl) rfl), (gt_5 (List.mem_of_getElem? (i := 99) rfl) rfl)⟩
theorem lX11_328 : pm_LV RX11 328 mX5_pieceAt := ⟨(gt_5 (List.mem_of_getElem? (i := 120) rfl) rfl), (gt_5 (List.mem_of_getElem? (i := 121) rfl) rfl), (gt_5 (List.mem_of_getElem? (i := 119) rfl) rfl)⟩
theorem lX11_331 : pm_LV RX11 331 mX5_largestSet := ⟨(gt_5 (List.mem_of_getElem? (i := 128) rfl) rfl), (gt_5 (List.mem_of_getElem? (i := 129) rfl) rfl), (gt_5 (List.mem_of_getElem? (i := 127) rfl) rfl)⟩
theorem lX11_345 : pm_LV RX11 345 mX11_refuseHeard := ⟨(gt_5 (List.mem_of_getElem? (i := 161) rfl) rfl), (gt_s (List.mem_of_getElem? (i := 40) rfl)), (gt_5 (List.mem_of_getElem? (i := 159) rfl) rfl)⟩
theorem lX11_350 : pm_LV RX11 350 mX11_tempersHeard := ⟨(gt_5 (List.mem_of_getElem? (i := 178) rfl) rfl), (gt_s (List.mem_of_getElem? (i := 41) rfl)), (gt_5 (List.mem_of_getElem? (i := 176) rfl) rfl)⟩
theorem lX11_353 : pm_LV RX11 353 mX11_mostAlike := ⟨(gt_5 (List.mem_of_getElem? (i := 192) rfl) rfl), (gt_s (List.mem_of_getElem? (i := 42) rfl)), (gt_5 (List.mem_of_getElem? (i := 190) rfl) rfl)⟩
theorem lX11_356 : pm_LV RX11 356 mX1_chances := ⟨(gt_5 (List.mem_of_getElem? (i := 199) rfl) rfl), (gt_5 (List.mem_of_getElem? (i := 200) rfl) rfl), (gt_5 (List.mem_of_getElem? (i := 198) rfl) rfl)⟩
theorem lX11_360 : pm_LV RX11 360 mX1_allChances := ⟨(gt_5 (List.mem_of_getElem? (i := 213) rfl) rfl), (gt_5 (List.mem_of_getElem? (i := 214) rfl) rfl), (gt_5 (List.mem_of_getElem? (i := 212) rfl) rfl)⟩
theorem lX11_370 : pm_LV RX11 370 mX9_begin := ⟨(gt_5 (List.mem_of_getElem? (i := 230) rfl) rfl), (gt_5 (List.mem_of_getElem? (i := 231) rfl) rfl), (gt_5 (List.mem_of_getElem? (i := 229) rfl) rfl)⟩
theorem lX11_376 : pm_LV RX11 376 mX9_put := ⟨(gt_6 (List.mem_of_getElem? (i := 3) rfl) rfl), (gt_6 (List.mem_of_getElem? (i := 4) rfl) rfl), (gt_6 (List.mem_of_getElem? (i := 2) rfl) rfl)⟩
theorem lX11_383 : pm_LV RX11 383 mX7_allBars := ⟨(gt_6 (List.mem_of_getElem? (i := 28) rfl) rfl), (gt_6 (List.mem_of_getElem? (i := 29) rfl) rfl), (gt_6 (List.mem_of_getElem? (i := 27) rfl) rfl)⟩
theorem lX11_392 : pm_LV RX11 392 mX0_useSheet := ⟨(gt_3 (List.mem_of_getElem? (i := 202) rfl) rfl), (gt_3 (List.mem_of_getElem? (i := 203) rfl) rfl), (gt_3 (List.mem_of_getElem? (i := 201) rfl) rfl)⟩
theorem lX11_393 : pm_LV RX11 393 mX0_takeUp := ⟨(gt_4 (List.mem_of_getElem? (i := 36) rfl) rfl), (gt_4 (List.mem_of_getElem? (i := 37) rfl) rfl), (gt_4 (List.mem_of_getElem? (i := 35) rfl) rfl)⟩
theorem lX11_396 : pm_LV RX11 396 mX10_follow := ⟨(gt_4 (List.mem_of_getElem? (i := 158) rfl) rfl), (gt_4 (List.mem_of_getElem? (i := 159) rfl) rfl), (gt_5 (List.mem_of_getElem? (i := 41) rfl) rfl)⟩
theorem lX11_405 : pm_LV RX11 405 mX10_spread := ⟨(gt_5 (List.mem_of_getElem? (i := 78) rfl) rfl), (gt_5 (List.mem_of_getElem? (i := 79) rfl) rfl), (gt_5 (List.mem_of_getElem? (i := 77) rfl) rfl)⟩
theorem lX11_416 : pm_LV RX11 416 mX1_isWithin := ⟨(gt_5 (List.mem_of_getElem? (i := 181) rfl) rfl), (gt_5 (List.mem_of_getElem? (i := 182) rfl) rfl), (gt_5 (List.mem_of_getElem? (i := 180) rfl) rfl)⟩
theorem lX0_73 : pm_LV RX0 73 mX0_asksFor := ⟨(gt_3 (List.mem_of_getElem? (i := 207) rfl) rfl), (gt_s (List.mem_of_getElem? (i := 25) rfl)), (gt_3 (List.mem_of_getElem? (i := 205) rfl) rfl)⟩
theorem lX0_83 : pm_LV RX0 83 mX4_asksFor := ⟨(gt_3 (List.mem_of_getElem? (i := 210) rfl) rfl), (gt_3 (List.mem_of_getElem? (i := 211) rfl) rfl), (gt_3 (List.mem_of_getElem? (i := 209) rfl) rfl)⟩
theorem lX0_87 : pm_LV RX0 87 mX7_barsOf := ⟨(gt_4 (List.mem_of_getElem? (i := 21) rfl) rfl), (gt_4 (List.mem_of_getElem? (i := 22) rfl) rfl), (gt_4 (List.mem_of_getElem? (i := 39) rfl) rfl)⟩
theorem lX0_91 : pm_LV RX0 91 mX0_cellOf := ⟨(gt_4 (List.mem_of_getElem? (i := 42) rfl) rfl), (gt_s (List.mem_of_getElem? (i := 27) rfl)), (gt_4 (List.mem_of_getElem? (i := 40) rfl) rfl)⟩
theorem lX0_95 : pm_LV RX0 95 mX0_see := ⟨(gt_4 (List.mem_of_getElem? (i := 50) rfl) rfl), (gt_s (List.mem_of_getElem? (i := 28) rfl)), (gt_4 (List.mem_of_getElem? (i := 48) rfl) rfl)⟩
theorem lX0_99 : pm_LV RX0 99 mX4_isTold := ⟨(gt_4 (List.mem_of_getElem? (i := 53) rfl) rfl), (gt_4 (List.mem_of_getElem? (i := 54) rfl) rfl), (gt_4 (List.mem_of_getElem? (i := 52) rfl) rfl)⟩
theorem lX0_103 : pm_LV RX0 103 mX4_valueOf := ⟨(gt_4 (List.mem_of_getElem? (i := 57) rfl) rfl), (gt_4 (List.mem_of_getElem? (i := 58) rfl) rfl), (gt_4 (List.mem_of_getElem? (i := 56) rfl) rfl)⟩
theorem lX0_113 : pm_LV RX0 113 mX0_gladAt := ⟨(gt_4 (List.mem_of_getElem? (i := 98) rfl) rfl), (gt_4 (List.mem_of_getElem? (i := 99) rfl) rfl), (gt_4 (List.mem_of_getElem? (i := 97) rfl) rfl)⟩
theorem lX1_47 : pm_LV RX1 47 mX0_comingDraw := ⟨(gt_4 (List.mem_of_getElem? (i := 93) rfl) rfl), (gt_4 (List.mem_of_getElem? (i := 94) rfl) rfl), (gt_4 (List.mem_of_getElem? (i := 92) rfl) rfl)⟩
theorem lX1_51 : pm_LV RX1 51 mX0_gladAt := ⟨(gt_4 (List.mem_of_getElem? (i := 98) rfl) rfl), (gt_4 (List.mem_of_getElem? (i := 99) rfl) rfl), (gt_4 (List.mem_of_getElem? (i := 102) rfl) rfl)⟩
theorem lX1_55 : pm_LV RX1 55 mX1_drawOf := ⟨(gt_5 (List.mem_of_getElem? (i := 26) rfl) rfl), (gt_5 (List.mem_of_getElem? (i := 27) rfl) rfl), (gt_5 (List.mem_of_getElem? (i := 184) rfl) rfl)⟩
theorem lX1_71 : pm_LV RX1 71 mX1_slipAt := ⟨(gt_5 (List.mem_of_getElem? (i := 206) rfl) rfl), (gt_s (List.mem_of_getElem? (i := 43) rfl)), (gt_5 (List.mem_of_getElem? (i := 204) rfl) rfl)⟩
theorem lX1_91 : pm_LV RX1 91 mX0_lastBehind := ⟨(gt_4 (List.mem_of_getElem? (i := 151) rfl) rfl), (gt_4 (List.mem_of_getElem? (i := 152) rfl) rfl), (gt_5 (List.mem_of_getElem? (i := 211) rfl) rfl)⟩
theorem lX2_30 : pm_LV RX2 30 mX2_whyNotPlay := ⟨(gt_4 (List.mem_of_getElem? (i := 81) rfl) rfl), (gt_s (List.mem_of_getElem? (i := 29) rfl)), (gt_4 (List.mem_of_getElem? (i := 79) rfl) rfl)⟩
theorem lX2_40 : pm_LV RX2 40 mX0_takeUp := ⟨(gt_4 (List.mem_of_getElem? (i := 36) rfl) rfl), (gt_4 (List.mem_of_getElem? (i := 37) rfl) rfl), (gt_4 (List.mem_of_getElem? (i := 86) rfl) rfl)⟩
theorem lX2_49 : pm_LV RX2 49 mX1_run := ⟨(gt_4 (List.mem_of_getElem? (i := 88) rfl) rfl), (gt_4 (List.mem_of_getElem? (i := 89) rfl) rfl), (gt_4 (List.mem_of_getElem? (i := 87) rfl) rfl)⟩
theorem lX2_59 : pm_LV RX2 59 mX8_addJoy := ⟨(gt_4 (List.mem_of_getElem? (i := 104) rfl) rfl), (gt_4 (List.mem_of_getElem? (i := 105) rfl) rfl), (gt_4 (List.mem_of_getElem? (i := 103) rfl) rfl)⟩
theorem lX2_68 : pm_LV RX2 68 mX10_settle := ⟨(gt_4 (List.mem_of_getElem? (i := 129) rfl) rfl), (gt_4 (List.mem_of_getElem? (i := 130) rfl) rfl), (gt_4 (List.mem_of_getElem? (i := 128) rfl) rfl)⟩
theorem lX2_72 : pm_LV RX2 72 mX10_follow := ⟨(gt_4 (List.mem_of_getElem? (i := 158) rfl) rfl), (gt_4 (List.mem_of_getElem? (i := 159) rfl) rfl), (gt_4 (List.mem_of_getElem? (i := 157) rfl) rfl)⟩
theorem lX2_82 : pm_LV RX2 82 mX7_hasPlayer := ⟨(gt_3 (List.mem_of_getElem? (i := 234) rfl) rfl), (gt_3 (List.mem_of_getElem? (i := 235) rfl) rfl), (gt_4 (List.mem_of_getElem? (i := 83) rfl) rfl)⟩
theorem lX2_87 : pm_LV RX2 87 mX7_hasPiece := ⟨(gt_3 (List.mem_of_getElem? (i := 154) rfl) rfl), (gt_3 (List.mem_of_getElem? (i := 155) rfl) rfl), (gt_4 (List.mem_of_getElem? (i := 84) rfl) rfl)⟩
theorem lX2_90 : pm_LV RX2 90 mX8_isBarred := ⟨(gt_3 (List.mem_of_getElem? (i := 239) rfl) rfl), (gt_4 (List.mem_of_getElem? (i := 0) rfl) rfl), (gt_4 (List.mem_of_getElem? (i := 85) rfl) rfl)⟩
theorem lX2_101 : pm_LV RX2 101 mX2_holdFriday := ⟨(gt_4 (List.mem_of_getElem? (i := 186) rfl) rfl), (gt_4 (List.mem_of_getElem? (i := 187) rfl) rfl), (gt_4 (List.mem_of_getElem? (i := 218) rfl) rfl)⟩
theorem lX2_107 : pm_LV RX2 107 mX2_playComing := ⟨(gt_4 (List.mem_of_getElem? (i := 76) rfl) rfl), (gt_4 (List.mem_of_getElem? (i := 77) rfl) rfl), (gt_4 (List.mem_of_getElem? (i := 220) rfl) rfl)⟩
theorem lX2_110 : pm_LV RX2 110 mX2_playBest := ⟨(gt_4 (List.mem_of_getElem? (i := 125) rfl) rfl), (gt_4 (List.mem_of_getElem? (i := 126) rfl) rfl), (gt_4 (List.mem_of_getElem? (i := 221) rfl) rfl)⟩
theorem lX2_113 : pm_LV RX2 113 mX2_lendTicks := ⟨(gt_4 (List.mem_of_getElem? (i := 170) rfl) rfl), (gt_4 (List.mem_of_getElem? (i := 171) rfl) rfl), (gt_4 (List.mem_of_getElem? (i := 222) rfl) rfl)⟩
theorem lX2_118 : pm_LV RX2 118 mX2_drawn := ⟨(gt_5 (List.mem_of_getElem? (i := 9) rfl) rfl), (gt_s (List.mem_of_getElem? (i := 31) rfl)), (gt_5 (List.mem_of_getElem? (i := 7) rfl) rfl)⟩
theorem lX2_122 : pm_LV RX2 122 mX2_haveTemper := ⟨(gt_4 (List.mem_of_getElem? (i := 178) rfl) rfl), (gt_4 (List.mem_of_getElem? (i := 179) rfl) rfl), (gt_5 (List.mem_of_getElem? (i := 12) rfl) rfl)⟩
theorem lX3_25 : pm_LV RX3 25 mX8_copy := ⟨(gt_4 (List.mem_of_getElem? (i := 72) rfl) rfl), (gt_4 (List.mem_of_getElem? (i := 73) rfl) rfl), (gt_4 (List.mem_of_getElem? (i := 118) rfl) rfl)⟩
theorem lX5_59 : pm_LV RX5 59 mX5_begin := ⟨(gt_5 (List.mem_of_getElem? (i := 105) rfl) rfl), (gt_s (List.mem_of_getElem? (i := 37) rfl)), (gt_5 (List.mem_of_getElem? (i := 103) rfl) rfl)⟩
theorem lX5_63 : pm_LV RX5 63 mX5_search := ⟨(gt_5 (List.mem_of_getElem? (i := 110) rfl) rfl), (gt_s (List.mem_of_getElem? (i := 38) rfl)), (gt_5 (List.mem_of_getElem? (i := 108) rfl) rfl)⟩
theorem lX5_77 : pm_LV RX5 77 mX0_takeUp := ⟨(gt_4 (List.mem_of_getElem? (i := 36) rfl) rfl), (gt_4 (List.mem_of_getElem? (i := 37) rfl) rfl), (gt_5 (List.mem_of_getElem? (i := 117) rfl) rfl)⟩
theorem lX5_82 : pm_LV RX5 82 mX10_spread := ⟨(gt_5 (List.mem_of_getElem? (i := 78) rfl) rfl), (gt_5 (List.mem_of_getElem? (i := 79) rfl) rfl), (gt_5 (List.mem_of_getElem? (i := 118) rfl) rfl)⟩
theorem lX5_106 : pm_LV RX5 106 mX5_gather := ⟨(gt_5 (List.mem_of_getElem? (i := 134) rfl) rfl), (gt_s (List.mem_of_getElem? (i := 39) rfl)), (gt_5 (List.mem_of_getElem? (i := 132) rfl) rfl)⟩
theorem lX6_55 : pm_LV RX6 55 mX7_clear := ⟨(gt_3 (List.mem_of_getElem? (i := 23) rfl) rfl), (gt_3 (List.mem_of_getElem? (i := 24) rfl) rfl), (gt_3 (List.mem_of_getElem? (i := 22) rfl) rfl)⟩
theorem lX6_60 : pm_LV RX6 60 mX6_cut := ⟨(gt_3 (List.mem_of_getElem? (i := 33) rfl) rfl), (gt_s (List.mem_of_getElem? (i := 2) rfl)), (gt_3 (List.mem_of_getElem? (i := 31) rfl) rfl)⟩
theorem lX6_63 : pm_LV RX6 63 mX6_take := ⟨(gt_3 (List.mem_of_getElem? (i := 119) rfl) rfl), (gt_s (List.mem_of_getElem? (i := 9) rfl)), (gt_3 (List.mem_of_getElem? (i := 117) rfl) rfl)⟩
theorem lX6_70 : pm_LV RX6 70 mX6_kind := ⟨(gt_3 (List.mem_of_getElem? (i := 123) rfl) rfl), (gt_s (List.mem_of_getElem? (i := 10) rfl)), (gt_3 (List.mem_of_getElem? (i := 121) rfl) rfl)⟩
theorem lX6_74 : pm_LV RX6 74 mX6_readLine := ⟨(gt_3 (List.mem_of_getElem? (i := 135) rfl) rfl), (gt_s (List.mem_of_getElem? (i := 13) rfl)), (gt_3 (List.mem_of_getElem? (i := 133) rfl) rfl)⟩
theorem lX6_78 : pm_LV RX6 78 mX6_signAt := ⟨(gt_3 (List.mem_of_getElem? (i := 37) rfl) rfl), (gt_s (List.mem_of_getElem? (i := 3) rfl)), (gt_3 (List.mem_of_getElem? (i := 35) rfl) rfl)⟩
theorem lX6_85 : pm_LV RX6 85 mX6_endOfLetters := ⟨(gt_3 (List.mem_of_getElem? (i := 44) rfl) rfl), (gt_s (List.mem_of_getElem? (i := 4) rfl)), (gt_3 (List.mem_of_getElem? (i := 42) rfl) rfl)⟩
theorem lX6_88 : pm_LV RX6 88 mX6_wordAt := ⟨(gt_3 (List.mem_of_getElem? (i := 48) rfl) rfl), (gt_s (List.mem_of_getElem? (i := 5) rfl)), (gt_3 (List.mem_of_getElem? (i := 46) rfl) rfl)⟩
theorem lX6_91 : pm_LV RX6 91 mX6_addToken := ⟨(gt_3 (List.mem_of_getElem? (i := 101) rfl) rfl), (gt_s (List.mem_of_getElem? (i := 6) rfl)), (gt_3 (List.mem_of_getElem? (i := 99) rfl) rfl)⟩
theorem lX6_98 : pm_LV RX6 98 mX6_endOfDigits := ⟨(gt_3 (List.mem_of_getElem? (i := 108) rfl) rfl), (gt_s (List.mem_of_getElem? (i := 7) rfl)), (gt_3 (List.mem_of_getElem? (i := 106) rfl) rfl)⟩
theorem lX6_101 : pm_LV RX6 101 mX6_numberAt := ⟨(gt_3 (List.mem_of_getElem? (i := 112) rfl) rfl), (gt_s (List.mem_of_getElem? (i := 8) rfl)), (gt_3 (List.mem_of_getElem? (i := 110) rfl) rfl)⟩
theorem lX6_109 : pm_LV RX6 109 mJ0_length_8abf5 := ⟨(gt_3 (List.mem_of_getElem? (i := 52) rfl) rfl), (gt_3 (List.mem_of_getElem? (i := 53) rfl) rfl), (gt_3 (List.mem_of_getElem? (i := 51) rfl) rfl)⟩
theorem lX6_113 : pm_LV RX6 113 mJ0_charAt_5068e := ⟨(gt_3 (List.mem_of_getElem? (i := 62) rfl) rfl), (gt_3 (List.mem_of_getElem? (i := 63) rfl) rfl), (gt_3 (List.mem_of_getElem? (i := 61) rfl) rfl)⟩
theorem lX6_117 : pm_LV RX6 117 mX6_faulty := ⟨(gt_3 (List.mem_of_getElem? (i := 131) rfl) rfl), (gt_s (List.mem_of_getElem? (i := 12) rfl)), (gt_3 (List.mem_of_getElem? (i := 129) rfl) rfl)⟩
theorem lX6_120 : pm_LV RX6 120 mX6_cannotStand := ⟨(gt_3 (List.mem_of_getElem? (i := 127) rfl) rfl), (gt_s (List.mem_of_getElem? (i := 11) rfl)), (gt_3 (List.mem_of_getElem? (i := 125) rfl) rfl)⟩
theorem lX6_123 : pm_LV RX6 123 mX6_readPiece := ⟨(gt_3 (List.mem_of_getElem? (i := 139) rfl) rfl), (gt_s (List.mem_of_getElem? (i := 14) rfl)), (gt_3 (List.mem_of_getElem? (i := 137) rfl) rfl)⟩
theorem lX6_126 : pm_LV RX6 126 mX6_readPlayer := ⟨(gt_3 (List.mem_of_getElem? (i := 159) rfl) rfl), (gt_s (List.mem_of_getElem? (i := 17) rfl)), (gt_3 (List.mem_of_getElem? (i := 157) rfl) rfl)⟩
theorem lX6_132 : pm_LV RX6 132 mX6_readLaw := ⟨(gt_3 (List.mem_of_getElem? (i := 166) rfl) rfl), (gt_s (List.mem_of_getElem? (i := 18) rfl)), (gt_3 (List.mem_of_getElem? (i := 164) rfl) rfl)⟩
theorem lX6_139 : pm_LV RX6 139 mX6_takeNumber := ⟨(gt_3 (List.mem_of_getElem? (i := 143) rfl) rfl), (gt_s (List.mem_of_getElem? (i := 15) rfl)), (gt_3 (List.mem_of_getElem? (i := 141) rfl) rfl)⟩
theorem lX6_142 : pm_LV RX6 142 mX6_taken := ⟨(gt_3 (List.mem_of_getElem? (i := 147) rfl) rfl), (gt_s (List.mem_of_getElem? (i := 16) rfl)), (gt_3 (List.mem_of_getElem? (i := 145) rfl) rfl)⟩
theorem lX6_151 : pm_LV RX6 151 mX7_addBar := ⟨(gt_3 (List.mem_of_getElem? (i := 150) rfl) rfl), (gt_3 (List.mem_of_getElem? (i := 151) rfl) rfl), (gt_3 (List.mem_of_getElem? (i := 149) rfl) rfl)⟩
theorem lX6_167 : pm_LV RX6 167 mX4_clear := ⟨(gt_3 (List.mem_of_getElem? (i := 28) rfl) rfl), (gt_3 (List.mem_of_getElem? (i := 29) rfl) rfl), (gt_3 (List.mem_of_getElem? (i := 168) rfl) rfl)⟩
theorem lX6_170 : pm_LV RX6 170 mX6_readChain := ⟨(gt_3 (List.mem_of_getElem? (i := 171) rfl) rfl), (gt_s (List.mem_of_getElem? (i := 19) rfl)), (gt_3 (List.mem_of_getElem? (i := 169) rfl) rfl)⟩
theorem lX6_174 : pm_LV RX6 174 mX6_readPart := ⟨(gt_3 (List.mem_of_getElem? (i := 175) rfl) rfl), (gt_s (List.mem_of_getElem? (i := 20) rfl)), (gt_3 (List.mem_of_getElem? (i := 173) rfl) rfl)⟩
theorem lX6_180 : pm_LV RX6 180 mX4_add := ⟨(gt_3 (List.mem_of_getElem? (i := 186) rfl) rfl), (gt_3 (List.mem_of_getElem? (i := 187) rfl) rfl), (gt_3 (List.mem_of_getElem? (i := 185) rfl) rfl)⟩
theorem lX6_183 : pm_LV RX6 183 mX6_readUnit := ⟨(gt_3 (List.mem_of_getElem? (i := 179) rfl) rfl), (gt_s (List.mem_of_getElem? (i := 21) rfl)), (gt_3 (List.mem_of_getElem? (i := 177) rfl) rfl)⟩
theorem lX6_186 : pm_LV RX6 186 mX6_readAtom := ⟨(gt_3 (List.mem_of_getElem? (i := 191) rfl) rfl), (gt_s (List.mem_of_getElem? (i := 23) rfl)), (gt_3 (List.mem_of_getElem? (i := 189) rfl) rfl)⟩
theorem lX6_189 : pm_LV RX6 189 mX6_readComparison := ⟨(gt_3 (List.mem_of_getElem? (i := 183) rfl) rfl), (gt_s (List.mem_of_getElem? (i := 22) rfl)), (gt_3 (List.mem_of_getElem? (i := 181) rfl) rfl)⟩
theorem lX7_53 : pm_LV RX7 53 mX4_clear := ⟨(gt_3 (List.mem_of_getElem? (i := 28) rfl) rfl), (gt_3 (List.mem_of_getElem? (i := 29) rfl) rfl), (gt_3 (List.mem_of_getElem? (i := 27) rfl) rfl)⟩
theorem lX7_56 : pm_LV RX7 56 mX7_hasPiece := ⟨(gt_3 (List.mem_of_getElem? (i := 154) rfl) rfl), (gt_3 (List.mem_of_getElem? (i := 155) rfl) rfl), (gt_3 (List.mem_of_getElem? (i := 153) rfl) rfl)⟩
theorem lX7_60 : pm_LV RX7 60 mX7_hasBar := ⟨(gt_4 (List.mem_of_getElem? (i := 7) rfl) rfl), (gt_4 (List.mem_of_getElem? (i := 8) rfl) rfl), (gt_4 (List.mem_of_getElem? (i := 14) rfl) rfl)⟩
theorem lX7_64 : pm_LV RX7 64 mX7_barsOf := ⟨(gt_4 (List.mem_of_getElem? (i := 21) rfl) rfl), (gt_4 (List.mem_of_getElem? (i := 22) rfl) rfl), (gt_6 (List.mem_of_getElem? (i := 31) rfl) rfl)⟩
theorem lX9_37 : pm_LV RX9 37 mX9_cut := ⟨(gt_6 (List.mem_of_getElem? (i := 8) rfl) rfl), (gt_s (List.mem_of_getElem? (i := 44) rfl)), (gt_6 (List.mem_of_getElem? (i := 6) rfl) rfl)⟩
theorem lX10_71 : pm_LV RX10 71 mX0_lastsAt := ⟨(gt_4 (List.mem_of_getElem? (i := 138) rfl) rfl), (gt_4 (List.mem_of_getElem? (i := 139) rfl) rfl), (gt_4 (List.mem_of_getElem? (i := 137) rfl) rfl)⟩
theorem lX10_77 : pm_LV RX10 77 mX10_settleAt := ⟨(gt_4 (List.mem_of_getElem? (i := 144) rfl) rfl), (gt_s (List.mem_of_getElem? (i := 30) rfl)), (gt_4 (List.mem_of_getElem? (i := 142) rfl) rfl)⟩
theorem lX10_84 : pm_LV RX10 84 mX0_gladAt := ⟨(gt_4 (List.mem_of_getElem? (i := 98) rfl) rfl), (gt_4 (List.mem_of_getElem? (i := 99) rfl) rfl), (gt_4 (List.mem_of_getElem? (i := 149) rfl) rfl)⟩
theorem lX10_88 : pm_LV RX10 88 mX0_lastBehind := ⟨(gt_4 (List.mem_of_getElem? (i := 151) rfl) rfl), (gt_4 (List.mem_of_getElem? (i := 152) rfl) rfl), (gt_4 (List.mem_of_getElem? (i := 150) rfl) rfl)⟩
theorem lX10_94 : pm_LV RX10 94 mX10_mostFrom := ⟨(gt_4 (List.mem_of_getElem? (i := 162) rfl) rfl), (gt_4 (List.mem_of_getElem? (i := 163) rfl) rfl), (gt_4 (List.mem_of_getElem? (i := 161) rfl) rfl)⟩
theorem lX10_97 : pm_LV RX10 97 mX10_spreadBar := ⟨(gt_5 (List.mem_of_getElem? (i := 83) rfl) rfl), (gt_s (List.mem_of_getElem? (i := 36) rfl)), (gt_5 (List.mem_of_getElem? (i := 81) rfl) rfl)⟩
theorem lX10_107 : pm_LV RX10 107 mX10_countBar := ⟨(gt_5 (List.mem_of_getElem? (i := 62) rfl) rfl), (gt_s (List.mem_of_getElem? (i := 34) rfl)), (gt_5 (List.mem_of_getElem? (i := 60) rfl) rfl)⟩
theorem lL_13 : pm_LV RL 13 mX11_feed := ⟨(gt_2 (List.mem_of_getElem? (i := 238) rfl) rfl), (gt_2 (List.mem_of_getElem? (i := 239) rfl) rfl), (gt_2 (List.mem_of_getElem? (i := 237) rfl) rfl)⟩
theorem lL_17 : pm_LV RL 17 mX12_feed := ⟨(gt_6 (List.mem_of_getElem? (i := 161) rfl) rfl), (gt_6 (List.mem_of_getElem? (i := 162) rfl) rfl), (gt_6 (List.mem_of_getElem? (i := 160) rfl) rfl)⟩
theorem lL_18 : pm_LV RL 18 mX11_desk := ⟨(gt_3 (List.mem_of_getElem? (i := 7) rfl) rfl), (gt_3 (List.mem_of_getElem? (i := 8) rfl) rfl), (gt_3 (List.mem_of_getElem? (i := 6) rfl) rfl)⟩
theorem lL_22 : pm_LV RL 22 mX12_desk := ⟨(gt_6 (List.mem_of_getElem? (i := 166) rfl) rfl), (gt_6 (List.mem_of_getElem? (i := 167) rfl) rfl), (gt_6 (List.mem_of_getElem? (i := 165) rfl) rfl)⟩
theorem lL_23 : pm_LV RL 23 mX11_fault := ⟨(gt_3 (List.mem_of_getElem? (i := 226) rfl) rfl), (gt_3 (List.mem_of_getElem? (i := 227) rfl) rfl), (gt_3 (List.mem_of_getElem? (i := 225) rfl) rfl)⟩
theorem lL_26 : pm_LV RL 26 mX12_fault := ⟨(gt_7 (List.mem_of_getElem? (i := 35) rfl) rfl), (gt_7 (List.mem_of_getElem? (i := 36) rfl) rfl), (gt_7 (List.mem_of_getElem? (i := 34) rfl) rfl)⟩
theorem lL_27 : pm_LV RL 27 mX11_player := ⟨(gt_3 (List.mem_of_getElem? (i := 230) rfl) rfl), (gt_3 (List.mem_of_getElem? (i := 231) rfl) rfl), (gt_3 (List.mem_of_getElem? (i := 229) rfl) rfl)⟩
theorem lL_31 : pm_LV RL 31 mX12_player := ⟨(gt_7 (List.mem_of_getElem? (i := 39) rfl) rfl), (gt_7 (List.mem_of_getElem? (i := 40) rfl) rfl), (gt_7 (List.mem_of_getElem? (i := 38) rfl) rfl)⟩
theorem lL_32 : pm_LV RL 32 mX11_wants := ⟨(gt_4 (List.mem_of_getElem? (i := 3) rfl) rfl), (gt_4 (List.mem_of_getElem? (i := 4) rfl) rfl), (gt_4 (List.mem_of_getElem? (i := 2) rfl) rfl)⟩
theorem lL_35 : pm_LV RL 35 mX12_wants := ⟨(gt_7 (List.mem_of_getElem? (i := 48) rfl) rfl), (gt_7 (List.mem_of_getElem? (i := 49) rfl) rfl), (gt_7 (List.mem_of_getElem? (i := 47) rfl) rfl)⟩
theorem lL_36 : pm_LV RL 36 mX11_bars := ⟨(gt_4 (List.mem_of_getElem? (i := 16) rfl) rfl), (gt_4 (List.mem_of_getElem? (i := 17) rfl) rfl), (gt_4 (List.mem_of_getElem? (i := 15) rfl) rfl)⟩
theorem lL_39 : pm_LV RL 39 mX12_bars := ⟨(gt_7 (List.mem_of_getElem? (i := 60) rfl) rfl), (gt_7 (List.mem_of_getElem? (i := 61) rfl) rfl), (gt_7 (List.mem_of_getElem? (i := 59) rfl) rfl)⟩
theorem lL_40 : pm_LV RL 40 mX11_glad := ⟨(gt_4 (List.mem_of_getElem? (i := 25) rfl) rfl), (gt_4 (List.mem_of_getElem? (i := 26) rfl) rfl), (gt_4 (List.mem_of_getElem? (i := 24) rfl) rfl)⟩
theorem lL_43 : pm_LV RL 43 mX12_glad := ⟨(gt_7 (List.mem_of_getElem? (i := 64) rfl) rfl), (gt_7 (List.mem_of_getElem? (i := 65) rfl) rfl), (gt_7 (List.mem_of_getElem? (i := 63) rfl) rfl)⟩
theorem lL_44 : pm_LV RL 44 mX11_play := ⟨(gt_4 (List.mem_of_getElem? (i := 68) rfl) rfl), (gt_4 (List.mem_of_getElem? (i := 69) rfl) rfl), (gt_4 (List.mem_of_getElem? (i := 67) rfl) rfl)⟩
theorem lL_47 : pm_LV RL 47 mX12_play := ⟨(gt_7 (List.mem_of_getElem? (i := 90) rfl) rfl), (gt_7 (List.mem_of_getElem? (i := 91) rfl) rfl), (gt_7 (List.mem_of_getElem? (i := 89) rfl) rfl)⟩
theorem lL_48 : pm_LV RL 48 mX11_perform := ⟨(gt_4 (List.mem_of_getElem? (i := 121) rfl) rfl), (gt_4 (List.mem_of_getElem? (i := 122) rfl) rfl), (gt_4 (List.mem_of_getElem? (i := 120) rfl) rfl)⟩
theorem lL_51 : pm_LV RL 51 mX12_perform := ⟨(gt_7 (List.mem_of_getElem? (i := 149) rfl) rfl), (gt_7 (List.mem_of_getElem? (i := 150) rfl) rfl), (gt_7 (List.mem_of_getElem? (i := 148) rfl) rfl)⟩
theorem lL_52 : pm_LV RL 52 mX11_lend := ⟨(gt_4 (List.mem_of_getElem? (i := 166) rfl) rfl), (gt_4 (List.mem_of_getElem? (i := 167) rfl) rfl), (gt_4 (List.mem_of_getElem? (i := 165) rfl) rfl)⟩
theorem lL_56 : pm_LV RL 56 mX12_lend := ⟨(gt_7 (List.mem_of_getElem? (i := 185) rfl) rfl), (gt_7 (List.mem_of_getElem? (i := 186) rfl) rfl), (gt_7 (List.mem_of_getElem? (i := 184) rfl) rfl)⟩
theorem lL_57 : pm_LV RL 57 mX11_temper := ⟨(gt_4 (List.mem_of_getElem? (i := 174) rfl) rfl), (gt_4 (List.mem_of_getElem? (i := 175) rfl) rfl), (gt_4 (List.mem_of_getElem? (i := 173) rfl) rfl)⟩
theorem lL_60 : pm_LV RL 60 mX12_temper := ⟨(gt_7 (List.mem_of_getElem? (i := 198) rfl) rfl), (gt_7 (List.mem_of_getElem? (i := 199) rfl) rfl), (gt_7 (List.mem_of_getElem? (i := 197) rfl) rfl)⟩
theorem lL_61 : pm_LV RL 61 mX11_friday := ⟨(gt_4 (List.mem_of_getElem? (i := 182) rfl) rfl), (gt_4 (List.mem_of_getElem? (i := 183) rfl) rfl), (gt_4 (List.mem_of_getElem? (i := 181) rfl) rfl)⟩
theorem lL_65 : pm_LV RL 65 mX12_friday := ⟨(gt_7 (List.mem_of_getElem? (i := 204) rfl) rfl), (gt_7 (List.mem_of_getElem? (i := 205) rfl) rfl), (gt_7 (List.mem_of_getElem? (i := 203) rfl) rfl)⟩
theorem lL_66 : pm_LV RL 66 mX11_undo := ⟨(gt_4 (List.mem_of_getElem? (i := 190) rfl) rfl), (gt_4 (List.mem_of_getElem? (i := 191) rfl) rfl), (gt_4 (List.mem_of_getElem? (i := 189) rfl) rfl)⟩
theorem lL_69 : pm_LV RL 69 mX12_undo := ⟨(gt_7 (List.mem_of_getElem? (i := 212) rfl) rfl), (gt_7 (List.mem_of_getElem? (i := 213) rfl) rfl), (gt_7 (List.mem_of_getElem? (i := 211) rfl) rfl)⟩
theorem lL_70 : pm_LV RL 70 mX11_judge := ⟨(gt_4 (List.mem_of_getElem? (i := 198) rfl) rfl), (gt_4 (List.mem_of_getElem? (i := 199) rfl) rfl), (gt_4 (List.mem_of_getElem? (i := 197) rfl) rfl)⟩
theorem lL_73 : pm_LV RL 73 mX12_judge := ⟨(gt_7 (List.mem_of_getElem? (i := 217) rfl) rfl), (gt_7 (List.mem_of_getElem? (i := 218) rfl) rfl), (gt_7 (List.mem_of_getElem? (i := 216) rfl) rfl)⟩
theorem lL_74 : pm_LV RL 74 mX11_does := ⟨(gt_4 (List.mem_of_getElem? (i := 232) rfl) rfl), (gt_4 (List.mem_of_getElem? (i := 233) rfl) rfl), (gt_4 (List.mem_of_getElem? (i := 231) rfl) rfl)⟩
theorem lL_77 : pm_LV RL 77 mX12_does := ⟨(gt_8 (List.mem_of_getElem? (i := 13) rfl) rfl), (gt_8 (List.mem_of_getElem? (i := 14) rfl) rfl), (gt_8 (List.mem_of_getElem? (i := 12) rfl) rfl)⟩
theorem lL_78 : pm_LV RL 78 mX11_term := ⟨(gt_4 (List.mem_of_getElem? (i := 236) rfl) rfl), (gt_4 (List.mem_of_getElem? (i := 237) rfl) rfl), (gt_4 (List.mem_of_getElem? (i := 235) rfl) rfl)⟩
theorem lL_81 : pm_LV RL 81 mX12_term := ⟨(gt_8 (List.mem_of_getElem? (i := 17) rfl) rfl), (gt_8 (List.mem_of_getElem? (i := 18) rfl) rfl), (gt_8 (List.mem_of_getElem? (i := 16) rfl) rfl)⟩
theorem lL_82 : pm_LV RL 82 mX11_comes := ⟨(gt_5 (List.mem_of_getElem? (i := 14) rfl) rfl), (gt_5 (List.mem_of_getElem? (i := 15) rfl) rfl), (gt_5 (List.mem_of_getElem? (i := 13) rfl) rfl)⟩
theorem lL_85 : pm_LV RL 85 mX12_comes := ⟨(gt_8 (List.mem_of_getElem? (i := 30) rfl) rfl), (gt_8 (List.mem_of_getElem? (i := 31) rfl) rfl), (gt_8 (List.mem_of_getElem? (i := 29) rfl) rfl)⟩
theorem lL_86 : pm_LV RL 86 mX11_best := ⟨(gt_5 (List.mem_of_getElem? (i := 30) rfl) rfl), (gt_5 (List.mem_of_getElem? (i := 31) rfl) rfl), (gt_5 (List.mem_of_getElem? (i := 29) rfl) rfl)⟩
theorem lL_90 : pm_LV RL 90 mX12_best := ⟨(gt_8 (List.mem_of_getElem? (i := 46) rfl) rfl), (gt_8 (List.mem_of_getElem? (i := 47) rfl) rfl), (gt_8 (List.mem_of_getElem? (i := 45) rfl) rfl)⟩
theorem lL_91 : pm_LV RL 91 mX11_rows := ⟨(gt_5 (List.mem_of_getElem? (i := 48) rfl) rfl), (gt_5 (List.mem_of_getElem? (i := 49) rfl) rfl), (gt_5 (List.mem_of_getElem? (i := 47) rfl) rfl)⟩
theorem lL_95 : pm_LV RL 95 mX12_rows := ⟨(gt_8 (List.mem_of_getElem? (i := 55) rfl) rfl), (gt_8 (List.mem_of_getElem? (i := 56) rfl) rfl), (gt_8 (List.mem_of_getElem? (i := 54) rfl) rfl)⟩
theorem lL_96 : pm_LV RL 96 mX11_thriftiest := ⟨(gt_5 (List.mem_of_getElem? (i := 68) rfl) rfl), (gt_5 (List.mem_of_getElem? (i := 69) rfl) rfl), (gt_5 (List.mem_of_getElem? (i := 67) rfl) rfl)⟩
theorem lL_99 : pm_LV RL 99 mX12_thriftiest := ⟨(gt_8 (List.mem_of_getElem? (i := 80) rfl) rfl), (gt_8 (List.mem_of_getElem? (i := 81) rfl) rfl), (gt_8 (List.mem_of_getElem? (i := 79) rfl) rfl)⟩
theorem lL_100 : pm_LV RL 100 mX11_least := ⟨(gt_5 (List.mem_of_getElem? (i := 86) rfl) rfl), (gt_5 (List.mem_of_getElem? (i := 87) rfl) rfl), (gt_5 (List.mem_of_getElem? (i := 85) rfl) rfl)⟩
theorem lL_103 : pm_LV RL 103 mX12_least := ⟨(gt_8 (List.mem_of_getElem? (i := 84) rfl) rfl), (gt_8 (List.mem_of_getElem? (i := 85) rfl) rfl), (gt_8 (List.mem_of_getElem? (i := 83) rfl) rfl)⟩
theorem lL_104 : pm_LV RL 104 mX11_squarest := ⟨(gt_5 (List.mem_of_getElem? (i := 91) rfl) rfl), (gt_5 (List.mem_of_getElem? (i := 92) rfl) rfl), (gt_5 (List.mem_of_getElem? (i := 90) rfl) rfl)⟩
theorem lL_107 : pm_LV RL 107 mX12_squarest := ⟨(gt_8 (List.mem_of_getElem? (i := 88) rfl) rfl), (gt_8 (List.mem_of_getElem? (i := 89) rfl) rfl), (gt_8 (List.mem_of_getElem? (i := 87) rfl) rfl)⟩
theorem lL_108 : pm_LV RL 108 mX11_order := ⟨(gt_5 (List.mem_of_getElem? (i := 96) rfl) rfl), (gt_5 (List.mem_of_getElem? (i := 97) rfl) rfl), (gt_5 (List.mem_of_getElem? (i := 95) rfl) rfl)⟩
theorem lL_111 : pm_LV RL 111 mX12_order := ⟨(gt_8 (List.mem_of_getElem? (i := 92) rfl) rfl), (gt_8 (List.mem_of_getElem? (i := 93) rfl) rfl), (gt_8 (List.mem_of_getElem? (i := 91) rfl) rfl)⟩
theorem lL_112 : pm_LV RL 112 mX11_mostPieces := ⟨(gt_5 (List.mem_of_getElem? (i := 124) rfl) rfl), (gt_5 (List.mem_of_getElem? (i := 125) rfl) rfl), (gt_5 (List.mem_of_getElem? (i := 123) rfl) rfl)⟩
theorem lL_115 : pm_LV RL 115 mX12_mostPieces := ⟨(gt_8 (List.mem_of_getElem? (i := 125) rfl) rfl), (gt_8 (List.mem_of_getElem? (i := 126) rfl) rfl), (gt_8 (List.mem_of_getElem? (i := 124) rfl) rfl)⟩
theorem lL_116 : pm_LV RL 116 mX11_gladdest := ⟨(gt_5 (List.mem_of_getElem? (i := 143) rfl) rfl), (gt_5 (List.mem_of_getElem? (i := 144) rfl) rfl), (gt_5 (List.mem_of_getElem? (i := 142) rfl) rfl)⟩
theorem lL_119 : pm_LV RL 119 mX12_gladdest := ⟨(gt_8 (List.mem_of_getElem? (i := 132) rfl) rfl), (gt_8 (List.mem_of_getElem? (i := 133) rfl) rfl), (gt_8 (List.mem_of_getElem? (i := 131) rfl) rfl)⟩
theorem lL_120 : pm_LV RL 120 mX11_lends := ⟨(gt_5 (List.mem_of_getElem? (i := 147) rfl) rfl), (gt_5 (List.mem_of_getElem? (i := 148) rfl) rfl), (gt_5 (List.mem_of_getElem? (i := 146) rfl) rfl)⟩
theorem lL_123 : pm_LV RL 123 mX12_lends := ⟨(gt_8 (List.mem_of_getElem? (i := 136) rfl) rfl), (gt_8 (List.mem_of_getElem? (i := 137) rfl) rfl), (gt_8 (List.mem_of_getElem? (i := 135) rfl) rfl)⟩
theorem lL_124 : pm_LV RL 124 mX11_reply := ⟨(gt_5 (List.mem_of_getElem? (i := 151) rfl) rfl), (gt_5 (List.mem_of_getElem? (i := 152) rfl) rfl), (gt_5 (List.mem_of_getElem? (i := 150) rfl) rfl)⟩
theorem lL_127 : pm_LV RL 127 mX12_reply := ⟨(gt_8 (List.mem_of_getElem? (i := 140) rfl) rfl), (gt_8 (List.mem_of_getElem? (i := 141) rfl) rfl), (gt_8 (List.mem_of_getElem? (i := 139) rfl) rfl)⟩
theorem lL_128 : pm_LV RL 128 mX11_heard := ⟨(gt_5 (List.mem_of_getElem? (i := 156) rfl) rfl), (gt_5 (List.mem_of_getElem? (i := 157) rfl) rfl), (gt_5 (List.mem_of_getElem? (i := 155) rfl) rfl)⟩
theorem lL_132 : pm_LV RL 132 mX12_heard := ⟨(gt_8 (List.mem_of_getElem? (i := 144) rfl) rfl), (gt_8 (List.mem_of_getElem? (i := 145) rfl) rfl), (gt_8 (List.mem_of_getElem? (i := 143) rfl) rfl)⟩
theorem lL_133 : pm_LV RL 133 mX11_sure := ⟨(gt_5 (List.mem_of_getElem? (i := 168) rfl) rfl), (gt_5 (List.mem_of_getElem? (i := 169) rfl) rfl), (gt_5 (List.mem_of_getElem? (i := 167) rfl) rfl)⟩
theorem lL_136 : pm_LV RL 136 mX12_sure := ⟨(gt_8 (List.mem_of_getElem? (i := 160) rfl) rfl), (gt_8 (List.mem_of_getElem? (i := 161) rfl) rfl), (gt_8 (List.mem_of_getElem? (i := 159) rfl) rfl)⟩
theorem lL_137 : pm_LV RL 137 mX11_tempers := ⟨(gt_5 (List.mem_of_getElem? (i := 173) rfl) rfl), (gt_5 (List.mem_of_getElem? (i := 174) rfl) rfl), (gt_5 (List.mem_of_getElem? (i := 172) rfl) rfl)⟩
theorem lL_140 : pm_LV RL 140 mX12_tempers := ⟨(gt_8 (List.mem_of_getElem? (i := 165) rfl) rfl), (gt_8 (List.mem_of_getElem? (i := 166) rfl) rfl), (gt_8 (List.mem_of_getElem? (i := 164) rfl) rfl)⟩
theorem lL_141 : pm_LV RL 141 mX11_next := ⟨(gt_5 (List.mem_of_getElem? (i := 187) rfl) rfl), (gt_5 (List.mem_of_getElem? (i := 188) rfl) rfl), (gt_5 (List.mem_of_getElem? (i := 186) rfl) rfl)⟩
theorem lL_144 : pm_LV RL 144 mX12_next := ⟨(gt_8 (List.mem_of_getElem? (i := 173) rfl) rfl), (gt_8 (List.mem_of_getElem? (i := 174) rfl) rfl), (gt_8 (List.mem_of_getElem? (i := 172) rfl) rfl)⟩
theorem lL_145 : pm_LV RL 145 mX11_chance := ⟨(gt_5 (List.mem_of_getElem? (i := 195) rfl) rfl), (gt_5 (List.mem_of_getElem? (i := 196) rfl) rfl), (gt_5 (List.mem_of_getElem? (i := 194) rfl) rfl)⟩
theorem lL_148 : pm_LV RL 148 mX12_chance := ⟨(gt_8 (List.mem_of_getElem? (i := 181) rfl) rfl), (gt_8 (List.mem_of_getElem? (i := 182) rfl) rfl), (gt_8 (List.mem_of_getElem? (i := 180) rfl) rfl)⟩
theorem lL_149 : pm_LV RL 149 mX11_putBy := ⟨(gt_5 (List.mem_of_getElem? (i := 221) rfl) rfl), (gt_5 (List.mem_of_getElem? (i := 222) rfl) rfl), (gt_5 (List.mem_of_getElem? (i := 220) rfl) rfl)⟩
theorem lL_152 : pm_LV RL 152 mX12_putBy := ⟨(gt_8 (List.mem_of_getElem? (i := 199) rfl) rfl), (gt_8 (List.mem_of_getElem? (i := 200) rfl) rfl), (gt_8 (List.mem_of_getElem? (i := 198) rfl) rfl)⟩
theorem lL_153 : pm_LV RL 153 mX11_numbers := ⟨(gt_5 (List.mem_of_getElem? (i := 226) rfl) rfl), (gt_5 (List.mem_of_getElem? (i := 227) rfl) rfl), (gt_5 (List.mem_of_getElem? (i := 225) rfl) rfl)⟩
theorem lL_156 : pm_LV RL 156 mX12_numbers := ⟨(gt_8 (List.mem_of_getElem? (i := 203) rfl) rfl), (gt_8 (List.mem_of_getElem? (i := 204) rfl) rfl), (gt_8 (List.mem_of_getElem? (i := 202) rfl) rfl)⟩
theorem lL_159 : pm_LV RL 159 mX11_write := ⟨(gt_5 (List.mem_of_getElem? (i := 237) rfl) rfl), (gt_5 (List.mem_of_getElem? (i := 238) rfl) rfl), (gt_5 (List.mem_of_getElem? (i := 236) rfl) rfl)⟩
theorem lL_163 : pm_LV RL 163 mX12_write := ⟨(gt_8 (List.mem_of_getElem? (i := 207) rfl) rfl), (gt_8 (List.mem_of_getElem? (i := 208) rfl) rfl), (gt_8 (List.mem_of_getElem? (i := 206) rfl) rfl)⟩
theorem lL_164 : pm_LV RL 164 mX11_lists := ⟨(gt_6 (List.mem_of_getElem? (i := 11) rfl) rfl), (gt_6 (List.mem_of_getElem? (i := 12) rfl) rfl), (gt_6 (List.mem_of_getElem? (i := 10) rfl) rfl)⟩
theorem lL_167 : pm_LV RL 167 mX12_lists := ⟨(gt_8 (List.mem_of_getElem? (i := 215) rfl) rfl), (gt_8 (List.mem_of_getElem? (i := 216) rfl) rfl), (gt_8 (List.mem_of_getElem? (i := 214) rfl) rfl)⟩
theorem lL_168 : pm_LV RL 168 mX11_image := ⟨(gt_6 (List.mem_of_getElem? (i := 16) rfl) rfl), (gt_6 (List.mem_of_getElem? (i := 17) rfl) rfl), (gt_6 (List.mem_of_getElem? (i := 15) rfl) rfl)⟩
theorem lL_171 : pm_LV RL 171 mX12_image := ⟨(gt_8 (List.mem_of_getElem? (i := 219) rfl) rfl), (gt_8 (List.mem_of_getElem? (i := 220) rfl) rfl), (gt_8 (List.mem_of_getElem? (i := 218) rfl) rfl)⟩
theorem lL_172 : pm_LV RL 172 mX11_restore := ⟨(gt_6 (List.mem_of_getElem? (i := 20) rfl) rfl), (gt_6 (List.mem_of_getElem? (i := 21) rfl) rfl), (gt_6 (List.mem_of_getElem? (i := 19) rfl) rfl)⟩
theorem lL_175 : pm_LV RL 175 mX12_restore := ⟨(gt_8 (List.mem_of_getElem? (i := 223) rfl) rfl), (gt_8 (List.mem_of_getElem? (i := 224) rfl) rfl), (gt_8 (List.mem_of_getElem? (i := 222) rfl) rfl)⟩
theorem lL_176 : pm_LV RL 176 mX11_count := ⟨(gt_6 (List.mem_of_getElem? (i := 24) rfl) rfl), (gt_6 (List.mem_of_getElem? (i := 25) rfl) rfl), (gt_6 (List.mem_of_getElem? (i := 23) rfl) rfl)⟩
theorem lL_179 : pm_LV RL 179 mX12_count := ⟨(gt_8 (List.mem_of_getElem? (i := 227) rfl) rfl), (gt_8 (List.mem_of_getElem? (i := 228) rfl) rfl), (gt_8 (List.mem_of_getElem? (i := 226) rfl) rfl)⟩
theorem lX12_98 : pm_LV RX12 98 mJ0_length_8abf5 := ⟨(gt_3 (List.mem_of_getElem? (i := 52) rfl) rfl), (gt_3 (List.mem_of_getElem? (i := 53) rfl) rfl), (gt_6 (List.mem_of_getElem? (i := 189) rfl) rfl)⟩
theorem lX12_104 : pm_LV RX12 104 mJ0_charAt_5068e := ⟨(gt_3 (List.mem_of_getElem? (i := 62) rfl) rfl), (gt_3 (List.mem_of_getElem? (i := 63) rfl) rfl), (gt_6 (List.mem_of_getElem? (i := 190) rfl) rfl)⟩
theorem lX12_114 : pm_LV RX12 114 mX12_see := ⟨(gt_6 (List.mem_of_getElem? (i := 179) rfl) rfl), (gt_s (List.mem_of_getElem? (i := 46) rfl)), (gt_6 (List.mem_of_getElem? (i := 177) rfl) rfl)⟩
theorem lX12_125 : pm_LV RX12 125 mX12_keyAt := ⟨(gt_6 (List.mem_of_getElem? (i := 186) rfl) rfl), (gt_s (List.mem_of_getElem? (i := 47) rfl)), (gt_6 (List.mem_of_getElem? (i := 184) rfl) rfl)⟩
theorem lX12_142 : pm_LV RX12 142 mX12_is := ⟨(gt_6 (List.mem_of_getElem? (i := 201) rfl) rfl), (gt_s (List.mem_of_getElem? (i := 49) rfl)), (gt_6 (List.mem_of_getElem? (i := 199) rfl) rfl)⟩
theorem lX12_145 : pm_LV RX12 145 mX12_nextToken := ⟨(gt_6 (List.mem_of_getElem? (i := 175) rfl) rfl), (gt_s (List.mem_of_getElem? (i := 45) rfl)), (gt_6 (List.mem_of_getElem? (i := 173) rfl) rfl)⟩
theorem lX12_148 : pm_LV RX12 148 mX12_fails := ⟨(gt_6 (List.mem_of_getElem? (i := 205) rfl) rfl), (gt_s (List.mem_of_getElem? (i := 50) rfl)), (gt_6 (List.mem_of_getElem? (i := 203) rfl) rfl)⟩
theorem lX12_160 : pm_LV RX12 160 mX12_codes := ⟨(gt_7 (List.mem_of_getElem? (i := 9) rfl) rfl), (gt_s (List.mem_of_getElem? (i := 61) rfl)), (gt_7 (List.mem_of_getElem? (i := 7) rfl) rfl)⟩
theorem lX12_163 : pm_LV RX12 163 mX12_wordOf := ⟨(gt_7 (List.mem_of_getElem? (i := 13) rfl) rfl), (gt_s (List.mem_of_getElem? (i := 62) rfl)), (gt_7 (List.mem_of_getElem? (i := 11) rfl) rfl)⟩
theorem lX12_166 : pm_LV RX12 166 mX12_goesIn := ⟨(gt_7 (List.mem_of_getElem? (i := 19) rfl) rfl), (gt_s (List.mem_of_getElem? (i := 63) rfl)), (gt_7 (List.mem_of_getElem? (i := 17) rfl) rfl)⟩
theorem lX12_169 : pm_LV RX12 169 mX12_readSum := ⟨(gt_6 (List.mem_of_getElem? (i := 237) rfl) rfl), (gt_s (List.mem_of_getElem? (i := 58) rfl)), (gt_6 (List.mem_of_getElem? (i := 235) rfl) rfl)⟩
theorem lX12_172 : pm_LV RX12 172 mX12_eats := ⟨(gt_6 (List.mem_of_getElem? (i := 197) rfl) rfl), (gt_s (List.mem_of_getElem? (i := 48) rfl)), (gt_6 (List.mem_of_getElem? (i := 195) rfl) rfl)⟩
theorem lX12_175 : pm_LV RX12 175 mX12_readAtom := ⟨(gt_7 (List.mem_of_getElem? (i := 5) rfl) rfl), (gt_s (List.mem_of_getElem? (i := 60) rfl)), (gt_7 (List.mem_of_getElem? (i := 3) rfl) rfl)⟩
theorem lX12_178 : pm_LV RX12 178 mX12_readTerm := ⟨(gt_7 (List.mem_of_getElem? (i := 1) rfl) rfl), (gt_s (List.mem_of_getElem? (i := 59) rfl)), (gt_6 (List.mem_of_getElem? (i := 239) rfl) rfl)⟩
theorem lX12_181 : pm_LV RX12 181 mX12_readUnit := ⟨(gt_7 (List.mem_of_getElem? (i := 31) rfl) rfl), (gt_s (List.mem_of_getElem? (i := 66) rfl)), (gt_7 (List.mem_of_getElem? (i := 29) rfl) rfl)⟩
theorem lX12_184 : pm_LV RX12 184 mX12_readTruth := ⟨(gt_7 (List.mem_of_getElem? (i := 23) rfl) rfl), (gt_s (List.mem_of_getElem? (i := 64) rfl)), (gt_7 (List.mem_of_getElem? (i := 21) rfl) rfl)⟩
theorem lX12_187 : pm_LV RX12 187 mX12_readBoth := ⟨(gt_7 (List.mem_of_getElem? (i := 27) rfl) rfl), (gt_s (List.mem_of_getElem? (i := 65) rfl)), (gt_7 (List.mem_of_getElem? (i := 25) rfl) rfl)⟩
theorem lX12_190 : pm_LV RX12 190 mX12_takes := ⟨(gt_6 (List.mem_of_getElem? (i := 221) rfl) rfl), (gt_s (List.mem_of_getElem? (i := 54) rfl)), (gt_6 (List.mem_of_getElem? (i := 219) rfl) rfl)⟩
theorem lX12_194 : pm_LV RX12 194 mX12_readFlag := ⟨(gt_6 (List.mem_of_getElem? (i := 229) rfl) rfl), (gt_s (List.mem_of_getElem? (i := 56) rfl)), (gt_6 (List.mem_of_getElem? (i := 227) rfl) rfl)⟩
theorem lX12_197 : pm_LV RX12 197 mX12_readPiece := ⟨(gt_6 (List.mem_of_getElem? (i := 217) rfl) rfl), (gt_s (List.mem_of_getElem? (i := 53) rfl)), (gt_6 (List.mem_of_getElem? (i := 215) rfl) rfl)⟩
theorem lX12_200 : pm_LV RX12 200 mX12_readPlayer := ⟨(gt_6 (List.mem_of_getElem? (i := 225) rfl) rfl), (gt_s (List.mem_of_getElem? (i := 55) rfl)), (gt_6 (List.mem_of_getElem? (i := 223) rfl) rfl)⟩
theorem lX12_203 : pm_LV RX12 203 mX12_readLaw := ⟨(gt_6 (List.mem_of_getElem? (i := 233) rfl) rfl), (gt_s (List.mem_of_getElem? (i := 57) rfl)), (gt_6 (List.mem_of_getElem? (i := 231) rfl) rfl)⟩
theorem lX12_207 : pm_LV RX12 207 mX12_ends := ⟨(gt_6 (List.mem_of_getElem? (i := 209) rfl) rfl), (gt_s (List.mem_of_getElem? (i := 51) rfl)), (gt_6 (List.mem_of_getElem? (i := 207) rfl) rfl)⟩
theorem lX12_210 : pm_LV RX12 210 mX12_readLine := ⟨(gt_6 (List.mem_of_getElem? (i := 213) rfl) rfl), (gt_s (List.mem_of_getElem? (i := 52) rfl)), (gt_6 (List.mem_of_getElem? (i := 211) rfl) rfl)⟩
theorem lX12_233 : pm_LV RX12 233 mX12_asks := ⟨(gt_7 (List.mem_of_getElem? (i := 78) rfl) rfl), (gt_s (List.mem_of_getElem? (i := 71) rfl)), (gt_7 (List.mem_of_getElem? (i := 76) rfl) rfl)⟩
theorem lX12_237 : pm_LV RX12 237 mX12_reckons := ⟨(gt_7 (List.mem_of_getElem? (i := 82) rfl) rfl), (gt_s (List.mem_of_getElem? (i := 72) rfl)), (gt_7 (List.mem_of_getElem? (i := 80) rfl) rfl)⟩
theorem lX12_244 : pm_LV RX12 244 mX12_isPlayer := ⟨(gt_7 (List.mem_of_getElem? (i := 44) rfl) rfl), (gt_s (List.mem_of_getElem? (i := 67) rfl)), (gt_7 (List.mem_of_getElem? (i := 42) rfl) rfl)⟩
theorem lX12_248 : pm_LV RX12 248 mX12_isPiece := ⟨(gt_7 (List.mem_of_getElem? (i := 57) rfl) rfl), (gt_s (List.mem_of_getElem? (i := 69) rfl)), (gt_7 (List.mem_of_getElem? (i := 55) rfl) rfl)⟩
theorem lX12_251 : pm_LV RX12 251 mX12_isBar := ⟨(gt_7 (List.mem_of_getElem? (i := 53) rfl) rfl), (gt_s (List.mem_of_getElem? (i := 68) rfl)), (gt_7 (List.mem_of_getElem? (i := 51) rfl) rfl)⟩
theorem lX12_258 : pm_LV RX12 258 mX12_gladBy := ⟨(gt_7 (List.mem_of_getElem? (i := 74) rfl) rfl), (gt_s (List.mem_of_getElem? (i := 70) rfl)), (gt_7 (List.mem_of_getElem? (i := 72) rfl) rfl)⟩
theorem lX12_265 : pm_LV RX12 265 mX12_laysGlad := ⟨(gt_7 (List.mem_of_getElem? (i := 115) rfl) rfl), (gt_s (List.mem_of_getElem? (i := 77) rfl)), (gt_7 (List.mem_of_getElem? (i := 113) rfl) rfl)⟩
theorem lX12_269 : pm_LV RX12 269 mX12_mayDraw := ⟨(gt_7 (List.mem_of_getElem? (i := 122) rfl) rfl), (gt_s (List.mem_of_getElem? (i := 78) rfl)), (gt_7 (List.mem_of_getElem? (i := 120) rfl) rfl)⟩
theorem lX12_277 : pm_LV RX12 277 mX12_isKept := ⟨(gt_7 (List.mem_of_getElem? (i := 178) rfl) rfl), (gt_s (List.mem_of_getElem? (i := 89) rfl)), (gt_7 (List.mem_of_getElem? (i := 176) rfl) rfl)⟩
theorem lX12_280 : pm_LV RX12 280 mX12_gladAt := ⟨(gt_7 (List.mem_of_getElem? (i := 136) rfl) rfl), (gt_s (List.mem_of_getElem? (i := 80) rfl)), (gt_7 (List.mem_of_getElem? (i := 134) rfl) rfl)⟩
theorem lX12_284 : pm_LV RX12 284 mX12_mostBy := ⟨(gt_7 (List.mem_of_getElem? (i := 170) rfl) rfl), (gt_s (List.mem_of_getElem? (i := 87) rfl)), (gt_7 (List.mem_of_getElem? (i := 168) rfl) rfl)⟩
theorem lX12_287 : pm_LV RX12 287 mX12_goesBy := ⟨(gt_7 (List.mem_of_getElem? (i := 174) rfl) rfl), (gt_s (List.mem_of_getElem? (i := 88) rfl)), (gt_7 (List.mem_of_getElem? (i := 172) rfl) rfl)⟩
theorem lX12_296 : pm_LV RX12 296 mX12_keepsAny := ⟨(gt_7 (List.mem_of_getElem? (i := 162) rfl) rfl), (gt_s (List.mem_of_getElem? (i := 85) rfl)), (gt_7 (List.mem_of_getElem? (i := 160) rfl) rfl)⟩
theorem lX12_299 : pm_LV RX12 299 mX12_laysGlads := ⟨(gt_7 (List.mem_of_getElem? (i := 111) rfl) rfl), (gt_s (List.mem_of_getElem? (i := 76) rfl)), (gt_7 (List.mem_of_getElem? (i := 109) rfl) rfl)⟩
theorem lX12_303 : pm_LV RX12 303 mX12_laysToGo := ⟨(gt_7 (List.mem_of_getElem? (i := 166) rfl) rfl), (gt_s (List.mem_of_getElem? (i := 86) rfl)), (gt_7 (List.mem_of_getElem? (i := 164) rfl) rfl)⟩
theorem lX12_306 : pm_LV RX12 306 mX12_laysRow := ⟨(gt_7 (List.mem_of_getElem? (i := 182) rfl) rfl), (gt_s (List.mem_of_getElem? (i := 90) rfl)), (gt_7 (List.mem_of_getElem? (i := 180) rfl) rfl)⟩
theorem lX12_312 : pm_LV RX12 312 mX12_naturally := ⟨(gt_7 (List.mem_of_getElem? (i := 132) rfl) rfl), (gt_s (List.mem_of_getElem? (i := 79) rfl)), (gt_7 (List.mem_of_getElem? (i := 130) rfl) rfl)⟩
theorem lX12_319 : pm_LV RX12 319 mX12_whyPlay := ⟨(gt_7 (List.mem_of_getElem? (i := 95) rfl) rfl), (gt_s (List.mem_of_getElem? (i := 73) rfl)), (gt_7 (List.mem_of_getElem? (i := 93) rfl) rfl)⟩
theorem lX12_323 : pm_LV RX12 323 mX12_laysBest := ⟨(gt_7 (List.mem_of_getElem? (i := 158) rfl) rfl), (gt_s (List.mem_of_getElem? (i := 84) rfl)), (gt_7 (List.mem_of_getElem? (i := 156) rfl) rfl)⟩
theorem lX12_332 : pm_LV RX12 332 mX12_keeps := ⟨(gt_7 (List.mem_of_getElem? (i := 103) rfl) rfl), (gt_s (List.mem_of_getElem? (i := 74) rfl)), (gt_7 (List.mem_of_getElem? (i := 101) rfl) rfl)⟩
theorem lX12_335 : pm_LV RX12 335 mX12_laysComes := ⟨(gt_7 (List.mem_of_getElem? (i := 107) rfl) rfl), (gt_s (List.mem_of_getElem? (i := 75) rfl)), (gt_7 (List.mem_of_getElem? (i := 105) rfl) rfl)⟩
theorem lX12_338 : pm_LV RX12 338 mX12_plays := ⟨(gt_7 (List.mem_of_getElem? (i := 140) rfl) rfl), (gt_s (List.mem_of_getElem? (i := 81) rfl)), (gt_7 (List.mem_of_getElem? (i := 138) rfl) rfl)⟩
theorem lX12_341 : pm_LV RX12 341 mX12_notes := ⟨(gt_7 (List.mem_of_getElem? (i := 146) rfl) rfl), (gt_s (List.mem_of_getElem? (i := 82) rfl)), (gt_7 (List.mem_of_getElem? (i := 144) rfl) rfl)⟩
theorem lX12_344 : pm_LV RX12 344 mX12_whyBest := ⟨(gt_7 (List.mem_of_getElem? (i := 154) rfl) rfl), (gt_s (List.mem_of_getElem? (i := 83) rfl)), (gt_7 (List.mem_of_getElem? (i := 152) rfl) rfl)⟩
theorem lX12_347 : pm_LV RX12 347 mX12_whyLend := ⟨(gt_7 (List.mem_of_getElem? (i := 190) rfl) rfl), (gt_s (List.mem_of_getElem? (i := 91) rfl)), (gt_7 (List.mem_of_getElem? (i := 188) rfl) rfl)⟩
theorem lX12_351 : pm_LV RX12 351 mX12_lends1 := ⟨(gt_7 (List.mem_of_getElem? (i := 195) rfl) rfl), (gt_s (List.mem_of_getElem? (i := 92) rfl)), (gt_7 (List.mem_of_getElem? (i := 193) rfl) rfl)⟩
theorem lX12_358 : pm_LV RX12 358 mX12_goesFriday := ⟨(gt_7 (List.mem_of_getElem? (i := 209) rfl) rfl), (gt_s (List.mem_of_getElem? (i := 93) rfl)), (gt_7 (List.mem_of_getElem? (i := 207) rfl) rfl)⟩
theorem lX12_378 : pm_LV RX12 378 mX12_whyNot := ⟨(gt_7 (List.mem_of_getElem? (i := 232) rfl) rfl), (gt_s (List.mem_of_getElem? (i := 96) rfl)), (gt_7 (List.mem_of_getElem? (i := 230) rfl) rfl)⟩
theorem lX12_382 : pm_LV RX12 382 mX12_acts := ⟨(gt_8 (List.mem_of_getElem? (i := 2) rfl) rfl), (gt_s (List.mem_of_getElem? (i := 97) rfl)), (gt_8 (List.mem_of_getElem? (i := 0) rfl) rfl)⟩
theorem lX12_388 : pm_LV RX12 388 mX12_noTray := ⟨(gt_7 (List.mem_of_getElem? (i := 223) rfl) rfl), (gt_s (List.mem_of_getElem? (i := 94) rfl)), (gt_7 (List.mem_of_getElem? (i := 221) rfl) rfl)⟩
theorem lX12_391 : pm_LV RX12 391 mX12_tells := ⟨(gt_7 (List.mem_of_getElem? (i := 228) rfl) rfl), (gt_s (List.mem_of_getElem? (i := 95) rfl)), (gt_7 (List.mem_of_getElem? (i := 226) rfl) rfl)⟩
theorem lX12_394 : pm_LV RX12 394 mX12_sumOf := ⟨(gt_8 (List.mem_of_getElem? (i := 6) rfl) rfl), (gt_s (List.mem_of_getElem? (i := 98) rfl)), (gt_8 (List.mem_of_getElem? (i := 4) rfl) rfl)⟩
theorem lX12_397 : pm_LV RX12 397 mX12_isAgain := ⟨(gt_8 (List.mem_of_getElem? (i := 10) rfl) rfl), (gt_s (List.mem_of_getElem? (i := 99) rfl)), (gt_8 (List.mem_of_getElem? (i := 8) rfl) rfl)⟩
theorem lX12_404 : pm_LV RX12 404 mX12_draw := ⟨(gt_8 (List.mem_of_getElem? (i := 26) rfl) rfl), (gt_s (List.mem_of_getElem? (i := 101) rfl)), (gt_8 (List.mem_of_getElem? (i := 24) rfl) rfl)⟩
theorem lX12_407 : pm_LV RX12 407 mX12_goesDrawn := ⟨(gt_8 (List.mem_of_getElem? (i := 22) rfl) rfl), (gt_s (List.mem_of_getElem? (i := 100) rfl)), (gt_8 (List.mem_of_getElem? (i := 20) rfl) rfl)⟩
theorem lX12_413 : pm_LV RX12 413 mX12_areBoth := ⟨(gt_8 (List.mem_of_getElem? (i := 35) rfl) rfl), (gt_s (List.mem_of_getElem? (i := 102) rfl)), (gt_8 (List.mem_of_getElem? (i := 33) rfl) rfl)⟩
theorem lX12_419 : pm_LV RX12 419 mX12_rowAt := ⟨(gt_8 (List.mem_of_getElem? (i := 43) rfl) rfl), (gt_s (List.mem_of_getElem? (i := 103) rfl)), (gt_8 (List.mem_of_getElem? (i := 41) rfl) rfl)⟩
theorem lX12_423 : pm_LV RX12 423 mX12_tellsRow := ⟨(gt_8 (List.mem_of_getElem? (i := 51) rfl) rfl), (gt_s (List.mem_of_getElem? (i := 104) rfl)), (gt_8 (List.mem_of_getElem? (i := 49) rfl) rfl)⟩
theorem lX12_430 : pm_LV RX12 430 mX12_beginsMany := ⟨(gt_8 (List.mem_of_getElem? (i := 66) rfl) rfl), (gt_s (List.mem_of_getElem? (i := 106) rfl)), (gt_8 (List.mem_of_getElem? (i := 64) rfl) rfl)⟩
theorem lX12_433 : pm_LV RX12 433 mX12_isThen := ⟨(gt_8 (List.mem_of_getElem? (i := 73) rfl) rfl), (gt_s (List.mem_of_getElem? (i := 107) rfl)), (gt_8 (List.mem_of_getElem? (i := 71) rfl) rfl)⟩
theorem lX12_440 : pm_LV RX12 440 mX12_laysMany := ⟨(gt_8 (List.mem_of_getElem? (i := 62) rfl) rfl), (gt_s (List.mem_of_getElem? (i := 105) rfl)), (gt_8 (List.mem_of_getElem? (i := 60) rfl) rfl)⟩
theorem lX12_443 : pm_LV RX12 443 mX12_endsWith := ⟨(gt_8 (List.mem_of_getElem? (i := 77) rfl) rfl), (gt_s (List.mem_of_getElem? (i := 108) rfl)), (gt_8 (List.mem_of_getElem? (i := 75) rfl) rfl)⟩
theorem lX12_447 : pm_LV RX12 447 mX12_laysEnd := ⟨(gt_8 (List.mem_of_getElem? (i := 102) rfl) rfl), (gt_s (List.mem_of_getElem? (i := 110) rfl)), (gt_8 (List.mem_of_getElem? (i := 100) rfl) rfl)⟩
theorem lX12_450 : pm_LV RX12 450 mX12_throughBy := ⟨(gt_8 (List.mem_of_getElem? (i := 114) rfl) rfl), (gt_s (List.mem_of_getElem? (i := 113) rfl)), (gt_8 (List.mem_of_getElem? (i := 112) rfl) rfl)⟩
theorem lX12_453 : pm_LV RX12 453 mX12_orderBy := ⟨(gt_8 (List.mem_of_getElem? (i := 110) rfl) rfl), (gt_s (List.mem_of_getElem? (i := 112) rfl)), (gt_8 (List.mem_of_getElem? (i := 108) rfl) rfl)⟩
theorem lX12_456 : pm_LV RX12 456 mX12_goesPiece := ⟨(gt_8 (List.mem_of_getElem? (i := 122) rfl) rfl), (gt_s (List.mem_of_getElem? (i := 115) rfl)), (gt_8 (List.mem_of_getElem? (i := 120) rfl) rfl)⟩
theorem lX12_461 : pm_LV RX12 461 mX12_laysThrough := ⟨(gt_8 (List.mem_of_getElem? (i := 98) rfl) rfl), (gt_s (List.mem_of_getElem? (i := 109) rfl)), (gt_8 (List.mem_of_getElem? (i := 96) rfl) rfl)⟩
theorem lX12_464 : pm_LV RX12 464 mX12_laysOrders := ⟨(gt_8 (List.mem_of_getElem? (i := 106) rfl) rfl), (gt_s (List.mem_of_getElem? (i := 111) rfl)), (gt_8 (List.mem_of_getElem? (i := 104) rfl) rfl)⟩
theorem lX12_467 : pm_LV RX12 467 mX12_orderAt := ⟨(gt_8 (List.mem_of_getElem? (i := 118) rfl) rfl), (gt_s (List.mem_of_getElem? (i := 114) rfl)), (gt_8 (List.mem_of_getElem? (i := 116) rfl) rfl)⟩
theorem lX12_474 : pm_LV RX12 474 mX12_noHeard := ⟨(gt_8 (List.mem_of_getElem? (i := 149) rfl) rfl), (gt_s (List.mem_of_getElem? (i := 116) rfl)), (gt_8 (List.mem_of_getElem? (i := 147) rfl) rfl)⟩
theorem lX12_480 : pm_LV RX12 480 mX12_heardBy := ⟨(gt_8 (List.mem_of_getElem? (i := 157) rfl) rfl), (gt_s (List.mem_of_getElem? (i := 117) rfl)), (gt_8 (List.mem_of_getElem? (i := 155) rfl) rfl)⟩
theorem lX12_485 : pm_LV RX12 485 mX12_tempersOf := ⟨(gt_8 (List.mem_of_getElem? (i := 170) rfl) rfl), (gt_s (List.mem_of_getElem? (i := 118) rfl)), (gt_8 (List.mem_of_getElem? (i := 168) rfl) rfl)⟩
theorem lX12_488 : pm_LV RX12 488 mX12_mostOften := ⟨(gt_8 (List.mem_of_getElem? (i := 178) rfl) rfl), (gt_s (List.mem_of_getElem? (i := 119) rfl)), (gt_8 (List.mem_of_getElem? (i := 176) rfl) rfl)⟩
theorem lX12_495 : pm_LV RX12 495 mX12_slipsOn := ⟨(gt_8 (List.mem_of_getElem? (i := 190) rfl) rfl), (gt_s (List.mem_of_getElem? (i := 121) rfl)), (gt_8 (List.mem_of_getElem? (i := 188) rfl) rfl)⟩
theorem lX12_498 : pm_LV RX12 498 mX12_chanceFrom := ⟨(gt_8 (List.mem_of_getElem? (i := 186) rfl) rfl), (gt_s (List.mem_of_getElem? (i := 120) rfl)), (gt_8 (List.mem_of_getElem? (i := 184) rfl) rfl)⟩
theorem lX12_511 : pm_LV RX12 511 mX12_barsAll := ⟨(gt_8 (List.mem_of_getElem? (i := 232) rfl) rfl), (gt_s (List.mem_of_getElem? (i := 122) rfl)), (gt_8 (List.mem_of_getElem? (i := 230) rfl) rfl)⟩
theorem kX11_118 : Cond.constant RX11 118 (-99000005) ∈ GT := (gt_3 (List.mem_of_getElem? (i := 1) rfl) rfl)
theorem kX11_123 : Cond.constant RX11 123 (-99000003) ∈ GT := (gt_3 (List.mem_of_getElem? (i := 10) rfl) rfl)
theorem kX11_132 : Cond.constant RX11 132 (-99000030) ∈ GT := (gt_3 (List.mem_of_getElem? (i := 196) rfl) rfl)
theorem kX11_155 : Cond.constant RX11 155 (-99000002) ∈ GT := (gt_3 (List.mem_of_getElem? (i := 237) rfl) rfl)
theorem kX11_202 : Cond.constant RX11 202 (-99000010) ∈ GT := (gt_4 (List.mem_of_getElem? (i := 113) rfl) rfl)
theorem kX11_239 : Cond.constant RX11 239 (-99000006) ∈ GT := (gt_4 (List.mem_of_getElem? (i := 208) rfl) rfl)
theorem kX11_294 : Cond.constant RX11 294 (-99000001) ∈ GT := (gt_5 (List.mem_of_getElem? (i := 46) rfl) rfl)
theorem kX11_295 : Cond.constantLong RX11 295 (-99000002) ∈ GT := (gt_5 (List.mem_of_getElem? (i := 51) rfl) rfl)
theorem kX11_297 : Cond.constantLong RX11 297 (-99000003) ∈ GT := (gt_5 (List.mem_of_getElem? (i := 52) rfl) rfl)
theorem kX11_307 : Cond.constant RX11 307 (-2147483648) ∈ GT := (gt_5 (List.mem_of_getElem? (i := 75) rfl) rfl)
theorem kX11_349 : Cond.constant RX11 349 (-99000007) ∈ GT := (gt_5 (List.mem_of_getElem? (i := 171) rfl) rfl)
theorem kX11_368 : Cond.constantLong RX11 368 (100) ∈ GT := (gt_5 (List.mem_of_getElem? (i := 224) rfl) rfl)
theorem kX11_372 : Cond.constantLong RX11 372 (-99000006) ∈ GT := (gt_6 (List.mem_of_getElem? (i := 0) rfl) rfl)
theorem kX11_374 : Cond.constantLong RX11 374 (-99000007) ∈ GT := (gt_6 (List.mem_of_getElem? (i := 1) rfl) rfl)
theorem kX11_409 : Cond.constant RX11 409 (-99000004) ∈ GT := (gt_5 (List.mem_of_getElem? (i := 163) rfl) rfl)
theorem kX11_410 : Cond.constantLong RX11 410 (9) ∈ GT := (gt_5 (List.mem_of_getElem? (i := 164) rfl) rfl)
theorem kX11_412 : Cond.constantLong RX11 412 (-2) ∈ GT := (gt_5 (List.mem_of_getElem? (i := 165) rfl) rfl)
theorem kX11_414 : Cond.constantLong RX11 414 (2) ∈ GT := (gt_5 (List.mem_of_getElem? (i := 166) rfl) rfl)
theorem kX0_107 : Cond.constant RX0 107 (-2147483648) ∈ GT := (gt_4 (List.mem_of_getElem? (i := 96) rfl) rfl)
theorem kX0_108 : Cond.constantLong RX0 108 (4294967295) ∈ GT := (gt_4 (List.mem_of_getElem? (i := 101) rfl) rfl)
theorem kX1_62 : Cond.constantLong RX1 62 (10) ∈ GT := (gt_5 (List.mem_of_getElem? (i := 216) rfl) rfl)
theorem kX1_90 : Cond.constant RX1 90 (-2147483648) ∈ GT := (gt_5 (List.mem_of_getElem? (i := 210) rfl) rfl)
theorem kX2_99 : Cond.constantLong RX2 99 (-1) ∈ GT := (gt_4 (List.mem_of_getElem? (i := 217) rfl) rfl)
theorem kX2_105 : Cond.constantLong RX2 105 (9999) ∈ GT := (gt_4 (List.mem_of_getElem? (i := 219) rfl) rfl)
theorem kX2_117 : Cond.constant RX2 117 (1103515245) ∈ GT := (gt_5 (List.mem_of_getElem? (i := 11) rfl) rfl)
theorem kX4_28 : Cond.constantLong RX4 28 (1000000) ∈ GT := (gt_4 (List.mem_of_getElem? (i := 63) rfl) rfl)
theorem kX4_30 : Cond.constant RX4 30 (1000000) ∈ GT := (gt_4 (List.mem_of_getElem? (i := 64) rfl) rfl)
theorem kX4_31 : Cond.constantLong RX4 31 (-1000000) ∈ GT := (gt_4 (List.mem_of_getElem? (i := 65) rfl) rfl)
theorem kX4_33 : Cond.constant RX4 33 (-1000000) ∈ GT := (gt_4 (List.mem_of_getElem? (i := 66) rfl) rfl)
theorem kX5_9 : Cond.constant RX5 9 (-2147483648) ∈ GT := (gt_2 (List.mem_of_getElem? (i := 127) rfl) rfl)
theorem kX8_44 : Cond.constant RX8 44 (-9999999) ∈ GT := (gt_4 (List.mem_of_getElem? (i := 107) rfl) rfl)
theorem kX8_45 : Cond.constant RX8 45 (9999999) ∈ GT := (gt_4 (List.mem_of_getElem? (i := 108) rfl) rfl)
theorem kX10_70 : Cond.constant RX10 70 (-2147483648) ∈ GT := (gt_4 (List.mem_of_getElem? (i := 136) rfl) rfl)
theorem kL_157 : Cond.constantLong RL 157 (4294967295) ∈ GT := (gt_8 (List.mem_of_getElem? (i := 234) rfl) rfl)
theorem kX12_92 : Cond.constant RX12 92 (-99000005) ∈ GT := (gt_6 (List.mem_of_getElem? (i := 164) rfl) rfl)
theorem kX12_156 : Cond.constantLong RX12 156 (12) ∈ GT := (gt_7 (List.mem_of_getElem? (i := 15) rfl) rfl)
theorem kX12_158 : Cond.constantLong RX12 158 (16) ∈ GT := (gt_7 (List.mem_of_getElem? (i := 16) rfl) rfl)
theorem kX12_206 : Cond.constant RX12 206 (-99000003) ∈ GT := (gt_6 (List.mem_of_getElem? (i := 172) rfl) rfl)
theorem kX12_216 : Cond.constant RX12 216 (-99000030) ∈ GT := (gt_7 (List.mem_of_getElem? (i := 33) rfl) rfl)
theorem kX12_217 : Cond.constantLong RX12 217 (-20) ∈ GT := (gt_7 (List.mem_of_getElem? (i := 127) rfl) rfl)
theorem kX12_219 : Cond.constantLong RX12 219 (20) ∈ GT := (gt_7 (List.mem_of_getElem? (i := 128) rfl) rfl)
theorem kX12_221 : Cond.constantLong RX12 221 (-2) ∈ GT := (gt_7 (List.mem_of_getElem? (i := 70) rfl) rfl)
theorem kX12_223 : Cond.constantLong RX12 223 (2) ∈ GT := (gt_7 (List.mem_of_getElem? (i := 71) rfl) rfl)
theorem kX12_225 : Cond.constantLong RX12 225 (1000000) ∈ GT := (gt_7 (List.mem_of_getElem? (i := 87) rfl) rfl)
theorem kX12_227 : Cond.constantLong RX12 227 (-1000000) ∈ GT := (gt_7 (List.mem_of_getElem? (i := 88) rfl) rfl)
theorem kX12_247 : Cond.constant RX12 247 (-99000002) ∈ GT := (gt_7 (List.mem_of_getElem? (i := 46) rfl) rfl)
theorem kX12_273 : Cond.constant RX12 273 (-268435456) ∈ GT := (gt_7 (List.mem_of_getElem? (i := 129) rfl) rfl)
theorem kX12_327 : Cond.constantLong RX12 327 (40) ∈ GT := (gt_7 (List.mem_of_getElem? (i := 192) rfl) rfl)
theorem kX12_329 : Cond.constant RX12 329 (9999999) ∈ GT := (gt_7 (List.mem_of_getElem? (i := 142) rfl) rfl)
theorem kX12_330 : Cond.constant RX12 330 (-9999999) ∈ GT := (gt_7 (List.mem_of_getElem? (i := 143) rfl) rfl)
theorem kX12_331 : Cond.constant RX12 331 (-99000010) ∈ GT := (gt_7 (List.mem_of_getElem? (i := 100) rfl) rfl)
theorem kX12_355 : Cond.constantLong RX12 355 (9) ∈ GT := (gt_7 (List.mem_of_getElem? (i := 201) rfl) rfl)
theorem kX12_357 : Cond.constant RX12 357 (-99000011) ∈ GT := (gt_7 (List.mem_of_getElem? (i := 202) rfl) rfl)
theorem kX12_361 : Cond.constantLong RX12 361 (10) ∈ GT := (gt_7 (List.mem_of_getElem? (i := 215) rfl) rfl)
theorem kX12_363 : Cond.constantLong RX12 363 (-1) ∈ GT := (gt_7 (List.mem_of_getElem? (i := 234) rfl) rfl)
theorem kX12_365 : Cond.constantLong RX12 365 (99) ∈ GT := (gt_7 (List.mem_of_getElem? (i := 235) rfl) rfl)
theorem kX12_367 : Cond.constantLong RX12 367 (100) ∈ GT := (gt_7 (List.mem_of_getElem? (i := 236) rfl) rfl)
theorem kX12_369 : Cond.constantLong RX12 369 (199) ∈ GT := (gt_7 (List.mem_of_getElem? (i := 237) rfl) rfl)
theorem kX12_371 : Cond.constantLong RX12 371 (1000) ∈ GT := (gt_7 (List.mem_of_getElem? (i := 238) rfl) rfl)
theorem kX12_373 : Cond.constantLong RX12 373 (9999) ∈ GT := (gt_7 (List.mem_of_getElem? (i := 239) rfl) rfl)
theorem kX12_385 : Cond.constantLong RX12 385 (3) ∈ GT := (gt_7 (List.mem_of_getElem? (i := 220) rfl) rfl)
theorem kX12_387 : Cond.constant RX12 387 (-99000006) ∈ GT := (gt_7 (List.mem_of_getElem? (i := 225) rfl) rfl)
theorem kX12_400 : Cond.constant RX12 400 (1103515245) ∈ GT := (gt_8 (List.mem_of_getElem? (i := 28) rfl) rfl)
theorem kX12_411 : Cond.constantLong RX12 411 (21) ∈ GT := (gt_8 (List.mem_of_getElem? (i := 40) rfl) rfl)
theorem kX12_422 : Cond.constant RX12 422 (-99000001) ∈ GT := (gt_8 (List.mem_of_getElem? (i := 53) rfl) rfl)
theorem kX12_436 : Cond.constantLong RX12 436 (-99000002) ∈ GT := (gt_8 (List.mem_of_getElem? (i := 58) rfl) rfl)
theorem kX12_438 : Cond.constantLong RX12 438 (-99000003) ∈ GT := (gt_8 (List.mem_of_getElem? (i := 59) rfl) rfl)
theorem kX12_459 : Cond.constantLong RX12 459 (13) ∈ GT := (gt_8 (List.mem_of_getElem? (i := 95) rfl) rfl)
theorem kX12_473 : Cond.constant RX12 473 (-99000004) ∈ GT := (gt_8 (List.mem_of_getElem? (i := 151) rfl) rfl)
theorem kX12_484 : Cond.constant RX12 484 (-99000007) ∈ GT := (gt_8 (List.mem_of_getElem? (i := 163) rfl) rfl)
theorem kX12_505 : Cond.constantLong RX12 505 (-99000007) ∈ GT := (gt_8 (List.mem_of_getElem? (i := 210) rfl) rfl)
theorem gt_oi1 : Cond.instanceMethod objectInit ∈ GT := (gt_1 (List.mem_of_getElem? (i := 28) rfl) rfl)
theorem gt_oi2 : Cond.code objectInit ⟨#[0xb1]⟩ 1 none ∈ GT := (gt_1 (List.mem_of_getElem? (i := 29) rfl) rfl)
theorem nX11_19 : pm_NW RX11 19 6 [.int 0, .int 0, .null, .null, .null, .int 0, .int 0, .null, .int 0, .null, .null] := ⟨RX6, TX6, 11, tyX6, rfl, uw6, tyX6_ok, (gt_1 (List.mem_of_getElem? (i := 30) rfl) rfl), (gt_1 (List.mem_of_getElem? (i := 31) rfl) rfl), (gt_1 (List.mem_of_getElem? (i := 2) rfl) rfl), rfl, fun j hj => ⟨by have h9 : ∀ j, j < 11 → ([.int 0, .int 0, .null, .null, .null, .int 0, .int 0, .null, .int 0, .null, .null] : List Value)[j]? = some (defaultValue (tyX6 j)) := (by decide +kernel); exact h9 j hj, by have h9 : ∀ j, j < 11 → (match defaultValue (tyX6 j) with | .ref _ => false | _ => true) = true := (by decide +kernel); intro a e; have h8 := h9 j hj; rw [e] at h8; cases h8⟩⟩
theorem nX11_26 : pm_NW RX11 26 7 [.null, .null, .null, .null, .null, .null, .int 0, .int 0, .int 0, .int 0] := ⟨RX7, TX7, 10, tyX7, rfl, uw7, tyX7_ok, (gt_1 (List.mem_of_getElem? (i := 74) rfl) rfl), (gt_1 (List.mem_of_getElem? (i := 148) rfl) rfl), (gt_1 (List.mem_of_getElem? (i := 6) rfl) rfl), rfl, fun j hj => ⟨by have h9 : ∀ j, j < 10 → ([.null, .null, .null, .null, .null, .null, .int 0, .int 0, .int 0, .int 0] : List Value)[j]? = some (defaultValue (tyX7 j)) := (by decide +kernel); exact h9 j hj, by have h9 : ∀ j, j < 10 → (match defaultValue (tyX7 j) with | .ref _ => false | _ => true) = true := (by decide +kernel); intro a e; have h8 := h9 j hj; rw [e] at h8; cases h8⟩⟩
theorem nX11_32 : pm_NW RX11 32 8 [.null, .null, .null, .int 0, .int 0] := ⟨RX8, TX8, 5, tyX8, rfl, uw8, tyX8_ok, (gt_1 (List.mem_of_getElem? (i := 76) rfl) rfl), (gt_1 (List.mem_of_getElem? (i := 77) rfl) rfl), (gt_1 (List.mem_of_getElem? (i := 3) rfl) rfl), rfl, fun j hj => ⟨by have h9 : ∀ j, j < 5 → ([.null, .null, .null, .int 0, .int 0] : List Value)[j]? = some (defaultValue (tyX8 j)) := (by decide +kernel); exact h9 j hj, by have h9 : ∀ j, j < 5 → (match defaultValue (tyX8 j) with | .ref _ => false | _ => true) = true := (by decide +kernel); intro a e; have h8 := h9 j hj; rw [e] at h8; cases h8⟩⟩
theorem nX11_42 : pm_NW RX11 42 3 [.int 0, .null, .int 0] := ⟨RX3, TX3, 3, tyX3, rfl, uw3, tyX3_ok, (gt_1 (List.mem_of_getElem? (i := 109) rfl) rfl), (gt_1 (List.mem_of_getElem? (i := 110) rfl) rfl), (gt_1 (List.mem_of_getElem? (i := 4) rfl) rfl), rfl, fun j hj => ⟨by have h9 : ∀ j, j < 3 → ([.int 0, .null, .int 0] : List Value)[j]? = some (defaultValue (tyX3 j)) := (by decide +kernel); exact h9 j hj, by have h9 : ∀ j, j < 3 → (match defaultValue (tyX3 j) with | .ref _ => false | _ => true) = true := (by decide +kernel); intro a e; have h8 := h9 j hj; rw [e] at h8; cases h8⟩⟩
theorem nX11_56 : pm_NW RX11 56 9 [.int 0, .int 0, .null] := ⟨RX9, TX9, 3, tyX9, rfl, uw9, tyX9_ok, (gt_1 (List.mem_of_getElem? (i := 129) rfl) rfl), (gt_1 (List.mem_of_getElem? (i := 131) rfl) rfl), (gt_1 (List.mem_of_getElem? (i := 5) rfl) rfl), rfl, fun j hj => ⟨by have h9 : ∀ j, j < 3 → ([.int 0, .int 0, .null] : List Value)[j]? = some (defaultValue (tyX9 j)) := (by decide +kernel); exact h9 j hj, by have h9 : ∀ j, j < 3 → (match defaultValue (tyX9 j) with | .ref _ => false | _ => true) = true := (by decide +kernel); intro a e; have h8 := h9 j hj; rw [e] at h8; cases h8⟩⟩
theorem nX11_75 : pm_NW RX11 75 0 [.int 0, .int 0, .null, .int 0, .int 0, .int 0, .int 0, .null, .null, .null, .null, .null, .int 0, .null, .int 0] := ⟨RX0, TX0, 15, tyX0, rfl, uw0, tyX0_ok, (gt_1 (List.mem_of_getElem? (i := 219) rfl) rfl), (gt_1 (List.mem_of_getElem? (i := 220) rfl) rfl), (gt_1 (List.mem_of_getElem? (i := 8) rfl) rfl), rfl, fun j hj => ⟨by have h9 : ∀ j, j < 15 → ([.int 0, .int 0, .null, .int 0, .int 0, .int 0, .int 0, .null, .null, .null, .null, .null, .int 0, .null, .int 0] : List Value)[j]? = some (defaultValue (tyX0 j)) := (by decide +kernel); exact h9 j hj, by have h9 : ∀ j, j < 15 → (match defaultValue (tyX0 j) with | .ref _ => false | _ => true) = true := (by decide +kernel); intro a e; have h8 := h9 j hj; rw [e] at h8; cases h8⟩⟩
theorem nX11_84 : pm_NW RX11 84 1 [.int 0, .int 0, .int 0, .null, .null, .null, .null] := ⟨RX1, TX1, 7, tyX1, rfl, uw1, tyX1_ok, (gt_2 (List.mem_of_getElem? (i := 41) rfl) rfl), (gt_2 (List.mem_of_getElem? (i := 42) rfl) rfl), (gt_1 (List.mem_of_getElem? (i := 10) rfl) rfl), rfl, fun j hj => ⟨by have h9 : ∀ j, j < 7 → ([.int 0, .int 0, .int 0, .null, .null, .null, .null] : List Value)[j]? = some (defaultValue (tyX1 j)) := (by decide +kernel); exact h9 j hj, by have h9 : ∀ j, j < 7 → (match defaultValue (tyX1 j) with | .ref _ => false | _ => true) = true := (by decide +kernel); intro a e; have h8 := h9 j hj; rw [e] at h8; cases h8⟩⟩
theorem nX11_93 : pm_NW RX11 93 10 [.null, .null, .int 0, .int 0, .null, .null, .null, .null, .null, .null, .null] := ⟨RX10, TX10, 11, tyX10, rfl, uw10, tyX10_ok, (gt_2 (List.mem_of_getElem? (i := 74) rfl) rfl), (gt_2 (List.mem_of_getElem? (i := 75) rfl) rfl), (gt_1 (List.mem_of_getElem? (i := 11) rfl) rfl), rfl, fun j hj => ⟨by have h9 : ∀ j, j < 11 → ([.null, .null, .int 0, .int 0, .null, .null, .null, .null, .null, .null, .null] : List Value)[j]? = some (defaultValue (tyX10 j)) := (by decide +kernel); exact h9 j hj, by have h9 : ∀ j, j < 11 → (match defaultValue (tyX10 j) with | .ref _ => false | _ => true) = true := (by decide +kernel); intro a e; have h8 := h9 j hj; rw [e] at h8; cases h8⟩⟩
theorem nX11_100 : pm_NW RX11 100 5 [.int 0, .null, .null, .null, .null, .null, .null, .int 0, .int 0] := ⟨RX5, TX5, 9, tyX5, rfl, uw5, tyX5_ok, (gt_2 (List.mem_of_getElem? (i := 121) rfl) rfl), (gt_2 (List.mem_of_getElem? (i := 122) rfl) rfl), (gt_1 (List.mem_of_getElem? (i := 12) rfl) rfl), rfl, fun j hj => ⟨by have h9 : ∀ j, j < 9 → ([.int 0, .null, .null, .null, .null, .null, .null, .int 0, .int 0] : List Value)[j]? = some (defaultValue (tyX5 j)) := (by decide +kernel); exact h9 j hj, by have h9 : ∀ j, j < 9 → (match defaultValue (tyX5 j) with | .ref _ => false | _ => true) = true := (by decide +kernel); intro a e; have h8 := h9 j hj; rw [e] at h8; cases h8⟩⟩
theorem nX11_109 : pm_NW RX11 109 2 [.int 0, .null, .null, .null, .int 0] := ⟨RX2, TX2, 5, tyX2, rfl, uw2, tyX2_ok, (gt_2 (List.mem_of_getElem? (i := 159) rfl) rfl), (gt_2 (List.mem_of_getElem? (i := 160) rfl) rfl), (gt_1 (List.mem_of_getElem? (i := 13) rfl) rfl), rfl, fun j hj => ⟨by have h9 : ∀ j, j < 5 → ([.int 0, .null, .null, .null, .int 0] : List Value)[j]? = some (defaultValue (tyX2 j)) := (by decide +kernel); exact h9 j hj, by have h9 : ∀ j, j < 5 → (match defaultValue (tyX2 j) with | .ref _ => false | _ => true) = true := (by decide +kernel); intro a e; have h8 := h9 j hj; rw [e] at h8; cases h8⟩⟩
theorem nX3_15 : pm_NW RX3 15 8 [.null, .null, .null, .int 0, .int 0] := ⟨RX8, TX8, 5, tyX8, rfl, uw8, tyX8_ok, (gt_1 (List.mem_of_getElem? (i := 115) rfl) rfl), (gt_1 (List.mem_of_getElem? (i := 77) rfl) rfl), (gt_1 (List.mem_of_getElem? (i := 3) rfl) rfl), rfl, fun j hj => ⟨by have h9 : ∀ j, j < 5 → ([.null, .null, .null, .int 0, .int 0] : List Value)[j]? = some (defaultValue (tyX8 j)) := (by decide +kernel); exact h9 j hj, by have h9 : ∀ j, j < 5 → (match defaultValue (tyX8 j) with | .ref _ => false | _ => true) = true := (by decide +kernel); intro a e; have h8 := h9 j hj; rw [e] at h8; cases h8⟩⟩
theorem nX7_24 : pm_NW RX7 24 4 [.null, .int 0, .int 0] := ⟨RX4, TX4, 3, tyX4, rfl, uw4, tyX4_ok, (gt_1 (List.mem_of_getElem? (i := 153) rfl) rfl), (gt_1 (List.mem_of_getElem? (i := 154) rfl) rfl), (gt_1 (List.mem_of_getElem? (i := 7) rfl) rfl), rfl, fun j hj => ⟨by have h9 : ∀ j, j < 3 → ([.null, .int 0, .int 0] : List Value)[j]? = some (defaultValue (tyX4 j)) := (by decide +kernel); exact h9 j hj, by have h9 : ∀ j, j < 3 → (match defaultValue (tyX4 j) with | .ref _ => false | _ => true) = true := (by decide +kernel); intro a e; have h8 := h9 j hj; rw [e] at h8; cases h8⟩⟩
theorem nL_7 : pm_NW RL 7 11 [.null, .int 0, .null, .null, .null, .null, .null, .null, .null, .null, .null, .null, .null, .null, .null, .null, .null, .null] := ⟨RX11, TX11, 18, tyX11, rfl, uw11, tyX11_ok, (gt_1 (List.mem_of_getElem? (i := 22) rfl) rfl), (gt_1 (List.mem_of_getElem? (i := 23) rfl) rfl), (gt_1 (List.mem_of_getElem? (i := 1) rfl) rfl), rfl, fun j hj => ⟨by have h9 : ∀ j, j < 18 → ([.null, .int 0, .null, .null, .null, .null, .null, .null, .null, .null, .null, .null, .null, .null, .null, .null, .null, .null] : List Value)[j]? = some (defaultValue (tyX11 j)) := (by decide +kernel); exact h9 j hj, by have h9 : ∀ j, j < 18 → (match defaultValue (tyX11 j) with | .ref _ => false | _ => true) = true := (by decide +kernel); intro a e; have h8 := h9 j hj; rw [e] at h8; cases h8⟩⟩
theorem nL_10 : pm_NW RL 10 12 [.int 0, .null, .null, .null, .null, .int 0, .int 0, .int 0, .int 0, .int 0, .int 0, .int 0, .int 0, .int 0, .int 0, .null, .null, .null, .null, .null, .int 0, .int 0, .int 0, .null, .int 0, .null, .int 0, .int 0, .null, .null, .null, .null, .null, .null, .null, .null, .null, .null, .null] := ⟨RX12, TX12, 39, tyX12, rfl, uw12, tyX12_ok, (gt_6 (List.mem_of_getElem? (i := 32) rfl) rfl), (gt_6 (List.mem_of_getElem? (i := 33) rfl) rfl), (gt_1 (List.mem_of_getElem? (i := 14) rfl) rfl), rfl, fun j hj => ⟨by have h9 : ∀ j, j < 39 → ([.int 0, .null, .null, .null, .null, .int 0, .int 0, .int 0, .int 0, .int 0, .int 0, .int 0, .int 0, .int 0, .int 0, .null, .null, .null, .null, .null, .int 0, .int 0, .int 0, .null, .int 0, .null, .int 0, .int 0, .null, .null, .null, .null, .null, .null, .null, .null, .null, .null, .null] : List Value)[j]? = some (defaultValue (tyX12 j)) := (by decide +kernel); exact h9 j hj, by have h9 : ∀ j, j < 39 → (match defaultValue (tyX12 j) with | .ref _ => false | _ => true) = true := (by decide +kernel); intro a e; have h8 := h9 j hj; rw [e] at h8; cases h8⟩⟩

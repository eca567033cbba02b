theorem dp_m (i : Nat) {w : Cond} (h : tables_1[i]? = some w) (hg : goodWord w = true) : w ∈ dp_tb := List.mem_filter.mpr ⟨List.mem_append_right _ (List.mem_of_getElem? h), hg⟩
theorem dp_n (i : Nat) {w : Cond} (h : tables_1[i]? = some w) (hg : dp_isN w = true) : w ∈ dp_nb := List.mem_filter.mpr ⟨List.mem_append_right _ (List.mem_of_getElem? h), hg⟩
theorem dp_s (i : Nat) {w : Cond} (h : (k2_sels lw_privs)[i]? = some w) (hg : goodWord w = true) : w ∈ dp_tb := List.mem_filter.mpr ⟨List.mem_append_left _ (List.mem_of_getElem? h), hg⟩
abbrev M_X11_init : ev_M := (yX11_init, cX11_init, 2, none)
abbrev M_X8_init : ev_M := (yX8_init, cX8_init, 1, none)
abbrev M_X4_init : ev_M := (yX4_init, cX4_init, 1, none)
abbrev M_X7_init : ev_M := (yX7_init, cX7_init, 1, none)
abbrev M_X10_init : ev_M := (yX10_init, cX10_init, 1, none)
abbrev M_X10_fill : ev_M := (yX10_fill, cX10_fill, 1, none)
abbrev M_X10_wipe : ev_M := (yX10_wipe, cX10_wipe, 2, none)
abbrev M_X10_turn : ev_M := (yX10_turn, cX10_turn, 2, none)
abbrev M_X0_init : ev_M := (yX0_init, cX0_init, 2, none)
abbrev M_X9_init : ev_M := (yX9_init, cX9_init, 1, none)
abbrev M_X6_init : ev_M := (yX6_init, cX6_init, 1, none)
abbrev M_X2_init : ev_M := (yX2_init, cX2_init, 1, none)
abbrev M_X5_init : ev_M := (yX5_init, cX5_init, 1, none)
abbrev M_X1_init : ev_M := (yX1_init, cX1_init, 1, none)
abbrev M_X3_init : ev_M := (yX3_init, cX3_init, 2, none)
abbrev M_X11_type : ev_M := (yX11_type, cX11_type, 4, (some .int))
abbrev M_X8_append : ev_M := (yX8_append, cX8_append, 5, (some .boolean))
abbrev M_X8_size : ev_M := (yX8_size, cX8_size, 1, (some .int))
abbrev M_X11_clear : ev_M := (yX11_clear, cX11_clear, 2, (some .int))
abbrev M_X8_wipe : ev_M := (yX8_wipe, cX8_wipe, 1, none)
abbrev M_X11_clauses : ev_M := (yX11_clauses, cX11_clauses, 2, (some .int))
abbrev M_X4_readClauses : ev_M := (yX4_readClauses, cX4_readClauses, 3, (some .int))
abbrev M_X8_readFirst : ev_M := (yX8_readFirst, cX8_readFirst, 1, none)
abbrev M_X8_readNext : ev_M := (yX8_readNext, cX8_readNext, 2, none)
abbrev M_X8_skipBlanks : ev_M := (yX8_skipBlanks, cX8_skipBlanks, 1, none)
abbrev M_X8_byteAt : ev_M := (yX8_byteAt, cX8_byteAt, 2, (some .int))
abbrev M_X8_isWordSign : ev_M := (yX8_isWordSign, cX8_isWordSign, 1, (some .boolean))
abbrev M_X8_readWord : ev_M := (yX8_readWord, cX8_readWord, 3, none)
abbrev M_X8_isDigit : ev_M := (yX8_isDigit, cX8_isDigit, 1, (some .boolean))
abbrev M_X8_readNumber : ev_M := (yX8_readNumber, cX8_readNumber, 2, none)
abbrev M_J9_min_7cf53 : ev_M := (yJ9_min_7cf53, cJ9_min_7cf53, 2, (some .int))
abbrev M_X8_kind : ev_M := (yX8_kind, cX8_kind, 1, (some .int))
abbrev M_X4_readClause : ev_M := (yX4_readClause, cX4_readClause, 4, (some .boolean))
abbrev M_X8_value : ev_M := (yX8_value, cX8_value, 1, (some .int))
abbrev M_X4_readLiteral : ev_M := (yX4_readLiteral, cX4_readLiteral, 4, (some .boolean))
abbrev M_X4_passed : ev_M := (yX4_passed, cX4_passed, 2, (some .boolean))
abbrev M_X8_start : ev_M := (yX8_start, cX8_start, 1, (some .int))
abbrev M_X11_takeClauses : ev_M := (yX11_takeClauses, cX11_takeClauses, 2, none)
abbrev M_X4_clausesRead : ev_M := (yX4_clausesRead, cX4_clausesRead, 1, (some .int))
abbrev M_X4_sideOf : ev_M := (yX4_sideOf, cX4_sideOf, 2, (some .int))
abbrev M_X4_at : ev_M := (yX4_at, cX4_at, 2, (some .int))
abbrev M_X4_plainOf : ev_M := (yX4_plainOf, cX4_plainOf, 2, (some .int))
abbrev M_X4_turnedOf : ev_M := (yX4_turnedOf, cX4_turnedOf, 2, (some .int))
abbrev M_X3_becomeClause : ev_M := (yX3_becomeClause, cX3_becomeClause, 4, none)
abbrev M_X7_learn : ev_M := (yX7_learn, cX7_learn, 4, none)
abbrev M_X3_gatherWorlds : ev_M := (yX3_gatherWorlds, cX3_gatherWorlds, 5, none)
abbrev M_X10_joinWhere : ev_M := (yX10_joinWhere, cX10_joinWhere, 6, none)
abbrev M_X10_partWhereSo : ev_M := (yX10_partWhereSo, cX10_partWhereSo, 2, (some .long))
abbrev M_X10_meet : ev_M := (yX10_meet, cX10_meet, 3, none)
abbrev M_X3_letters : ev_M := (yX3_letters, cX3_letters, 1, (some .int))
abbrev M_X10_become : ev_M := (yX10_become, cX10_become, 3, none)
abbrev M_X7_sharedLetters : ev_M := (yX7_sharedLetters, cX7_sharedLetters, 1, (some .int))
abbrev M_X10_spreadBut : ev_M := (yX10_spreadBut, cX10_spreadBut, 3, none)
abbrev M_X10_spread : ev_M := (yX10_spread, cX10_spread, 3, none)
abbrev M_X10_partTurned : ev_M := (yX10_partTurned, cX10_partTurned, 4, (some .long))
abbrev M_X0_learn : ev_M := (yX0_learn, cX0_learn, 4, none)
abbrev M_X3_sayAsClause : ev_M := (yX3_sayAsClause, cX3_sayAsClause, 2, none)
abbrev M_X11_forgetProof : ev_M := (yX11_forgetProof, cX11_forgetProof, 1, none)
abbrev M_X11_firstEmptyLine : ev_M := (yX11_firstEmptyLine, cX11_firstEmptyLine, 2, (some .int))
abbrev M_X3_literals : ev_M := (yX3_literals, cX3_literals, 1, (some .int))
abbrev M_J6_bitCount_0f7a4 : ev_M := (yJ6_bitCount_0f7a4, cJ6_bitCount_0f7a4, 1, (some .int))
abbrev M_X11_proof : ev_M := (yX11_proof, cX11_proof, 2, (some .int))
abbrev M_X4_readSteps : ev_M := (yX4_readSteps, cX4_readSteps, 4, (some .int))
abbrev M_X4_readStep : ev_M := (yX4_readStep, cX4_readStep, 4, (some .boolean))
abbrev M_X11_takeSteps : ev_M := (yX11_takeSteps, cX11_takeSteps, 2, none)
abbrev M_X4_stepsRead : ev_M := (yX4_stepsRead, cX4_stepsRead, 1, (some .int))
abbrev M_X11_makeLine : ev_M := (yX11_makeLine, cX11_makeLine, 8, (some .boolean))
abbrev M_X4_firstOf : ev_M := (yX4_firstOf, cX4_firstOf, 2, (some .int))
abbrev M_X4_secondOf : ev_M := (yX4_secondOf, cX4_secondOf, 2, (some .int))
abbrev M_X4_letterOf : ev_M := (yX4_letterOf, cX4_letterOf, 2, (some .int))
abbrev M_X11_lineAt : ev_M := (yX11_lineAt, cX11_lineAt, 2, (some (.object "SharedSense$Line")))
abbrev M_X3_becomeCut : ev_M := (yX3_becomeCut, cX3_becomeCut, 7, (some .boolean))
abbrev M_X3_rememberCut : ev_M := (yX3_rememberCut, cX3_rememberCut, 4, none)
abbrev M_X7_ownerOf : ev_M := (yX7_ownerOf, cX7_ownerOf, 4, (some .int))
abbrev M_X3_sayAsCut : ev_M := (yX3_sayAsCut, cX3_sayAsCut, 7, none)
abbrev M_X10_choose : ev_M := (yX10_choose, cX10_choose, 7, none)
abbrev M_X3_joins : ev_M := (yX3_joins, cX3_joins, 2, (some .boolean))
abbrev M_X10_join : ev_M := (yX10_join, cX10_join, 3, none)
abbrev M_X11_wrong : ev_M := (yX11_wrong, cX11_wrong, 1, (some .int))
abbrev M_X11_end : ev_M := (yX11_end, cX11_end, 1, (some .int))
abbrev M_X11_line : ev_M := (yX11_line, cX11_line, 4, (some .int))
abbrev M_X3_property : ev_M := (yX3_property, cX3_property, 2, (some .int))
abbrev M_X11_side : ev_M := (yX11_side, cX11_side, 2, (some .int))
abbrev M_X11_holds : ev_M := (yX11_holds, cX11_holds, 4, (some .int))
abbrev M_X11_isWorld : ev_M := (yX11_isWorld, cX11_isWorld, 1, (some .boolean))
abbrev M_X3_isSoIn : ev_M := (yX3_isSoIn, cX3_isSoIn, 2, (some .boolean))
abbrev M_X11_worlds : ev_M := (yX11_worlds, cX11_worlds, 2, (some .int))
abbrev M_X10_size : ev_M := (yX10_size, cX10_size, 3, (some .int))
abbrev M_J13_bitCount_95d88 : ev_M := (yJ13_bitCount_95d88, cJ13_bitCount_95d88, 2, (some .int))
abbrev M_X10_sizeWith : ev_M := (yX10_sizeWith, cX10_sizeWith, 4, (some .int))
abbrev M_X11_says : ev_M := (yX11_says, cX11_says, 5, (some .int))
abbrev M_X11_isWay : ev_M := (yX11_isWay, cX11_isWay, 1, (some .boolean))
abbrev M_X3_sayingBy : ev_M := (yX3_sayingBy, cX3_sayingBy, 2, (some (.object "SharedSense$WorldSet")))
abbrev M_X10_has : ev_M := (yX10_has, cX10_has, 2, (some .boolean))
abbrev M_X11_saying : ev_M := (yX11_saying, cX11_saying, 4, (some .long))
abbrev M_X10_part : ev_M := (yX10_part, cX10_part, 2, (some .long))
abbrev M_X11_between : ev_M := (yX11_between, cX11_between, 3, (some .int))
abbrev M_X7_judge : ev_M := (yX7_judge, cX7_judge, 2, (some .int))
abbrev M_X10_lettersLookedAt : ev_M := (yX10_lettersLookedAt, cX10_lettersLookedAt, 3, (some .int))
abbrev M_X10_hangsOn : ev_M := (yX10_hangsOn, cX10_hangsOn, 3, (some .boolean))
abbrev M_X10_isWithin : ev_M := (yX10_isWithin, cX10_isWithin, 2, (some .boolean))
abbrev M_X11_looks : ev_M := (yX11_looks, cX11_looks, 3, (some .int))
abbrev M_X11_setOf : ev_M := (yX11_setOf, cX11_setOf, 3, (some (.object "SharedSense$WorldSet")))
abbrev M_X11_compare : ev_M := (yX11_compare, cX11_compare, 7, (some .int))
abbrev M_X11_bounds : ev_M := (yX11_bounds, cX11_bounds, 2, (some .int))
abbrev M_X7_freeChoices : ev_M := (yX7_freeChoices, cX7_freeChoices, 2, (some .int))
abbrev M_X11_fewest : ev_M := (yX11_fewest, cX11_fewest, 2, (some .int))
abbrev M_X7_fewestLetters : ev_M := (yX7_fewestLetters, cX7_fewestLetters, 1, (some .int))
abbrev M_X7_findFewest : ev_M := (yX7_findFewest, cX7_findFewest, 5, (some .int))
abbrev M_X7_tellsApart : ev_M := (yX7_tellsApart, cX7_tellsApart, 2, (some .boolean))
abbrev M_X11_sizeOrSet : ev_M := (yX11_sizeOrSet, cX11_sizeOrSet, 2, (some .int))
abbrev M_X11_tell : ev_M := (yX11_tell, cX11_tell, 4, (some .int))
abbrev M_X10_put : ev_M := (yX10_put, cX10_put, 5, none)
abbrev M_X11_copy : ev_M := (yX11_copy, cX11_copy, 7, (some .int))
abbrev M_X11_check : ev_M := (yX11_check, cX11_check, 1, (some .int))
abbrev M_X11_used : ev_M := (yX11_used, cX11_used, 1, (some .int))
abbrev M_X11_clausesUnder : ev_M := (yX11_clausesUnder, cX11_clausesUnder, 5, (some .int))
abbrev M_X11_bitOf : ev_M := (yX11_bitOf, cX11_bitOf, 1, (some .long))
abbrev M_X11_needed : ev_M := (yX11_needed, cX11_needed, 2, (some .int))
abbrev M_X0_leastSet : ev_M := (yX0_leastSet, cX0_leastSet, 1, (some .int))
abbrev M_X0_allClash : ev_M := (yX0_allClash, cX0_allClash, 2, (some .boolean))
abbrev M_X10_leastWorld : ev_M := (yX10_leastWorld, cX10_leastWorld, 4, (some .int))
abbrev M_X0_choose : ev_M := (yX0_choose, cX0_choose, 8, none)
abbrev M_X0_keep : ev_M := (yX0_keep, cX0_keep, 3, none)
abbrev M_X11_labour : ev_M := (yX11_labour, cX11_labour, 5, (some .int))
abbrev M_X11_ruleOf : ev_M := (yX11_ruleOf, cX11_ruleOf, 2, (some (.object "SharedSense$Rule")))
abbrev M_X1_work : ev_M := (yX1_work, cX1_work, 3, (some .int))
abbrev M_X9_mark : ev_M := (yX9_mark, cX9_mark, 2, none)
abbrev M_X2_work : ev_M := (yX2_work, cX2_work, 3, (some .int))
abbrev M_X5_work : ev_M := (yX5_work, cX5_work, 3, (some .int))
abbrev M_X6_work : ev_M := (yX6_work, cX6_work, 3, (some .int))
abbrev M_X11_count : ev_M := (yX11_count, cX11_count, 2, (some .int))
abbrev M_X11_trace : ev_M := (yX11_trace, cX11_trace, 1, (some .long))
abbrev M_X9_sum : ev_M := (yX9_sum, cX9_sum, 1, (some .long))
abbrev M_X12_init : ev_M := (yX12_init, cX12_init, 1, none)
abbrev M_X12_bounds : ev_M := (yX12_bounds, cX12_bounds, 4, none)
abbrev M_X12_shared : ev_M := (yX12_shared, cX12_shared, 1, (some .int))
abbrev M_X12_lettersOf : ev_M := (yX12_lettersOf, cX12_lettersOf, 4, (some .int))
abbrev M_X12_spreads : ev_M := (yX12_spreads, cX12_spreads, 15, none)
abbrev M_X12_has : ev_M := (yX12_has, cX12_has, 3, (some .boolean))
abbrev M_X12_type : ev_M := (yX12_type, cX12_type, 5, (some .int))
abbrev M_X12_in : ev_M := (yX12_in, cX12_in, 3, (some .boolean))
abbrev M_X12_clear : ev_M := (yX12_clear, cX12_clear, 2, (some .int))
abbrev M_X12_clauses : ev_M := (yX12_clauses, cX12_clauses, 3, (some .int))
abbrev M_X12_begins : ev_M := (yX12_begins, cX12_begins, 1, none)
abbrev M_X12_advances : ev_M := (yX12_advances, cX12_advances, 2, none)
abbrev M_X12_byteAt : ev_M := (yX12_byteAt, cX12_byteAt, 2, (some .int))
abbrev M_X12_word : ev_M := (yX12_word, cX12_word, 5, none)
abbrev M_X12_isWell : ev_M := (yX12_isWell, cX12_isWell, 1, (some .boolean))
abbrev M_X12_wants : ev_M := (yX12_wants, cX12_wants, 2, none)
abbrev M_X12_readsClause : ev_M := (yX12_readsClause, cX12_readsClause, 3, none)
abbrev M_X12_goesOn : ev_M := (yX12_goesOn, cX12_goesOn, 1, none)
abbrev M_X12_holding : ev_M := (yX12_holding, cX12_holding, 3, none)
abbrev M_X12_isSo : ev_M := (yX12_isSo, cX12_isSo, 3, (some .boolean))
abbrev M_X12_beginning : ev_M := (yX12_beginning, cX12_beginning, 10, none)
abbrev M_X12_proof : ev_M := (yX12_proof, cX12_proof, 3, (some .int))
abbrev M_X12_readsStep : ev_M := (yX12_readsStep, cX12_readsStep, 3, none)
abbrev M_X12_makes : ev_M := (yX12_makes, cX12_makes, 22, (some .boolean))
abbrev M_X12_wrong : ev_M := (yX12_wrong, cX12_wrong, 1, (some .int))
abbrev M_X12_end : ev_M := (yX12_end, cX12_end, 1, (some .int))
abbrev M_X12_ending : ev_M := (yX12_ending, cX12_ending, 2, (some .int))
abbrev M_X12_line : ev_M := (yX12_line, cX12_line, 3, (some .int))
abbrev M_X12_isLine : ev_M := (yX12_isLine, cX12_isLine, 2, (some .boolean))
abbrev M_X12_side : ev_M := (yX12_side, cX12_side, 2, (some .int))
abbrev M_X12_holds : ev_M := (yX12_holds, cX12_holds, 3, (some .int))
abbrev M_X12_worlds : ev_M := (yX12_worlds, cX12_worlds, 3, (some .int))
abbrev M_X12_many : ev_M := (yX12_many, cX12_many, 3, (some .int))
abbrev M_X12_says : ev_M := (yX12_says, cX12_says, 4, (some .int))
abbrev M_X12_isWay : ev_M := (yX12_isWay, cX12_isWay, 1, (some .boolean))
abbrev M_X12_saying : ev_M := (yX12_saying, cX12_saying, 4, (some .long))
abbrev M_X12_between : ev_M := (yX12_between, cX12_between, 2, (some .int))
abbrev M_X12_takes : ev_M := (yX12_takes, cX12_takes, 5, (some .boolean))
abbrev M_X12_checks : ev_M := (yX12_checks, cX12_checks, 4, (some .int))
abbrev M_X12_looksOf : ev_M := (yX12_looksOf, cX12_looksOf, 4, (some .int))
abbrev M_X12_looks : ev_M := (yX12_looks, cX12_looks, 2, (some .int))
abbrev M_X12_compare : ev_M := (yX12_compare, cX12_compare, 6, (some .int))
abbrev M_X12_bounds_ : ev_M := (yX12_bounds_, cX12_bounds_, 3, (some .int))
abbrev M_X12_ones : ev_M := (yX12_ones, cX12_ones, 3, (some .int))
abbrev M_X12_fewest : ev_M := (yX12_fewest, cX12_fewest, 7, (some .int))
abbrev M_X12_tell : ev_M := (yX12_tell, cX12_tell, 6, (some .int))
abbrev M_X12_copy : ev_M := (yX12_copy, cX12_copy, 8, (some .int))
abbrev M_X12_check : ev_M := (yX12_check, cX12_check, 1, (some .int))
abbrev M_X12_used : ev_M := (yX12_used, cX12_used, 5, (some .int))
abbrev M_X12_needed : ev_M := (yX12_needed, cX12_needed, 4, (some .int))
abbrev M_X12_clash : ev_M := (yX12_clash, cX12_clash, 7, (some .boolean))
abbrev M_X12_labour : ev_M := (yX12_labour, cX12_labour, 5, (some .int))
abbrev M_X12_count : ev_M := (yX12_count, cX12_count, 2, (some .int))
abbrev M_X12_trace : ev_M := (yX12_trace, cX12_trace, 1, (some .long))
theorem cmC_X11 : plainName RX11 = true ∧ Cond.initialized RX11 ∈ dp_tb ∧ (RX11 ≠ "java/lang/invoke/MethodHandle" ∧ RX11 ≠ "java/lang/invoke/VarHandle") := ⟨by decide +kernel, (dp_m 1 (by decide +kernel) rfl), by decide +kernel, by decide +kernel⟩
set_option maxRecDepth 100000 in
theorem cm_X11_init : plainName M_X11_init.1.cls = true ∧ Cond.code M_X11_init.1 M_X11_init.2.1 M_X11_init.2.2.1 M_X11_init.2.2.2 ∈ dp_tb ∧ Cond.initialized M_X11_init.1.cls ∈ dp_tb ∧ M_X11_init.2.2.1 ≤ 40 ∧ (M_X11_init.1.cls ≠ "java/lang/invoke/MethodHandle" ∧ M_X11_init.1.cls ≠ "java/lang/invoke/VarHandle") := ⟨cmC_X11.1, (dp_m 21 (by exact rfl) rfl), cmC_X11.2.1, by decide, cmC_X11.2.2⟩
theorem cmC_X8 : plainName RX8 = true ∧ Cond.initialized RX8 ∈ dp_tb ∧ (RX8 ≠ "java/lang/invoke/MethodHandle" ∧ RX8 ≠ "java/lang/invoke/VarHandle") := ⟨by decide +kernel, (dp_m 2 (by decide +kernel) rfl), by decide +kernel, by decide +kernel⟩
set_option maxRecDepth 100000 in
theorem cm_X8_init : plainName M_X8_init.1.cls = true ∧ Cond.code M_X8_init.1 M_X8_init.2.1 M_X8_init.2.2.1 M_X8_init.2.2.2 ∈ dp_tb ∧ Cond.initialized M_X8_init.1.cls ∈ dp_tb ∧ M_X8_init.2.2.1 ≤ 40 ∧ (M_X8_init.1.cls ≠ "java/lang/invoke/MethodHandle" ∧ M_X8_init.1.cls ≠ "java/lang/invoke/VarHandle") := ⟨cmC_X8.1, (dp_m 29 (by exact rfl) rfl), cmC_X8.2.1, by decide, cmC_X8.2.2⟩
theorem cmC_X4 : plainName RX4 = true ∧ Cond.initialized RX4 ∈ dp_tb ∧ (RX4 ≠ "java/lang/invoke/MethodHandle" ∧ RX4 ≠ "java/lang/invoke/VarHandle") := ⟨by decide +kernel, (dp_m 3 (by decide +kernel) rfl), by decide +kernel, by decide +kernel⟩
set_option maxRecDepth 100000 in
theorem cm_X4_init : plainName M_X4_init.1.cls = true ∧ Cond.code M_X4_init.1 M_X4_init.2.1 M_X4_init.2.2.1 M_X4_init.2.2.2 ∈ dp_tb ∧ Cond.initialized M_X4_init.1.cls ∈ dp_tb ∧ M_X4_init.2.2.1 ≤ 40 ∧ (M_X4_init.1.cls ≠ "java/lang/invoke/MethodHandle" ∧ M_X4_init.1.cls ≠ "java/lang/invoke/VarHandle") := ⟨cmC_X4.1, (dp_m 55 (by exact rfl) rfl), cmC_X4.2.1, by decide, cmC_X4.2.2⟩
theorem cmC_X7 : plainName RX7 = true ∧ Cond.initialized RX7 ∈ dp_tb ∧ (RX7 ≠ "java/lang/invoke/MethodHandle" ∧ RX7 ≠ "java/lang/invoke/VarHandle") := ⟨by decide +kernel, (dp_m 4 (by decide +kernel) rfl), by decide +kernel, by decide +kernel⟩
set_option maxRecDepth 100000 in
theorem cm_X7_init : plainName M_X7_init.1.cls = true ∧ Cond.code M_X7_init.1 M_X7_init.2.1 M_X7_init.2.2.1 M_X7_init.2.2.2 ∈ dp_tb ∧ Cond.initialized M_X7_init.1.cls ∈ dp_tb ∧ M_X7_init.2.2.1 ≤ 40 ∧ (M_X7_init.1.cls ≠ "java/lang/invoke/MethodHandle" ∧ M_X7_init.1.cls ≠ "java/lang/invoke/VarHandle") := ⟨cmC_X7.1, (dp_m 95 (by exact rfl) rfl), cmC_X7.2.1, by decide, cmC_X7.2.2⟩
theorem cmC_X10 : plainName RX10 = true ∧ Cond.initialized RX10 ∈ dp_tb ∧ (RX10 ≠ "java/lang/invoke/MethodHandle" ∧ RX10 ≠ "java/lang/invoke/VarHandle") := ⟨by decide +kernel, (dp_m 5 (by decide +kernel) rfl), by decide +kernel, by decide +kernel⟩
set_option maxRecDepth 100000 in
theorem cm_X10_init : plainName M_X10_init.1.cls = true ∧ Cond.code M_X10_init.1 M_X10_init.2.1 M_X10_init.2.2.1 M_X10_init.2.2.2 ∈ dp_tb ∧ Cond.initialized M_X10_init.1.cls ∈ dp_tb ∧ M_X10_init.2.2.1 ≤ 40 ∧ (M_X10_init.1.cls ≠ "java/lang/invoke/MethodHandle" ∧ M_X10_init.1.cls ≠ "java/lang/invoke/VarHandle") := ⟨cmC_X10.1, (dp_m 101 (by exact rfl) rfl), cmC_X10.2.1, by decide, cmC_X10.2.2⟩
set_option maxRecDepth 100000 in
theorem cm_X10_fill : plainName M_X10_fill.1.cls = true ∧ Cond.code M_X10_fill.1 M_X10_fill.2.1 M_X10_fill.2.2.1 M_X10_fill.2.2.2 ∈ dp_tb ∧ Cond.initialized M_X10_fill.1.cls ∈ dp_tb ∧ M_X10_fill.2.2.1 ≤ 40 ∧ (M_X10_fill.1.cls ≠ "java/lang/invoke/MethodHandle" ∧ M_X10_fill.1.cls ≠ "java/lang/invoke/VarHandle") := ⟨cmC_X10.1, (dp_m 111 (by exact rfl) rfl), cmC_X10.2.1, by decide, cmC_X10.2.2⟩
set_option maxRecDepth 100000 in
theorem cm_X10_wipe : plainName M_X10_wipe.1.cls = true ∧ Cond.code M_X10_wipe.1 M_X10_wipe.2.1 M_X10_wipe.2.2.1 M_X10_wipe.2.2.2 ∈ dp_tb ∧ Cond.initialized M_X10_wipe.1.cls ∈ dp_tb ∧ M_X10_wipe.2.2.1 ≤ 40 ∧ (M_X10_wipe.1.cls ≠ "java/lang/invoke/MethodHandle" ∧ M_X10_wipe.1.cls ≠ "java/lang/invoke/VarHandle") := ⟨cmC_X10.1, (dp_m 115 (by exact rfl) rfl), cmC_X10.2.1, by decide, cmC_X10.2.2⟩
set_option maxRecDepth 100000 in
theorem cm_X10_turn : plainName M_X10_turn.1.cls = true ∧ Cond.code M_X10_turn.1 M_X10_turn.2.1 M_X10_turn.2.2.1 M_X10_turn.2.2.2 ∈ dp_tb ∧ Cond.initialized M_X10_turn.1.cls ∈ dp_tb ∧ M_X10_turn.2.2.1 ≤ 40 ∧ (M_X10_turn.1.cls ≠ "java/lang/invoke/MethodHandle" ∧ M_X10_turn.1.cls ≠ "java/lang/invoke/VarHandle") := ⟨cmC_X10.1, (dp_m 119 (by exact rfl) rfl), cmC_X10.2.1, by decide, cmC_X10.2.2⟩
theorem cmC_X0 : plainName RX0 = true ∧ Cond.initialized RX0 ∈ dp_tb ∧ (RX0 ≠ "java/lang/invoke/MethodHandle" ∧ RX0 ≠ "java/lang/invoke/VarHandle") := ⟨by decide +kernel, (dp_m 6 (by decide +kernel) rfl), by decide +kernel, by decide +kernel⟩
set_option maxRecDepth 100000 in
theorem cm_X0_init : plainName M_X0_init.1.cls = true ∧ Cond.code M_X0_init.1 M_X0_init.2.1 M_X0_init.2.2.1 M_X0_init.2.2.2 ∈ dp_tb ∧ Cond.initialized M_X0_init.1.cls ∈ dp_tb ∧ M_X0_init.2.2.1 ≤ 40 ∧ (M_X0_init.1.cls ≠ "java/lang/invoke/MethodHandle" ∧ M_X0_init.1.cls ≠ "java/lang/invoke/VarHandle") := ⟨cmC_X0.1, (dp_m 157 (by exact rfl) rfl), cmC_X0.2.1, by decide, cmC_X0.2.2⟩
theorem cmC_X9 : plainName RX9 = true ∧ Cond.initialized RX9 ∈ dp_tb ∧ (RX9 ≠ "java/lang/invoke/MethodHandle" ∧ RX9 ≠ "java/lang/invoke/VarHandle") := ⟨by decide +kernel, (dp_m 7 (by decide +kernel) rfl), by decide +kernel, by decide +kernel⟩
set_option maxRecDepth 100000 in
theorem cm_X9_init : plainName M_X9_init.1.cls = true ∧ Cond.code M_X9_init.1 M_X9_init.2.1 M_X9_init.2.2.1 M_X9_init.2.2.2 ∈ dp_tb ∧ Cond.initialized M_X9_init.1.cls ∈ dp_tb ∧ M_X9_init.2.2.1 ≤ 40 ∧ (M_X9_init.1.cls ≠ "java/lang/invoke/MethodHandle" ∧ M_X9_init.1.cls ≠ "java/lang/invoke/VarHandle") := ⟨cmC_X9.1, (dp_m 187 (by exact rfl) rfl), cmC_X9.2.1, by decide, cmC_X9.2.2⟩
theorem cmC_X6 : plainName RX6 = true ∧ Cond.initialized RX6 ∈ dp_tb ∧ (RX6 ≠ "java/lang/invoke/MethodHandle" ∧ RX6 ≠ "java/lang/invoke/VarHandle") := ⟨by decide +kernel, (dp_m 8 (by decide +kernel) rfl), by decide +kernel, by decide +kernel⟩
set_option maxRecDepth 100000 in
theorem cm_X6_init : plainName M_X6_init.1.cls = true ∧ Cond.code M_X6_init.1 M_X6_init.2.1 M_X6_init.2.2.1 M_X6_init.2.2.2 ∈ dp_tb ∧ Cond.initialized M_X6_init.1.cls ∈ dp_tb ∧ M_X6_init.2.2.1 ≤ 40 ∧ (M_X6_init.1.cls ≠ "java/lang/invoke/MethodHandle" ∧ M_X6_init.1.cls ≠ "java/lang/invoke/VarHandle") := ⟨cmC_X6.1, (dp_m 197 (by exact rfl) rfl), cmC_X6.2.1, by decide, cmC_X6.2.2⟩
theorem cmC_X2 : plainName RX2 = true ∧ Cond.initialized RX2 ∈ dp_tb ∧ (RX2 ≠ "java/lang/invoke/MethodHandle" ∧ RX2 ≠ "java/lang/invoke/VarHandle") := ⟨by decide +kernel, (dp_m 9 (by decide +kernel) rfl), by decide +kernel, by decide +kernel⟩
set_option maxRecDepth 100000 in
theorem cm_X2_init : plainName M_X2_init.1.cls = true ∧ Cond.code M_X2_init.1 M_X2_init.2.1 M_X2_init.2.2.1 M_X2_init.2.2.2 ∈ dp_tb ∧ Cond.initialized M_X2_init.1.cls ∈ dp_tb ∧ M_X2_init.2.2.1 ≤ 40 ∧ (M_X2_init.1.cls ≠ "java/lang/invoke/MethodHandle" ∧ M_X2_init.1.cls ≠ "java/lang/invoke/VarHandle") := ⟨cmC_X2.1, (dp_m 204 (by exact rfl) rfl), cmC_X2.2.1, by decide, cmC_X2.2.2⟩
theorem cmC_X5 : plainName RX5 = true ∧ Cond.initialized RX5 ∈ dp_tb ∧ (RX5 ≠ "java/lang/invoke/MethodHandle" ∧ RX5 ≠ "java/lang/invoke/VarHandle") := ⟨by decide +kernel, (dp_m 10 (by decide +kernel) rfl), by decide +kernel, by decide +kernel⟩
set_option maxRecDepth 100000 in
theorem cm_X5_init : plainName M_X5_init.1.cls = true ∧ Cond.code M_X5_init.1 M_X5_init.2.1 M_X5_init.2.2.1 M_X5_init.2.2.2 ∈ dp_tb ∧ Cond.initialized M_X5_init.1.cls ∈ dp_tb ∧ M_X5_init.2.2.1 ≤ 40 ∧ (M_X5_init.1.cls ≠ "java/lang/invoke/MethodHandle" ∧ M_X5_init.1.cls ≠ "java/lang/invoke/VarHandle") := ⟨cmC_X5.1, (dp_m 211 (by exact rfl) rfl), cmC_X5.2.1, by decide, cmC_X5.2.2⟩
theorem cmC_X1 : plainName RX1 = true ∧ Cond.initialized RX1 ∈ dp_tb ∧ (RX1 ≠ "java/lang/invoke/MethodHandle" ∧ RX1 ≠ "java/lang/invoke/VarHandle") := ⟨by decide +kernel, (dp_m 11 (by decide +kernel) rfl), by decide +kernel, by decide +kernel⟩
set_option maxRecDepth 100000 in
theorem cm_X1_init : plainName M_X1_init.1.cls = true ∧ Cond.code M_X1_init.1 M_X1_init.2.1 M_X1_init.2.2.1 M_X1_init.2.2.2 ∈ dp_tb ∧ Cond.initialized M_X1_init.1.cls ∈ dp_tb ∧ M_X1_init.2.2.1 ≤ 40 ∧ (M_X1_init.1.cls ≠ "java/lang/invoke/MethodHandle" ∧ M_X1_init.1.cls ≠ "java/lang/invoke/VarHandle") := ⟨cmC_X1.1, (dp_m 218 (by exact rfl) rfl), cmC_X1.2.1, by decide, cmC_X1.2.2⟩
theorem cmC_X3 : plainName RX3 = true ∧ Cond.initialized RX3 ∈ dp_tb ∧ (RX3 ≠ "java/lang/invoke/MethodHandle" ∧ RX3 ≠ "java/lang/invoke/VarHandle") := ⟨by decide +kernel, (dp_m 12 (by decide +kernel) rfl), by decide +kernel, by decide +kernel⟩
set_option maxRecDepth 100000 in
theorem cm_X3_init : plainName M_X3_init.1.cls = true ∧ Cond.code M_X3_init.1 M_X3_init.2.1 M_X3_init.2.2.1 M_X3_init.2.2.2 ∈ dp_tb ∧ Cond.initialized M_X3_init.1.cls ∈ dp_tb ∧ M_X3_init.2.2.1 ≤ 40 ∧ (M_X3_init.1.cls ≠ "java/lang/invoke/MethodHandle" ∧ M_X3_init.1.cls ≠ "java/lang/invoke/VarHandle") := ⟨cmC_X3.1, (dp_m 224 (by exact rfl) rfl), cmC_X3.2.1, by decide, cmC_X3.2.2⟩
set_option maxRecDepth 100000 in
theorem cm_X11_type : plainName M_X11_type.1.cls = true ∧ Cond.code M_X11_type.1 M_X11_type.2.1 M_X11_type.2.2.1 M_X11_type.2.2.2 ∈ dp_tb ∧ Cond.initialized M_X11_type.1.cls ∈ dp_tb ∧ M_X11_type.2.2.1 ≤ 40 ∧ (M_X11_type.1.cls ≠ "java/lang/invoke/MethodHandle" ∧ M_X11_type.1.cls ≠ "java/lang/invoke/VarHandle") := ⟨cmC_X11.1, (dp_m 305 (by exact rfl) rfl), cmC_X11.2.1, by decide, cmC_X11.2.2⟩
set_option maxRecDepth 100000 in
theorem cm_X8_append : plainName M_X8_append.1.cls = true ∧ Cond.code M_X8_append.1 M_X8_append.2.1 M_X8_append.2.2.1 M_X8_append.2.2.2 ∈ dp_tb ∧ Cond.initialized M_X8_append.1.cls ∈ dp_tb ∧ M_X8_append.2.2.1 ≤ 40 ∧ (M_X8_append.1.cls ≠ "java/lang/invoke/MethodHandle" ∧ M_X8_append.1.cls ≠ "java/lang/invoke/VarHandle") := ⟨cmC_X8.1, (dp_m 309 (by exact rfl) rfl), cmC_X8.2.1, by decide, cmC_X8.2.2⟩
set_option maxRecDepth 100000 in
theorem cm_X8_size : plainName M_X8_size.1.cls = true ∧ Cond.code M_X8_size.1 M_X8_size.2.1 M_X8_size.2.2.1 M_X8_size.2.2.2 ∈ dp_tb ∧ Cond.initialized M_X8_size.1.cls ∈ dp_tb ∧ M_X8_size.2.2.1 ≤ 40 ∧ (M_X8_size.1.cls ≠ "java/lang/invoke/MethodHandle" ∧ M_X8_size.1.cls ≠ "java/lang/invoke/VarHandle") := ⟨cmC_X8.1, (dp_m 313 (by exact rfl) rfl), cmC_X8.2.1, by decide, cmC_X8.2.2⟩
set_option maxRecDepth 100000 in
theorem cm_X11_clear : plainName M_X11_clear.1.cls = true ∧ Cond.code M_X11_clear.1 M_X11_clear.2.1 M_X11_clear.2.2.1 M_X11_clear.2.2.2 ∈ dp_tb ∧ Cond.initialized M_X11_clear.1.cls ∈ dp_tb ∧ M_X11_clear.2.2.1 ≤ 40 ∧ (M_X11_clear.1.cls ≠ "java/lang/invoke/MethodHandle" ∧ M_X11_clear.1.cls ≠ "java/lang/invoke/VarHandle") := ⟨cmC_X11.1, (dp_m 317 (by exact rfl) rfl), cmC_X11.2.1, by decide, cmC_X11.2.2⟩
set_option maxRecDepth 100000 in
theorem cm_X8_wipe : plainName M_X8_wipe.1.cls = true ∧ Cond.code M_X8_wipe.1 M_X8_wipe.2.1 M_X8_wipe.2.2.1 M_X8_wipe.2.2.2 ∈ dp_tb ∧ Cond.initialized M_X8_wipe.1.cls ∈ dp_tb ∧ M_X8_wipe.2.2.1 ≤ 40 ∧ (M_X8_wipe.1.cls ≠ "java/lang/invoke/MethodHandle" ∧ M_X8_wipe.1.cls ≠ "java/lang/invoke/VarHandle") := ⟨cmC_X8.1, (dp_m 321 (by exact rfl) rfl), cmC_X8.2.1, by decide, cmC_X8.2.2⟩
set_option maxRecDepth 100000 in
theorem cm_X11_clauses : plainName M_X11_clauses.1.cls = true ∧ Cond.code M_X11_clauses.1 M_X11_clauses.2.1 M_X11_clauses.2.2.1 M_X11_clauses.2.2.2 ∈ dp_tb ∧ Cond.initialized M_X11_clauses.1.cls ∈ dp_tb ∧ M_X11_clauses.2.2.1 ≤ 40 ∧ (M_X11_clauses.1.cls ≠ "java/lang/invoke/MethodHandle" ∧ M_X11_clauses.1.cls ≠ "java/lang/invoke/VarHandle") := ⟨cmC_X11.1, (dp_m 325 (by exact rfl) rfl), cmC_X11.2.1, by decide, cmC_X11.2.2⟩
set_option maxRecDepth 100000 in
theorem cm_X4_readClauses : plainName M_X4_readClauses.1.cls = true ∧ Cond.code M_X4_readClauses.1 M_X4_readClauses.2.1 M_X4_readClauses.2.2.1 M_X4_readClauses.2.2.2 ∈ dp_tb ∧ Cond.initialized M_X4_readClauses.1.cls ∈ dp_tb ∧ M_X4_readClauses.2.2.1 ≤ 40 ∧ (M_X4_readClauses.1.cls ≠ "java/lang/invoke/MethodHandle" ∧ M_X4_readClauses.1.cls ≠ "java/lang/invoke/VarHandle") := ⟨cmC_X4.1, (dp_m 329 (by exact rfl) rfl), cmC_X4.2.1, by decide, cmC_X4.2.2⟩
set_option maxRecDepth 100000 in
theorem cm_X8_readFirst : plainName M_X8_readFirst.1.cls = true ∧ Cond.code M_X8_readFirst.1 M_X8_readFirst.2.1 M_X8_readFirst.2.2.1 M_X8_readFirst.2.2.2 ∈ dp_tb ∧ Cond.initialized M_X8_readFirst.1.cls ∈ dp_tb ∧ M_X8_readFirst.2.2.1 ≤ 40 ∧ (M_X8_readFirst.1.cls ≠ "java/lang/invoke/MethodHandle" ∧ M_X8_readFirst.1.cls ≠ "java/lang/invoke/VarHandle") := ⟨cmC_X8.1, (dp_m 333 (by exact rfl) rfl), cmC_X8.2.1, by decide, cmC_X8.2.2⟩
set_option maxRecDepth 100000 in
theorem cm_X8_readNext : plainName M_X8_readNext.1.cls = true ∧ Cond.code M_X8_readNext.1 M_X8_readNext.2.1 M_X8_readNext.2.2.1 M_X8_readNext.2.2.2 ∈ dp_tb ∧ Cond.initialized M_X8_readNext.1.cls ∈ dp_tb ∧ M_X8_readNext.2.2.1 ≤ 40 ∧ (M_X8_readNext.1.cls ≠ "java/lang/invoke/MethodHandle" ∧ M_X8_readNext.1.cls ≠ "java/lang/invoke/VarHandle") := ⟨cmC_X8.1, (dp_m 337 (by exact rfl) rfl), cmC_X8.2.1, by decide, cmC_X8.2.2⟩
set_option maxRecDepth 100000 in
theorem cm_X8_skipBlanks : plainName M_X8_skipBlanks.1.cls = true ∧ Cond.code M_X8_skipBlanks.1 M_X8_skipBlanks.2.1 M_X8_skipBlanks.2.2.1 M_X8_skipBlanks.2.2.2 ∈ dp_tb ∧ Cond.initialized M_X8_skipBlanks.1.cls ∈ dp_tb ∧ M_X8_skipBlanks.2.2.1 ≤ 40 ∧ (M_X8_skipBlanks.1.cls ≠ "java/lang/invoke/MethodHandle" ∧ M_X8_skipBlanks.1.cls ≠ "java/lang/invoke/VarHandle") := ⟨cmC_X8.1, (dp_m 341 (by exact rfl) rfl), cmC_X8.2.1, by decide, cmC_X8.2.2⟩
set_option maxRecDepth 100000 in
theorem cm_X8_byteAt : plainName M_X8_byteAt.1.cls = true ∧ Cond.code M_X8_byteAt.1 M_X8_byteAt.2.1 M_X8_byteAt.2.2.1 M_X8_byteAt.2.2.2 ∈ dp_tb ∧ Cond.initialized M_X8_byteAt.1.cls ∈ dp_tb ∧ M_X8_byteAt.2.2.1 ≤ 40 ∧ (M_X8_byteAt.1.cls ≠ "java/lang/invoke/MethodHandle" ∧ M_X8_byteAt.1.cls ≠ "java/lang/invoke/VarHandle") := ⟨cmC_X8.1, (dp_m 345 (by exact rfl) rfl), cmC_X8.2.1, by decide, cmC_X8.2.2⟩
set_option maxRecDepth 100000 in
theorem cm_X8_isWordSign : plainName M_X8_isWordSign.1.cls = true ∧ Cond.code M_X8_isWordSign.1 M_X8_isWordSign.2.1 M_X8_isWordSign.2.2.1 M_X8_isWordSign.2.2.2 ∈ dp_tb ∧ Cond.initialized M_X8_isWordSign.1.cls ∈ dp_tb ∧ M_X8_isWordSign.2.2.1 ≤ 40 ∧ (M_X8_isWordSign.1.cls ≠ "java/lang/invoke/MethodHandle" ∧ M_X8_isWordSign.1.cls ≠ "java/lang/invoke/VarHandle") := ⟨cmC_X8.1, (dp_m 348 (by exact rfl) rfl), cmC_X8.2.1, by decide, cmC_X8.2.2⟩
set_option maxRecDepth 100000 in
theorem cm_X8_readWord : plainName M_X8_readWord.1.cls = true ∧ Cond.code M_X8_readWord.1 M_X8_readWord.2.1 M_X8_readWord.2.2.1 M_X8_readWord.2.2.2 ∈ dp_tb ∧ Cond.initialized M_X8_readWord.1.cls ∈ dp_tb ∧ M_X8_readWord.2.2.1 ≤ 40 ∧ (M_X8_readWord.1.cls ≠ "java/lang/invoke/MethodHandle" ∧ M_X8_readWord.1.cls ≠ "java/lang/invoke/VarHandle") := ⟨cmC_X8.1, (dp_m 352 (by exact rfl) rfl), cmC_X8.2.1, by decide, cmC_X8.2.2⟩
set_option maxRecDepth 100000 in
theorem cm_X8_isDigit : plainName M_X8_isDigit.1.cls = true ∧ Cond.code M_X8_isDigit.1 M_X8_isDigit.2.1 M_X8_isDigit.2.2.1 M_X8_isDigit.2.2.2 ∈ dp_tb ∧ Cond.initialized M_X8_isDigit.1.cls ∈ dp_tb ∧ M_X8_isDigit.2.2.1 ≤ 40 ∧ (M_X8_isDigit.1.cls ≠ "java/lang/invoke/MethodHandle" ∧ M_X8_isDigit.1.cls ≠ "java/lang/invoke/VarHandle") := ⟨cmC_X8.1, (dp_m 358 (by exact rfl) rfl), cmC_X8.2.1, by decide, cmC_X8.2.2⟩
set_option maxRecDepth 100000 in
theorem cm_X8_readNumber : plainName M_X8_readNumber.1.cls = true ∧ Cond.code M_X8_readNumber.1 M_X8_readNumber.2.1 M_X8_readNumber.2.2.1 M_X8_readNumber.2.2.2 ∈ dp_tb ∧ Cond.initialized M_X8_readNumber.1.cls ∈ dp_tb ∧ M_X8_readNumber.2.2.1 ≤ 40 ∧ (M_X8_readNumber.1.cls ≠ "java/lang/invoke/MethodHandle" ∧ M_X8_readNumber.1.cls ≠ "java/lang/invoke/VarHandle") := ⟨cmC_X8.1, (dp_m 362 (by exact rfl) rfl), cmC_X8.2.1, by decide, cmC_X8.2.2⟩
set_option maxRecDepth 100000 in
theorem cm_X8_kind : plainName M_X8_kind.1.cls = true ∧ Cond.code M_X8_kind.1 M_X8_kind.2.1 M_X8_kind.2.2.1 M_X8_kind.2.2.2 ∈ dp_tb ∧ Cond.initialized M_X8_kind.1.cls ∈ dp_tb ∧ M_X8_kind.2.2.1 ≤ 40 ∧ (M_X8_kind.1.cls ≠ "java/lang/invoke/MethodHandle" ∧ M_X8_kind.1.cls ≠ "java/lang/invoke/VarHandle") := ⟨cmC_X8.1, (dp_m 369 (by exact rfl) rfl), cmC_X8.2.1, by decide, cmC_X8.2.2⟩
set_option maxRecDepth 100000 in
theorem cm_X4_readClause : plainName M_X4_readClause.1.cls = true ∧ Cond.code M_X4_readClause.1 M_X4_readClause.2.1 M_X4_readClause.2.2.1 M_X4_readClause.2.2.2 ∈ dp_tb ∧ Cond.initialized M_X4_readClause.1.cls ∈ dp_tb ∧ M_X4_readClause.2.2.1 ≤ 40 ∧ (M_X4_readClause.1.cls ≠ "java/lang/invoke/MethodHandle" ∧ M_X4_readClause.1.cls ≠ "java/lang/invoke/VarHandle") := ⟨cmC_X4.1, (dp_m 373 (by exact rfl) rfl), cmC_X4.2.1, by decide, cmC_X4.2.2⟩
set_option maxRecDepth 100000 in
theorem cm_X8_value : plainName M_X8_value.1.cls = true ∧ Cond.code M_X8_value.1 M_X8_value.2.1 M_X8_value.2.2.1 M_X8_value.2.2.2 ∈ dp_tb ∧ Cond.initialized M_X8_value.1.cls ∈ dp_tb ∧ M_X8_value.2.2.1 ≤ 40 ∧ (M_X8_value.1.cls ≠ "java/lang/invoke/MethodHandle" ∧ M_X8_value.1.cls ≠ "java/lang/invoke/VarHandle") := ⟨cmC_X8.1, (dp_m 377 (by exact rfl) rfl), cmC_X8.2.1, by decide, cmC_X8.2.2⟩
set_option maxRecDepth 100000 in
theorem cm_X4_readLiteral : plainName M_X4_readLiteral.1.cls = true ∧ Cond.code M_X4_readLiteral.1 M_X4_readLiteral.2.1 M_X4_readLiteral.2.2.1 M_X4_readLiteral.2.2.2 ∈ dp_tb ∧ Cond.initialized M_X4_readLiteral.1.cls ∈ dp_tb ∧ M_X4_readLiteral.2.2.1 ≤ 40 ∧ (M_X4_readLiteral.1.cls ≠ "java/lang/invoke/MethodHandle" ∧ M_X4_readLiteral.1.cls ≠ "java/lang/invoke/VarHandle") := ⟨cmC_X4.1, (dp_m 382 (by exact rfl) rfl), cmC_X4.2.1, by decide, cmC_X4.2.2⟩
set_option maxRecDepth 100000 in
theorem cm_X4_passed : plainName M_X4_passed.1.cls = true ∧ Cond.code M_X4_passed.1 M_X4_passed.2.1 M_X4_passed.2.2.1 M_X4_passed.2.2.2 ∈ dp_tb ∧ Cond.initialized M_X4_passed.1.cls ∈ dp_tb ∧ M_X4_passed.2.2.1 ≤ 40 ∧ (M_X4_passed.1.cls ≠ "java/lang/invoke/MethodHandle" ∧ M_X4_passed.1.cls ≠ "java/lang/invoke/VarHandle") := ⟨cmC_X4.1, (dp_m 385 (by exact rfl) rfl), cmC_X4.2.1, by decide, cmC_X4.2.2⟩
set_option maxRecDepth 100000 in
theorem cm_X8_start : plainName M_X8_start.1.cls = true ∧ Cond.code M_X8_start.1 M_X8_start.2.1 M_X8_start.2.2.1 M_X8_start.2.2.2 ∈ dp_tb ∧ Cond.initialized M_X8_start.1.cls ∈ dp_tb ∧ M_X8_start.2.2.1 ≤ 40 ∧ (M_X8_start.1.cls ≠ "java/lang/invoke/MethodHandle" ∧ M_X8_start.1.cls ≠ "java/lang/invoke/VarHandle") := ⟨cmC_X8.1, (dp_m 389 (by exact rfl) rfl), cmC_X8.2.1, by decide, cmC_X8.2.2⟩
set_option maxRecDepth 100000 in
theorem cm_X11_takeClauses : plainName M_X11_takeClauses.1.cls = true ∧ Cond.code M_X11_takeClauses.1 M_X11_takeClauses.2.1 M_X11_takeClauses.2.2.1 M_X11_takeClauses.2.2.2 ∈ dp_tb ∧ Cond.initialized M_X11_takeClauses.1.cls ∈ dp_tb ∧ M_X11_takeClauses.2.2.1 ≤ 40 ∧ (M_X11_takeClauses.1.cls ≠ "java/lang/invoke/MethodHandle" ∧ M_X11_takeClauses.1.cls ≠ "java/lang/invoke/VarHandle") := ⟨cmC_X11.1, (dp_m 393 (by exact rfl) rfl), cmC_X11.2.1, by decide, cmC_X11.2.2⟩
set_option maxRecDepth 100000 in
theorem cm_X4_clausesRead : plainName M_X4_clausesRead.1.cls = true ∧ Cond.code M_X4_clausesRead.1 M_X4_clausesRead.2.1 M_X4_clausesRead.2.2.1 M_X4_clausesRead.2.2.2 ∈ dp_tb ∧ Cond.initialized M_X4_clausesRead.1.cls ∈ dp_tb ∧ M_X4_clausesRead.2.2.1 ≤ 40 ∧ (M_X4_clausesRead.1.cls ≠ "java/lang/invoke/MethodHandle" ∧ M_X4_clausesRead.1.cls ≠ "java/lang/invoke/VarHandle") := ⟨cmC_X4.1, (dp_m 397 (by exact rfl) rfl), cmC_X4.2.1, by decide, cmC_X4.2.2⟩
set_option maxRecDepth 100000 in
theorem cm_X4_sideOf : plainName M_X4_sideOf.1.cls = true ∧ Cond.code M_X4_sideOf.1 M_X4_sideOf.2.1 M_X4_sideOf.2.2.1 M_X4_sideOf.2.2.2 ∈ dp_tb ∧ Cond.initialized M_X4_sideOf.1.cls ∈ dp_tb ∧ M_X4_sideOf.2.2.1 ≤ 40 ∧ (M_X4_sideOf.1.cls ≠ "java/lang/invoke/MethodHandle" ∧ M_X4_sideOf.1.cls ≠ "java/lang/invoke/VarHandle") := ⟨cmC_X4.1, (dp_m 402 (by exact rfl) rfl), cmC_X4.2.1, by decide, cmC_X4.2.2⟩
set_option maxRecDepth 100000 in
theorem cm_X4_at : plainName M_X4_at.1.cls = true ∧ Cond.code M_X4_at.1 M_X4_at.2.1 M_X4_at.2.2.1 M_X4_at.2.2.2 ∈ dp_tb ∧ Cond.initialized M_X4_at.1.cls ∈ dp_tb ∧ M_X4_at.2.2.1 ≤ 40 ∧ (M_X4_at.1.cls ≠ "java/lang/invoke/MethodHandle" ∧ M_X4_at.1.cls ≠ "java/lang/invoke/VarHandle") := ⟨cmC_X4.1, (dp_m 405 (by exact rfl) rfl), cmC_X4.2.1, by decide, cmC_X4.2.2⟩
set_option maxRecDepth 100000 in
theorem cm_X4_plainOf : plainName M_X4_plainOf.1.cls = true ∧ Cond.code M_X4_plainOf.1 M_X4_plainOf.2.1 M_X4_plainOf.2.2.1 M_X4_plainOf.2.2.2 ∈ dp_tb ∧ Cond.initialized M_X4_plainOf.1.cls ∈ dp_tb ∧ M_X4_plainOf.2.2.1 ≤ 40 ∧ (M_X4_plainOf.1.cls ≠ "java/lang/invoke/MethodHandle" ∧ M_X4_plainOf.1.cls ≠ "java/lang/invoke/VarHandle") := ⟨cmC_X4.1, (dp_m 409 (by exact rfl) rfl), cmC_X4.2.1, by decide, cmC_X4.2.2⟩
set_option maxRecDepth 100000 in
theorem cm_X4_turnedOf : plainName M_X4_turnedOf.1.cls = true ∧ Cond.code M_X4_turnedOf.1 M_X4_turnedOf.2.1 M_X4_turnedOf.2.2.1 M_X4_turnedOf.2.2.2 ∈ dp_tb ∧ Cond.initialized M_X4_turnedOf.1.cls ∈ dp_tb ∧ M_X4_turnedOf.2.2.1 ≤ 40 ∧ (M_X4_turnedOf.1.cls ≠ "java/lang/invoke/MethodHandle" ∧ M_X4_turnedOf.1.cls ≠ "java/lang/invoke/VarHandle") := ⟨cmC_X4.1, (dp_m 413 (by exact rfl) rfl), cmC_X4.2.1, by decide, cmC_X4.2.2⟩
set_option maxRecDepth 100000 in
theorem cm_X3_becomeClause : plainName M_X3_becomeClause.1.cls = true ∧ Cond.code M_X3_becomeClause.1 M_X3_becomeClause.2.1 M_X3_becomeClause.2.2.1 M_X3_becomeClause.2.2.2 ∈ dp_tb ∧ Cond.initialized M_X3_becomeClause.1.cls ∈ dp_tb ∧ M_X3_becomeClause.2.2.1 ≤ 40 ∧ (M_X3_becomeClause.1.cls ≠ "java/lang/invoke/MethodHandle" ∧ M_X3_becomeClause.1.cls ≠ "java/lang/invoke/VarHandle") := ⟨cmC_X3.1, (dp_m 417 (by exact rfl) rfl), cmC_X3.2.1, by decide, cmC_X3.2.2⟩
set_option maxRecDepth 100000 in
theorem cm_X7_learn : plainName M_X7_learn.1.cls = true ∧ Cond.code M_X7_learn.1 M_X7_learn.2.1 M_X7_learn.2.2.1 M_X7_learn.2.2.2 ∈ dp_tb ∧ Cond.initialized M_X7_learn.1.cls ∈ dp_tb ∧ M_X7_learn.2.2.1 ≤ 40 ∧ (M_X7_learn.1.cls ≠ "java/lang/invoke/MethodHandle" ∧ M_X7_learn.1.cls ≠ "java/lang/invoke/VarHandle") := ⟨cmC_X7.1, (dp_m 421 (by exact rfl) rfl), cmC_X7.2.1, by decide, cmC_X7.2.2⟩
set_option maxRecDepth 100000 in
theorem cm_X3_gatherWorlds : plainName M_X3_gatherWorlds.1.cls = true ∧ Cond.code M_X3_gatherWorlds.1 M_X3_gatherWorlds.2.1 M_X3_gatherWorlds.2.2.1 M_X3_gatherWorlds.2.2.2 ∈ dp_tb ∧ Cond.initialized M_X3_gatherWorlds.1.cls ∈ dp_tb ∧ M_X3_gatherWorlds.2.2.1 ≤ 40 ∧ (M_X3_gatherWorlds.1.cls ≠ "java/lang/invoke/MethodHandle" ∧ M_X3_gatherWorlds.1.cls ≠ "java/lang/invoke/VarHandle") := ⟨cmC_X3.1, (dp_m 425 (by exact rfl) rfl), cmC_X3.2.1, by decide, cmC_X3.2.2⟩
set_option maxRecDepth 100000 in
theorem cm_X10_joinWhere : plainName M_X10_joinWhere.1.cls = true ∧ Cond.code M_X10_joinWhere.1 M_X10_joinWhere.2.1 M_X10_joinWhere.2.2.1 M_X10_joinWhere.2.2.2 ∈ dp_tb ∧ Cond.initialized M_X10_joinWhere.1.cls ∈ dp_tb ∧ M_X10_joinWhere.2.2.1 ≤ 40 ∧ (M_X10_joinWhere.1.cls ≠ "java/lang/invoke/MethodHandle" ∧ M_X10_joinWhere.1.cls ≠ "java/lang/invoke/VarHandle") := ⟨cmC_X10.1, (dp_m 430 (by exact rfl) rfl), cmC_X10.2.1, by decide, cmC_X10.2.2⟩
set_option maxRecDepth 100000 in
theorem cm_X10_partWhereSo : plainName M_X10_partWhereSo.1.cls = true ∧ Cond.code M_X10_partWhereSo.1 M_X10_partWhereSo.2.1 M_X10_partWhereSo.2.2.1 M_X10_partWhereSo.2.2.2 ∈ dp_tb ∧ Cond.initialized M_X10_partWhereSo.1.cls ∈ dp_tb ∧ M_X10_partWhereSo.2.2.1 ≤ 40 ∧ (M_X10_partWhereSo.1.cls ≠ "java/lang/invoke/MethodHandle" ∧ M_X10_partWhereSo.1.cls ≠ "java/lang/invoke/VarHandle") := ⟨cmC_X10.1, (dp_m 433 (by exact rfl) rfl), cmC_X10.2.1, by decide, cmC_X10.2.2⟩
set_option maxRecDepth 100000 in
theorem cm_X10_meet : plainName M_X10_meet.1.cls = true ∧ Cond.code M_X10_meet.1 M_X10_meet.2.1 M_X10_meet.2.2.1 M_X10_meet.2.2.2 ∈ dp_tb ∧ Cond.initialized M_X10_meet.1.cls ∈ dp_tb ∧ M_X10_meet.2.2.1 ≤ 40 ∧ (M_X10_meet.1.cls ≠ "java/lang/invoke/MethodHandle" ∧ M_X10_meet.1.cls ≠ "java/lang/invoke/VarHandle") := ⟨cmC_X10.1, (dp_m 439 (by exact rfl) rfl), cmC_X10.2.1, by decide, cmC_X10.2.2⟩
set_option maxRecDepth 100000 in
theorem cm_X3_letters : plainName M_X3_letters.1.cls = true ∧ Cond.code M_X3_letters.1 M_X3_letters.2.1 M_X3_letters.2.2.1 M_X3_letters.2.2.2 ∈ dp_tb ∧ Cond.initialized M_X3_letters.1.cls ∈ dp_tb ∧ M_X3_letters.2.2.1 ≤ 40 ∧ (M_X3_letters.1.cls ≠ "java/lang/invoke/MethodHandle" ∧ M_X3_letters.1.cls ≠ "java/lang/invoke/VarHandle") := ⟨cmC_X3.1, (dp_m 443 (by exact rfl) rfl), cmC_X3.2.1, by decide, cmC_X3.2.2⟩
set_option maxRecDepth 100000 in
theorem cm_X10_become : plainName M_X10_become.1.cls = true ∧ Cond.code M_X10_become.1 M_X10_become.2.1 M_X10_become.2.2.1 M_X10_become.2.2.2 ∈ dp_tb ∧ Cond.initialized M_X10_become.1.cls ∈ dp_tb ∧ M_X10_become.2.2.1 ≤ 40 ∧ (M_X10_become.1.cls ≠ "java/lang/invoke/MethodHandle" ∧ M_X10_become.1.cls ≠ "java/lang/invoke/VarHandle") := ⟨cmC_X10.1, (dp_m 447 (by exact rfl) rfl), cmC_X10.2.1, by decide, cmC_X10.2.2⟩
set_option maxRecDepth 100000 in
theorem cm_X7_sharedLetters : plainName M_X7_sharedLetters.1.cls = true ∧ Cond.code M_X7_sharedLetters.1 M_X7_sharedLetters.2.1 M_X7_sharedLetters.2.2.1 M_X7_sharedLetters.2.2.2 ∈ dp_tb ∧ Cond.initialized M_X7_sharedLetters.1.cls ∈ dp_tb ∧ M_X7_sharedLetters.2.2.1 ≤ 40 ∧ (M_X7_sharedLetters.1.cls ≠ "java/lang/invoke/MethodHandle" ∧ M_X7_sharedLetters.1.cls ≠ "java/lang/invoke/VarHandle") := ⟨cmC_X7.1, (dp_m 451 (by exact rfl) rfl), cmC_X7.2.1, by decide, cmC_X7.2.2⟩
set_option maxRecDepth 100000 in
theorem cm_X10_spreadBut : plainName M_X10_spreadBut.1.cls = true ∧ Cond.code M_X10_spreadBut.1 M_X10_spreadBut.2.1 M_X10_spreadBut.2.2.1 M_X10_spreadBut.2.2.2 ∈ dp_tb ∧ Cond.initialized M_X10_spreadBut.1.cls ∈ dp_tb ∧ M_X10_spreadBut.2.2.1 ≤ 40 ∧ (M_X10_spreadBut.1.cls ≠ "java/lang/invoke/MethodHandle" ∧ M_X10_spreadBut.1.cls ≠ "java/lang/invoke/VarHandle") := ⟨cmC_X10.1, (dp_m 455 (by exact rfl) rfl), cmC_X10.2.1, by decide, cmC_X10.2.2⟩
set_option maxRecDepth 100000 in
theorem cm_X10_spread : plainName M_X10_spread.1.cls = true ∧ Cond.code M_X10_spread.1 M_X10_spread.2.1 M_X10_spread.2.2.1 M_X10_spread.2.2.2 ∈ dp_tb ∧ Cond.initialized M_X10_spread.1.cls ∈ dp_tb ∧ M_X10_spread.2.2.1 ≤ 40 ∧ (M_X10_spread.1.cls ≠ "java/lang/invoke/MethodHandle" ∧ M_X10_spread.1.cls ≠ "java/lang/invoke/VarHandle") := ⟨cmC_X10.1, (dp_m 459 (by exact rfl) rfl), cmC_X10.2.1, by decide, cmC_X10.2.2⟩
set_option maxRecDepth 100000 in
theorem cm_X10_partTurned : plainName M_X10_partTurned.1.cls = true ∧ Cond.code M_X10_partTurned.1 M_X10_partTurned.2.1 M_X10_partTurned.2.2.1 M_X10_partTurned.2.2.2 ∈ dp_tb ∧ Cond.initialized M_X10_partTurned.1.cls ∈ dp_tb ∧ M_X10_partTurned.2.2.1 ≤ 40 ∧ (M_X10_partTurned.1.cls ≠ "java/lang/invoke/MethodHandle" ∧ M_X10_partTurned.1.cls ≠ "java/lang/invoke/VarHandle") := ⟨cmC_X10.1, (dp_m 463 (by exact rfl) rfl), cmC_X10.2.1, by decide, cmC_X10.2.2⟩
set_option maxRecDepth 100000 in
theorem cm_X0_learn : plainName M_X0_learn.1.cls = true ∧ Cond.code M_X0_learn.1 M_X0_learn.2.1 M_X0_learn.2.2.1 M_X0_learn.2.2.2 ∈ dp_tb ∧ Cond.initialized M_X0_learn.1.cls ∈ dp_tb ∧ M_X0_learn.2.2.1 ≤ 40 ∧ (M_X0_learn.1.cls ≠ "java/lang/invoke/MethodHandle" ∧ M_X0_learn.1.cls ≠ "java/lang/invoke/VarHandle") := ⟨cmC_X0.1, (dp_m 468 (by exact rfl) rfl), cmC_X0.2.1, by decide, cmC_X0.2.2⟩
set_option maxRecDepth 100000 in
theorem cm_X3_sayAsClause : plainName M_X3_sayAsClause.1.cls = true ∧ Cond.code M_X3_sayAsClause.1 M_X3_sayAsClause.2.1 M_X3_sayAsClause.2.2.1 M_X3_sayAsClause.2.2.2 ∈ dp_tb ∧ Cond.initialized M_X3_sayAsClause.1.cls ∈ dp_tb ∧ M_X3_sayAsClause.2.2.1 ≤ 40 ∧ (M_X3_sayAsClause.1.cls ≠ "java/lang/invoke/MethodHandle" ∧ M_X3_sayAsClause.1.cls ≠ "java/lang/invoke/VarHandle") := ⟨cmC_X3.1, (dp_m 475 (by exact rfl) rfl), cmC_X3.2.1, by decide, cmC_X3.2.2⟩
set_option maxRecDepth 100000 in
theorem cm_X11_forgetProof : plainName M_X11_forgetProof.1.cls = true ∧ Cond.code M_X11_forgetProof.1 M_X11_forgetProof.2.1 M_X11_forgetProof.2.2.1 M_X11_forgetProof.2.2.2 ∈ dp_tb ∧ Cond.initialized M_X11_forgetProof.1.cls ∈ dp_tb ∧ M_X11_forgetProof.2.2.1 ≤ 40 ∧ (M_X11_forgetProof.1.cls ≠ "java/lang/invoke/MethodHandle" ∧ M_X11_forgetProof.1.cls ≠ "java/lang/invoke/VarHandle") := ⟨cmC_X11.1, (dp_m 483 (by exact rfl) rfl), cmC_X11.2.1, by decide, cmC_X11.2.2⟩
set_option maxRecDepth 100000 in
theorem cm_X11_firstEmptyLine : plainName M_X11_firstEmptyLine.1.cls = true ∧ Cond.code M_X11_firstEmptyLine.1 M_X11_firstEmptyLine.2.1 M_X11_firstEmptyLine.2.2.1 M_X11_firstEmptyLine.2.2.2 ∈ dp_tb ∧ Cond.initialized M_X11_firstEmptyLine.1.cls ∈ dp_tb ∧ M_X11_firstEmptyLine.2.2.1 ≤ 40 ∧ (M_X11_firstEmptyLine.1.cls ≠ "java/lang/invoke/MethodHandle" ∧ M_X11_firstEmptyLine.1.cls ≠ "java/lang/invoke/VarHandle") := ⟨cmC_X11.1, (dp_m 487 (by exact rfl) rfl), cmC_X11.2.1, by decide, cmC_X11.2.2⟩
set_option maxRecDepth 100000 in
theorem cm_X3_literals : plainName M_X3_literals.1.cls = true ∧ Cond.code M_X3_literals.1 M_X3_literals.2.1 M_X3_literals.2.2.1 M_X3_literals.2.2.2 ∈ dp_tb ∧ Cond.initialized M_X3_literals.1.cls ∈ dp_tb ∧ M_X3_literals.2.2.1 ≤ 40 ∧ (M_X3_literals.1.cls ≠ "java/lang/invoke/MethodHandle" ∧ M_X3_literals.1.cls ≠ "java/lang/invoke/VarHandle") := ⟨cmC_X3.1, (dp_m 491 (by exact rfl) rfl), cmC_X3.2.1, by decide, cmC_X3.2.2⟩
theorem cm_J6_bitCount_0f7a4 : plainName M_J6_bitCount_0f7a4.1.cls = true ∧ Cond.code M_J6_bitCount_0f7a4.1 M_J6_bitCount_0f7a4.2.1 M_J6_bitCount_0f7a4.2.2.1 M_J6_bitCount_0f7a4.2.2.2 ∈ dp_tb ∧ Cond.initialized M_J6_bitCount_0f7a4.1.cls ∈ dp_tb ∧ M_J6_bitCount_0f7a4.2.2.1 ≤ 40 ∧ (M_J6_bitCount_0f7a4.1.cls ≠ "java/lang/invoke/MethodHandle" ∧ M_J6_bitCount_0f7a4.1.cls ≠ "java/lang/invoke/VarHandle") := ⟨by decide +kernel, (dp_m 494 (by decide +kernel) rfl), (dp_m 15 (by decide +kernel) rfl), by decide, by decide +kernel, by decide +kernel⟩
set_option maxRecDepth 100000 in
theorem cm_X11_proof : plainName M_X11_proof.1.cls = true ∧ Cond.code M_X11_proof.1 M_X11_proof.2.1 M_X11_proof.2.2.1 M_X11_proof.2.2.2 ∈ dp_tb ∧ Cond.initialized M_X11_proof.1.cls ∈ dp_tb ∧ M_X11_proof.2.2.1 ≤ 40 ∧ (M_X11_proof.1.cls ≠ "java/lang/invoke/MethodHandle" ∧ M_X11_proof.1.cls ≠ "java/lang/invoke/VarHandle") := ⟨cmC_X11.1, (dp_m 501 (by exact rfl) rfl), cmC_X11.2.1, by decide, cmC_X11.2.2⟩
set_option maxRecDepth 100000 in
theorem cm_X4_readSteps : plainName M_X4_readSteps.1.cls = true ∧ Cond.code M_X4_readSteps.1 M_X4_readSteps.2.1 M_X4_readSteps.2.2.1 M_X4_readSteps.2.2.2 ∈ dp_tb ∧ Cond.initialized M_X4_readSteps.1.cls ∈ dp_tb ∧ M_X4_readSteps.2.2.1 ≤ 40 ∧ (M_X4_readSteps.1.cls ≠ "java/lang/invoke/MethodHandle" ∧ M_X4_readSteps.1.cls ≠ "java/lang/invoke/VarHandle") := ⟨cmC_X4.1, (dp_m 505 (by exact rfl) rfl), cmC_X4.2.1, by decide, cmC_X4.2.2⟩
set_option maxRecDepth 100000 in
theorem cm_X4_readStep : plainName M_X4_readStep.1.cls = true ∧ Cond.code M_X4_readStep.1 M_X4_readStep.2.1 M_X4_readStep.2.2.1 M_X4_readStep.2.2.2 ∈ dp_tb ∧ Cond.initialized M_X4_readStep.1.cls ∈ dp_tb ∧ M_X4_readStep.2.2.1 ≤ 40 ∧ (M_X4_readStep.1.cls ≠ "java/lang/invoke/MethodHandle" ∧ M_X4_readStep.1.cls ≠ "java/lang/invoke/VarHandle") := ⟨cmC_X4.1, (dp_m 509 (by exact rfl) rfl), cmC_X4.2.1, by decide, cmC_X4.2.2⟩
set_option maxRecDepth 100000 in
theorem cm_X11_takeSteps : plainName M_X11_takeSteps.1.cls = true ∧ Cond.code M_X11_takeSteps.1 M_X11_takeSteps.2.1 M_X11_takeSteps.2.2.1 M_X11_takeSteps.2.2.2 ∈ dp_tb ∧ Cond.initialized M_X11_takeSteps.1.cls ∈ dp_tb ∧ M_X11_takeSteps.2.2.1 ≤ 40 ∧ (M_X11_takeSteps.1.cls ≠ "java/lang/invoke/MethodHandle" ∧ M_X11_takeSteps.1.cls ≠ "java/lang/invoke/VarHandle") := ⟨cmC_X11.1, (dp_m 513 (by exact rfl) rfl), cmC_X11.2.1, by decide, cmC_X11.2.2⟩
set_option maxRecDepth 100000 in
theorem cm_X4_stepsRead : plainName M_X4_stepsRead.1.cls = true ∧ Cond.code M_X4_stepsRead.1 M_X4_stepsRead.2.1 M_X4_stepsRead.2.2.1 M_X4_stepsRead.2.2.2 ∈ dp_tb ∧ Cond.initialized M_X4_stepsRead.1.cls ∈ dp_tb ∧ M_X4_stepsRead.2.2.1 ≤ 40 ∧ (M_X4_stepsRead.1.cls ≠ "java/lang/invoke/MethodHandle" ∧ M_X4_stepsRead.1.cls ≠ "java/lang/invoke/VarHandle") := ⟨cmC_X4.1, (dp_m 517 (by exact rfl) rfl), cmC_X4.2.1, by decide, cmC_X4.2.2⟩
set_option maxRecDepth 100000 in
theorem cm_X11_makeLine : plainName M_X11_makeLine.1.cls = true ∧ Cond.code M_X11_makeLine.1 M_X11_makeLine.2.1 M_X11_makeLine.2.2.1 M_X11_makeLine.2.2.2 ∈ dp_tb ∧ Cond.initialized M_X11_makeLine.1.cls ∈ dp_tb ∧ M_X11_makeLine.2.2.1 ≤ 40 ∧ (M_X11_makeLine.1.cls ≠ "java/lang/invoke/MethodHandle" ∧ M_X11_makeLine.1.cls ≠ "java/lang/invoke/VarHandle") := ⟨cmC_X11.1, (dp_m 521 (by exact rfl) rfl), cmC_X11.2.1, by decide, cmC_X11.2.2⟩
set_option maxRecDepth 100000 in
theorem cm_X4_firstOf : plainName M_X4_firstOf.1.cls = true ∧ Cond.code M_X4_firstOf.1 M_X4_firstOf.2.1 M_X4_firstOf.2.2.1 M_X4_firstOf.2.2.2 ∈ dp_tb ∧ Cond.initialized M_X4_firstOf.1.cls ∈ dp_tb ∧ M_X4_firstOf.2.2.1 ≤ 40 ∧ (M_X4_firstOf.1.cls ≠ "java/lang/invoke/MethodHandle" ∧ M_X4_firstOf.1.cls ≠ "java/lang/invoke/VarHandle") := ⟨cmC_X4.1, (dp_m 525 (by exact rfl) rfl), cmC_X4.2.1, by decide, cmC_X4.2.2⟩
set_option maxRecDepth 100000 in
theorem cm_X4_secondOf : plainName M_X4_secondOf.1.cls = true ∧ Cond.code M_X4_secondOf.1 M_X4_secondOf.2.1 M_X4_secondOf.2.2.1 M_X4_secondOf.2.2.2 ∈ dp_tb ∧ Cond.initialized M_X4_secondOf.1.cls ∈ dp_tb ∧ M_X4_secondOf.2.2.1 ≤ 40 ∧ (M_X4_secondOf.1.cls ≠ "java/lang/invoke/MethodHandle" ∧ M_X4_secondOf.1.cls ≠ "java/lang/invoke/VarHandle") := ⟨cmC_X4.1, (dp_m 529 (by exact rfl) rfl), cmC_X4.2.1, by decide, cmC_X4.2.2⟩
set_option maxRecDepth 100000 in
theorem cm_X4_letterOf : plainName M_X4_letterOf.1.cls = true ∧ Cond.code M_X4_letterOf.1 M_X4_letterOf.2.1 M_X4_letterOf.2.2.1 M_X4_letterOf.2.2.2 ∈ dp_tb ∧ Cond.initialized M_X4_letterOf.1.cls ∈ dp_tb ∧ M_X4_letterOf.2.2.1 ≤ 40 ∧ (M_X4_letterOf.1.cls ≠ "java/lang/invoke/MethodHandle" ∧ M_X4_letterOf.1.cls ≠ "java/lang/invoke/VarHandle") := ⟨cmC_X4.1, (dp_m 533 (by exact rfl) rfl), cmC_X4.2.1, by decide, cmC_X4.2.2⟩
set_option maxRecDepth 100000 in
theorem cm_X11_lineAt : plainName M_X11_lineAt.1.cls = true ∧ Cond.code M_X11_lineAt.1 M_X11_lineAt.2.1 M_X11_lineAt.2.2.1 M_X11_lineAt.2.2.2 ∈ dp_tb ∧ Cond.initialized M_X11_lineAt.1.cls ∈ dp_tb ∧ M_X11_lineAt.2.2.1 ≤ 40 ∧ (M_X11_lineAt.1.cls ≠ "java/lang/invoke/MethodHandle" ∧ M_X11_lineAt.1.cls ≠ "java/lang/invoke/VarHandle") := ⟨cmC_X11.1, (dp_m 537 (by exact rfl) rfl), cmC_X11.2.1, by decide, cmC_X11.2.2⟩
set_option maxRecDepth 100000 in
theorem cm_X3_becomeCut : plainName M_X3_becomeCut.1.cls = true ∧ Cond.code M_X3_becomeCut.1 M_X3_becomeCut.2.1 M_X3_becomeCut.2.2.1 M_X3_becomeCut.2.2.2 ∈ dp_tb ∧ Cond.initialized M_X3_becomeCut.1.cls ∈ dp_tb ∧ M_X3_becomeCut.2.2.1 ≤ 40 ∧ (M_X3_becomeCut.1.cls ≠ "java/lang/invoke/MethodHandle" ∧ M_X3_becomeCut.1.cls ≠ "java/lang/invoke/VarHandle") := ⟨cmC_X3.1, (dp_m 541 (by exact rfl) rfl), cmC_X3.2.1, by decide, cmC_X3.2.2⟩
set_option maxRecDepth 100000 in
theorem cm_X3_rememberCut : plainName M_X3_rememberCut.1.cls = true ∧ Cond.code M_X3_rememberCut.1 M_X3_rememberCut.2.1 M_X3_rememberCut.2.2.1 M_X3_rememberCut.2.2.2 ∈ dp_tb ∧ Cond.initialized M_X3_rememberCut.1.cls ∈ dp_tb ∧ M_X3_rememberCut.2.2.1 ≤ 40 ∧ (M_X3_rememberCut.1.cls ≠ "java/lang/invoke/MethodHandle" ∧ M_X3_rememberCut.1.cls ≠ "java/lang/invoke/VarHandle") := ⟨cmC_X3.1, (dp_m 545 (by exact rfl) rfl), cmC_X3.2.1, by decide, cmC_X3.2.2⟩
set_option maxRecDepth 100000 in
theorem cm_X7_ownerOf : plainName M_X7_ownerOf.1.cls = true ∧ Cond.code M_X7_ownerOf.1 M_X7_ownerOf.2.1 M_X7_ownerOf.2.2.1 M_X7_ownerOf.2.2.2 ∈ dp_tb ∧ Cond.initialized M_X7_ownerOf.1.cls ∈ dp_tb ∧ M_X7_ownerOf.2.2.1 ≤ 40 ∧ (M_X7_ownerOf.1.cls ≠ "java/lang/invoke/MethodHandle" ∧ M_X7_ownerOf.1.cls ≠ "java/lang/invoke/VarHandle") := ⟨cmC_X7.1, (dp_m 549 (by exact rfl) rfl), cmC_X7.2.1, by decide, cmC_X7.2.2⟩
set_option maxRecDepth 100000 in
theorem cm_X3_sayAsCut : plainName M_X3_sayAsCut.1.cls = true ∧ Cond.code M_X3_sayAsCut.1 M_X3_sayAsCut.2.1 M_X3_sayAsCut.2.2.1 M_X3_sayAsCut.2.2.2 ∈ dp_tb ∧ Cond.initialized M_X3_sayAsCut.1.cls ∈ dp_tb ∧ M_X3_sayAsCut.2.2.1 ≤ 40 ∧ (M_X3_sayAsCut.1.cls ≠ "java/lang/invoke/MethodHandle" ∧ M_X3_sayAsCut.1.cls ≠ "java/lang/invoke/VarHandle") := ⟨cmC_X3.1, (dp_m 553 (by exact rfl) rfl), cmC_X3.2.1, by decide, cmC_X3.2.2⟩
set_option maxRecDepth 100000 in
theorem cm_X10_choose : plainName M_X10_choose.1.cls = true ∧ Cond.code M_X10_choose.1 M_X10_choose.2.1 M_X10_choose.2.2.1 M_X10_choose.2.2.2 ∈ dp_tb ∧ Cond.initialized M_X10_choose.1.cls ∈ dp_tb ∧ M_X10_choose.2.2.1 ≤ 40 ∧ (M_X10_choose.1.cls ≠ "java/lang/invoke/MethodHandle" ∧ M_X10_choose.1.cls ≠ "java/lang/invoke/VarHandle") := ⟨cmC_X10.1, (dp_m 557 (by exact rfl) rfl), cmC_X10.2.1, by decide, cmC_X10.2.2⟩
set_option maxRecDepth 100000 in
theorem cm_X3_joins : plainName M_X3_joins.1.cls = true ∧ Cond.code M_X3_joins.1 M_X3_joins.2.1 M_X3_joins.2.2.1 M_X3_joins.2.2.2 ∈ dp_tb ∧ Cond.initialized M_X3_joins.1.cls ∈ dp_tb ∧ M_X3_joins.2.2.1 ≤ 40 ∧ (M_X3_joins.1.cls ≠ "java/lang/invoke/MethodHandle" ∧ M_X3_joins.1.cls ≠ "java/lang/invoke/VarHandle") := ⟨cmC_X3.1, (dp_m 561 (by exact rfl) rfl), cmC_X3.2.1, by decide, cmC_X3.2.2⟩
set_option maxRecDepth 100000 in
theorem cm_X10_join : plainName M_X10_join.1.cls = true ∧ Cond.code M_X10_join.1 M_X10_join.2.1 M_X10_join.2.2.1 M_X10_join.2.2.2 ∈ dp_tb ∧ Cond.initialized M_X10_join.1.cls ∈ dp_tb ∧ M_X10_join.2.2.1 ≤ 40 ∧ (M_X10_join.1.cls ≠ "java/lang/invoke/MethodHandle" ∧ M_X10_join.1.cls ≠ "java/lang/invoke/VarHandle") := ⟨cmC_X10.1, (dp_m 565 (by exact rfl) rfl), cmC_X10.2.1, by decide, cmC_X10.2.2⟩
set_option maxRecDepth 100000 in
theorem cm_X11_wrong : plainName M_X11_wrong.1.cls = true ∧ Cond.code M_X11_wrong.1 M_X11_wrong.2.1 M_X11_wrong.2.2.1 M_X11_wrong.2.2.2 ∈ dp_tb ∧ Cond.initialized M_X11_wrong.1.cls ∈ dp_tb ∧ M_X11_wrong.2.2.1 ≤ 40 ∧ (M_X11_wrong.1.cls ≠ "java/lang/invoke/MethodHandle" ∧ M_X11_wrong.1.cls ≠ "java/lang/invoke/VarHandle") := ⟨cmC_X11.1, (dp_m 570 (by exact rfl) rfl), cmC_X11.2.1, by decide, cmC_X11.2.2⟩
set_option maxRecDepth 100000 in
theorem cm_X11_end : plainName M_X11_end.1.cls = true ∧ Cond.code M_X11_end.1 M_X11_end.2.1 M_X11_end.2.2.1 M_X11_end.2.2.2 ∈ dp_tb ∧ Cond.initialized M_X11_end.1.cls ∈ dp_tb ∧ M_X11_end.2.2.1 ≤ 40 ∧ (M_X11_end.1.cls ≠ "java/lang/invoke/MethodHandle" ∧ M_X11_end.1.cls ≠ "java/lang/invoke/VarHandle") := ⟨cmC_X11.1, (dp_m 574 (by exact rfl) rfl), cmC_X11.2.1, by decide, cmC_X11.2.2⟩
set_option maxRecDepth 100000 in
theorem cm_X11_line : plainName M_X11_line.1.cls = true ∧ Cond.code M_X11_line.1 M_X11_line.2.1 M_X11_line.2.2.1 M_X11_line.2.2.2 ∈ dp_tb ∧ Cond.initialized M_X11_line.1.cls ∈ dp_tb ∧ M_X11_line.2.2.1 ≤ 40 ∧ (M_X11_line.1.cls ≠ "java/lang/invoke/MethodHandle" ∧ M_X11_line.1.cls ≠ "java/lang/invoke/VarHandle") := ⟨cmC_X11.1, (dp_m 578 (by exact rfl) rfl), cmC_X11.2.1, by decide, cmC_X11.2.2⟩
set_option maxRecDepth 100000 in
theorem cm_X3_property : plainName M_X3_property.1.cls = true ∧ Cond.code M_X3_property.1 M_X3_property.2.1 M_X3_property.2.2.1 M_X3_property.2.2.2 ∈ dp_tb ∧ Cond.initialized M_X3_property.1.cls ∈ dp_tb ∧ M_X3_property.2.2.1 ≤ 40 ∧ (M_X3_property.1.cls ≠ "java/lang/invoke/MethodHandle" ∧ M_X3_property.1.cls ≠ "java/lang/invoke/VarHandle") := ⟨cmC_X3.1, (dp_m 582 (by exact rfl) rfl), cmC_X3.2.1, by decide, cmC_X3.2.2⟩
set_option maxRecDepth 100000 in
theorem cm_X11_side : plainName M_X11_side.1.cls = true ∧ Cond.code M_X11_side.1 M_X11_side.2.1 M_X11_side.2.2.1 M_X11_side.2.2.2 ∈ dp_tb ∧ Cond.initialized M_X11_side.1.cls ∈ dp_tb ∧ M_X11_side.2.2.1 ≤ 40 ∧ (M_X11_side.1.cls ≠ "java/lang/invoke/MethodHandle" ∧ M_X11_side.1.cls ≠ "java/lang/invoke/VarHandle") := ⟨cmC_X11.1, (dp_m 586 (by exact rfl) rfl), cmC_X11.2.1, by decide, cmC_X11.2.2⟩
set_option maxRecDepth 100000 in
theorem cm_X11_holds : plainName M_X11_holds.1.cls = true ∧ Cond.code M_X11_holds.1 M_X11_holds.2.1 M_X11_holds.2.2.1 M_X11_holds.2.2.2 ∈ dp_tb ∧ Cond.initialized M_X11_holds.1.cls ∈ dp_tb ∧ M_X11_holds.2.2.1 ≤ 40 ∧ (M_X11_holds.1.cls ≠ "java/lang/invoke/MethodHandle" ∧ M_X11_holds.1.cls ≠ "java/lang/invoke/VarHandle") := ⟨cmC_X11.1, (dp_m 590 (by exact rfl) rfl), cmC_X11.2.1, by decide, cmC_X11.2.2⟩
set_option maxRecDepth 100000 in
theorem cm_X11_isWorld : plainName M_X11_isWorld.1.cls = true ∧ Cond.code M_X11_isWorld.1 M_X11_isWorld.2.1 M_X11_isWorld.2.2.1 M_X11_isWorld.2.2.2 ∈ dp_tb ∧ Cond.initialized M_X11_isWorld.1.cls ∈ dp_tb ∧ M_X11_isWorld.2.2.1 ≤ 40 ∧ (M_X11_isWorld.1.cls ≠ "java/lang/invoke/MethodHandle" ∧ M_X11_isWorld.1.cls ≠ "java/lang/invoke/VarHandle") := ⟨cmC_X11.1, (dp_m 593 (by exact rfl) rfl), cmC_X11.2.1, by decide, cmC_X11.2.2⟩
set_option maxRecDepth 100000 in
theorem cm_X3_isSoIn : plainName M_X3_isSoIn.1.cls = true ∧ Cond.code M_X3_isSoIn.1 M_X3_isSoIn.2.1 M_X3_isSoIn.2.2.1 M_X3_isSoIn.2.2.2 ∈ dp_tb ∧ Cond.initialized M_X3_isSoIn.1.cls ∈ dp_tb ∧ M_X3_isSoIn.2.2.1 ≤ 40 ∧ (M_X3_isSoIn.1.cls ≠ "java/lang/invoke/MethodHandle" ∧ M_X3_isSoIn.1.cls ≠ "java/lang/invoke/VarHandle") := ⟨cmC_X3.1, (dp_m 597 (by exact rfl) rfl), cmC_X3.2.1, by decide, cmC_X3.2.2⟩
set_option maxRecDepth 100000 in
theorem cm_X11_worlds : plainName M_X11_worlds.1.cls = true ∧ Cond.code M_X11_worlds.1 M_X11_worlds.2.1 M_X11_worlds.2.2.1 M_X11_worlds.2.2.2 ∈ dp_tb ∧ Cond.initialized M_X11_worlds.1.cls ∈ dp_tb ∧ M_X11_worlds.2.2.1 ≤ 40 ∧ (M_X11_worlds.1.cls ≠ "java/lang/invoke/MethodHandle" ∧ M_X11_worlds.1.cls ≠ "java/lang/invoke/VarHandle") := ⟨cmC_X11.1, (dp_m 601 (by exact rfl) rfl), cmC_X11.2.1, by decide, cmC_X11.2.2⟩
set_option maxRecDepth 100000 in
theorem cm_X10_size : plainName M_X10_size.1.cls = true ∧ Cond.code M_X10_size.1 M_X10_size.2.1 M_X10_size.2.2.1 M_X10_size.2.2.2 ∈ dp_tb ∧ Cond.initialized M_X10_size.1.cls ∈ dp_tb ∧ M_X10_size.2.2.1 ≤ 40 ∧ (M_X10_size.1.cls ≠ "java/lang/invoke/MethodHandle" ∧ M_X10_size.1.cls ≠ "java/lang/invoke/VarHandle") := ⟨cmC_X10.1, (dp_m 605 (by exact rfl) rfl), cmC_X10.2.1, by decide, cmC_X10.2.2⟩
theorem cm_J13_bitCount_95d88 : plainName M_J13_bitCount_95d88.1.cls = true ∧ Cond.code M_J13_bitCount_95d88.1 M_J13_bitCount_95d88.2.1 M_J13_bitCount_95d88.2.2.1 M_J13_bitCount_95d88.2.2.2 ∈ dp_tb ∧ Cond.initialized M_J13_bitCount_95d88.1.cls ∈ dp_tb ∧ M_J13_bitCount_95d88.2.2.1 ≤ 40 ∧ (M_J13_bitCount_95d88.1.cls ≠ "java/lang/invoke/MethodHandle" ∧ M_J13_bitCount_95d88.1.cls ≠ "java/lang/invoke/VarHandle") := ⟨by decide +kernel, (dp_m 608 (by decide +kernel) rfl), (dp_m 16 (by decide +kernel) rfl), by decide, by decide +kernel, by decide +kernel⟩
set_option maxRecDepth 100000 in
theorem cm_X10_sizeWith : plainName M_X10_sizeWith.1.cls = true ∧ Cond.code M_X10_sizeWith.1 M_X10_sizeWith.2.1 M_X10_sizeWith.2.2.1 M_X10_sizeWith.2.2.2 ∈ dp_tb ∧ Cond.initialized M_X10_sizeWith.1.cls ∈ dp_tb ∧ M_X10_sizeWith.2.2.1 ≤ 40 ∧ (M_X10_sizeWith.1.cls ≠ "java/lang/invoke/MethodHandle" ∧ M_X10_sizeWith.1.cls ≠ "java/lang/invoke/VarHandle") := ⟨cmC_X10.1, (dp_m 615 (by exact rfl) rfl), cmC_X10.2.1, by decide, cmC_X10.2.2⟩
set_option maxRecDepth 100000 in
theorem cm_X11_says : plainName M_X11_says.1.cls = true ∧ Cond.code M_X11_says.1 M_X11_says.2.1 M_X11_says.2.2.1 M_X11_says.2.2.2 ∈ dp_tb ∧ Cond.initialized M_X11_says.1.cls ∈ dp_tb ∧ M_X11_says.2.2.1 ≤ 40 ∧ (M_X11_says.1.cls ≠ "java/lang/invoke/MethodHandle" ∧ M_X11_says.1.cls ≠ "java/lang/invoke/VarHandle") := ⟨cmC_X11.1, (dp_m 619 (by exact rfl) rfl), cmC_X11.2.1, by decide, cmC_X11.2.2⟩
set_option maxRecDepth 100000 in
theorem cm_X11_isWay : plainName M_X11_isWay.1.cls = true ∧ Cond.code M_X11_isWay.1 M_X11_isWay.2.1 M_X11_isWay.2.2.1 M_X11_isWay.2.2.2 ∈ dp_tb ∧ Cond.initialized M_X11_isWay.1.cls ∈ dp_tb ∧ M_X11_isWay.2.2.1 ≤ 40 ∧ (M_X11_isWay.1.cls ≠ "java/lang/invoke/MethodHandle" ∧ M_X11_isWay.1.cls ≠ "java/lang/invoke/VarHandle") := ⟨cmC_X11.1, (dp_m 622 (by exact rfl) rfl), cmC_X11.2.1, by decide, cmC_X11.2.2⟩
set_option maxRecDepth 100000 in
theorem cm_X3_sayingBy : plainName M_X3_sayingBy.1.cls = true ∧ Cond.code M_X3_sayingBy.1 M_X3_sayingBy.2.1 M_X3_sayingBy.2.2.1 M_X3_sayingBy.2.2.2 ∈ dp_tb ∧ Cond.initialized M_X3_sayingBy.1.cls ∈ dp_tb ∧ M_X3_sayingBy.2.2.1 ≤ 40 ∧ (M_X3_sayingBy.1.cls ≠ "java/lang/invoke/MethodHandle" ∧ M_X3_sayingBy.1.cls ≠ "java/lang/invoke/VarHandle") := ⟨cmC_X3.1, (dp_m 626 (by exact rfl) rfl), cmC_X3.2.1, by decide, cmC_X3.2.2⟩
set_option maxRecDepth 100000 in
theorem cm_X10_has : plainName M_X10_has.1.cls = true ∧ Cond.code M_X10_has.1 M_X10_has.2.1 M_X10_has.2.2.1 M_X10_has.2.2.2 ∈ dp_tb ∧ Cond.initialized M_X10_has.1.cls ∈ dp_tb ∧ M_X10_has.2.2.1 ≤ 40 ∧ (M_X10_has.1.cls ≠ "java/lang/invoke/MethodHandle" ∧ M_X10_has.1.cls ≠ "java/lang/invoke/VarHandle") := ⟨cmC_X10.1, (dp_m 630 (by exact rfl) rfl), cmC_X10.2.1, by decide, cmC_X10.2.2⟩
set_option maxRecDepth 100000 in
theorem cm_X11_saying : plainName M_X11_saying.1.cls = true ∧ Cond.code M_X11_saying.1 M_X11_saying.2.1 M_X11_saying.2.2.1 M_X11_saying.2.2.2 ∈ dp_tb ∧ Cond.initialized M_X11_saying.1.cls ∈ dp_tb ∧ M_X11_saying.2.2.1 ≤ 40 ∧ (M_X11_saying.1.cls ≠ "java/lang/invoke/MethodHandle" ∧ M_X11_saying.1.cls ≠ "java/lang/invoke/VarHandle") := ⟨cmC_X11.1, (dp_m 635 (by exact rfl) rfl), cmC_X11.2.1, by decide, cmC_X11.2.2⟩

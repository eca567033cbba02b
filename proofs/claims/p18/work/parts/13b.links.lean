set_option maxRecDepth 100000 in
theorem cm_X10_part : plainName M_X10_part.1.cls = true ∧ Cond.code M_X10_part.1 M_X10_part.2.1 M_X10_part.2.2.1 M_X10_part.2.2.2 ∈ dp_tb ∧ Cond.initialized M_X10_part.1.cls ∈ dp_tb ∧ M_X10_part.2.2.1 ≤ 40 ∧ (M_X10_part.1.cls ≠ "java/lang/invoke/MethodHandle" ∧ M_X10_part.1.cls ≠ "java/lang/invoke/VarHandle") := ⟨cmC_X10.1, (dp_m 639 (by exact rfl) rfl), cmC_X10.2.1, by decide, cmC_X10.2.2⟩
set_option maxRecDepth 100000 in
theorem cm_X11_between : plainName M_X11_between.1.cls = true ∧ Cond.code M_X11_between.1 M_X11_between.2.1 M_X11_between.2.2.1 M_X11_between.2.2.2 ∈ dp_tb ∧ Cond.initialized M_X11_between.1.cls ∈ dp_tb ∧ M_X11_between.2.2.1 ≤ 40 ∧ (M_X11_between.1.cls ≠ "java/lang/invoke/MethodHandle" ∧ M_X11_between.1.cls ≠ "java/lang/invoke/VarHandle") := ⟨cmC_X11.1, (dp_m 643 (by exact rfl) rfl), cmC_X11.2.1, by decide, cmC_X11.2.2⟩
set_option maxRecDepth 100000 in
theorem cm_X7_judge : plainName M_X7_judge.1.cls = true ∧ Cond.code M_X7_judge.1 M_X7_judge.2.1 M_X7_judge.2.2.1 M_X7_judge.2.2.2 ∈ dp_tb ∧ Cond.initialized M_X7_judge.1.cls ∈ dp_tb ∧ M_X7_judge.2.2.1 ≤ 40 ∧ (M_X7_judge.1.cls ≠ "java/lang/invoke/MethodHandle" ∧ M_X7_judge.1.cls ≠ "java/lang/invoke/VarHandle") := ⟨cmC_X7.1, (dp_m 647 (by exact rfl) rfl), cmC_X7.2.1, by decide, cmC_X7.2.2⟩
set_option maxRecDepth 100000 in
theorem cm_X10_lettersLookedAt : plainName M_X10_lettersLookedAt.1.cls = true ∧ Cond.code M_X10_lettersLookedAt.1 M_X10_lettersLookedAt.2.1 M_X10_lettersLookedAt.2.2.1 M_X10_lettersLookedAt.2.2.2 ∈ dp_tb ∧ Cond.initialized M_X10_lettersLookedAt.1.cls ∈ dp_tb ∧ M_X10_lettersLookedAt.2.2.1 ≤ 40 ∧ (M_X10_lettersLookedAt.1.cls ≠ "java/lang/invoke/MethodHandle" ∧ M_X10_lettersLookedAt.1.cls ≠ "java/lang/invoke/VarHandle") := ⟨cmC_X10.1, (dp_m 651 (by exact rfl) rfl), cmC_X10.2.1, by decide, cmC_X10.2.2⟩
set_option maxRecDepth 100000 in
theorem cm_X10_hangsOn : plainName M_X10_hangsOn.1.cls = true ∧ Cond.code M_X10_hangsOn.1 M_X10_hangsOn.2.1 M_X10_hangsOn.2.2.1 M_X10_hangsOn.2.2.2 ∈ dp_tb ∧ Cond.initialized M_X10_hangsOn.1.cls ∈ dp_tb ∧ M_X10_hangsOn.2.2.1 ≤ 40 ∧ (M_X10_hangsOn.1.cls ≠ "java/lang/invoke/MethodHandle" ∧ M_X10_hangsOn.1.cls ≠ "java/lang/invoke/VarHandle") := ⟨cmC_X10.1, (dp_m 655 (by exact rfl) rfl), cmC_X10.2.1, by decide, cmC_X10.2.2⟩
set_option maxRecDepth 100000 in
theorem cm_X10_isWithin : plainName M_X10_isWithin.1.cls = true ∧ Cond.code M_X10_isWithin.1 M_X10_isWithin.2.1 M_X10_isWithin.2.2.1 M_X10_isWithin.2.2.2 ∈ dp_tb ∧ Cond.initialized M_X10_isWithin.1.cls ∈ dp_tb ∧ M_X10_isWithin.2.2.1 ≤ 40 ∧ (M_X10_isWithin.1.cls ≠ "java/lang/invoke/MethodHandle" ∧ M_X10_isWithin.1.cls ≠ "java/lang/invoke/VarHandle") := ⟨cmC_X10.1, (dp_m 659 (by exact rfl) rfl), cmC_X10.2.1, by decide, cmC_X10.2.2⟩
set_option maxRecDepth 100000 in
theorem cm_X11_looks : plainName M_X11_looks.1.cls = true ∧ Cond.code M_X11_looks.1 M_X11_looks.2.1 M_X11_looks.2.2.1 M_X11_looks.2.2.2 ∈ dp_tb ∧ Cond.initialized M_X11_looks.1.cls ∈ dp_tb ∧ M_X11_looks.2.2.1 ≤ 40 ∧ (M_X11_looks.1.cls ≠ "java/lang/invoke/MethodHandle" ∧ M_X11_looks.1.cls ≠ "java/lang/invoke/VarHandle") := ⟨cmC_X11.1, (dp_m 666 (by exact rfl) rfl), cmC_X11.2.1, by decide, cmC_X11.2.2⟩
set_option maxRecDepth 100000 in
theorem cm_X11_setOf : plainName M_X11_setOf.1.cls = true ∧ Cond.code M_X11_setOf.1 M_X11_setOf.2.1 M_X11_setOf.2.2.1 M_X11_setOf.2.2.2 ∈ dp_tb ∧ Cond.initialized M_X11_setOf.1.cls ∈ dp_tb ∧ M_X11_setOf.2.2.1 ≤ 40 ∧ (M_X11_setOf.1.cls ≠ "java/lang/invoke/MethodHandle" ∧ M_X11_setOf.1.cls ≠ "java/lang/invoke/VarHandle") := ⟨cmC_X11.1, (dp_m 670 (by exact rfl) rfl), cmC_X11.2.1, by decide, cmC_X11.2.2⟩
set_option maxRecDepth 100000 in
theorem cm_X11_compare : plainName M_X11_compare.1.cls = true ∧ Cond.code M_X11_compare.1 M_X11_compare.2.1 M_X11_compare.2.2.1 M_X11_compare.2.2.2 ∈ dp_tb ∧ Cond.initialized M_X11_compare.1.cls ∈ dp_tb ∧ M_X11_compare.2.2.1 ≤ 40 ∧ (M_X11_compare.1.cls ≠ "java/lang/invoke/MethodHandle" ∧ M_X11_compare.1.cls ≠ "java/lang/invoke/VarHandle") := ⟨cmC_X11.1, (dp_m 675 (by exact rfl) rfl), cmC_X11.2.1, by decide, cmC_X11.2.2⟩
set_option maxRecDepth 100000 in
theorem cm_X11_bounds : plainName M_X11_bounds.1.cls = true ∧ Cond.code M_X11_bounds.1 M_X11_bounds.2.1 M_X11_bounds.2.2.1 M_X11_bounds.2.2.2 ∈ dp_tb ∧ Cond.initialized M_X11_bounds.1.cls ∈ dp_tb ∧ M_X11_bounds.2.2.1 ≤ 40 ∧ (M_X11_bounds.1.cls ≠ "java/lang/invoke/MethodHandle" ∧ M_X11_bounds.1.cls ≠ "java/lang/invoke/VarHandle") := ⟨cmC_X11.1, (dp_m 680 (by exact rfl) rfl), cmC_X11.2.1, by decide, cmC_X11.2.2⟩
set_option maxRecDepth 100000 in
theorem cm_X7_freeChoices : plainName M_X7_freeChoices.1.cls = true ∧ Cond.code M_X7_freeChoices.1 M_X7_freeChoices.2.1 M_X7_freeChoices.2.2.1 M_X7_freeChoices.2.2.2 ∈ dp_tb ∧ Cond.initialized M_X7_freeChoices.1.cls ∈ dp_tb ∧ M_X7_freeChoices.2.2.1 ≤ 40 ∧ (M_X7_freeChoices.1.cls ≠ "java/lang/invoke/MethodHandle" ∧ M_X7_freeChoices.1.cls ≠ "java/lang/invoke/VarHandle") := ⟨cmC_X7.1, (dp_m 684 (by exact rfl) rfl), cmC_X7.2.1, by decide, cmC_X7.2.2⟩
set_option maxRecDepth 100000 in
theorem cm_X11_fewest : plainName M_X11_fewest.1.cls = true ∧ Cond.code M_X11_fewest.1 M_X11_fewest.2.1 M_X11_fewest.2.2.1 M_X11_fewest.2.2.2 ∈ dp_tb ∧ Cond.initialized M_X11_fewest.1.cls ∈ dp_tb ∧ M_X11_fewest.2.2.1 ≤ 40 ∧ (M_X11_fewest.1.cls ≠ "java/lang/invoke/MethodHandle" ∧ M_X11_fewest.1.cls ≠ "java/lang/invoke/VarHandle") := ⟨cmC_X11.1, (dp_m 690 (by exact rfl) rfl), cmC_X11.2.1, by decide, cmC_X11.2.2⟩
set_option maxRecDepth 100000 in
theorem cm_X7_fewestLetters : plainName M_X7_fewestLetters.1.cls = true ∧ Cond.code M_X7_fewestLetters.1 M_X7_fewestLetters.2.1 M_X7_fewestLetters.2.2.1 M_X7_fewestLetters.2.2.2 ∈ dp_tb ∧ Cond.initialized M_X7_fewestLetters.1.cls ∈ dp_tb ∧ M_X7_fewestLetters.2.2.1 ≤ 40 ∧ (M_X7_fewestLetters.1.cls ≠ "java/lang/invoke/MethodHandle" ∧ M_X7_fewestLetters.1.cls ≠ "java/lang/invoke/VarHandle") := ⟨cmC_X7.1, (dp_m 694 (by exact rfl) rfl), cmC_X7.2.1, by decide, cmC_X7.2.2⟩
set_option maxRecDepth 100000 in
theorem cm_X7_findFewest : plainName M_X7_findFewest.1.cls = true ∧ Cond.code M_X7_findFewest.1 M_X7_findFewest.2.1 M_X7_findFewest.2.2.1 M_X7_findFewest.2.2.2 ∈ dp_tb ∧ Cond.initialized M_X7_findFewest.1.cls ∈ dp_tb ∧ M_X7_findFewest.2.2.1 ≤ 40 ∧ (M_X7_findFewest.1.cls ≠ "java/lang/invoke/MethodHandle" ∧ M_X7_findFewest.1.cls ≠ "java/lang/invoke/VarHandle") := ⟨cmC_X7.1, (dp_m 698 (by exact rfl) rfl), cmC_X7.2.1, by decide, cmC_X7.2.2⟩
set_option maxRecDepth 100000 in
theorem cm_X7_tellsApart : plainName M_X7_tellsApart.1.cls = true ∧ Cond.code M_X7_tellsApart.1 M_X7_tellsApart.2.1 M_X7_tellsApart.2.2.1 M_X7_tellsApart.2.2.2 ∈ dp_tb ∧ Cond.initialized M_X7_tellsApart.1.cls ∈ dp_tb ∧ M_X7_tellsApart.2.2.1 ≤ 40 ∧ (M_X7_tellsApart.1.cls ≠ "java/lang/invoke/MethodHandle" ∧ M_X7_tellsApart.1.cls ≠ "java/lang/invoke/VarHandle") := ⟨cmC_X7.1, (dp_m 702 (by exact rfl) rfl), cmC_X7.2.1, by decide, cmC_X7.2.2⟩
set_option maxRecDepth 100000 in
theorem cm_X11_sizeOrSet : plainName M_X11_sizeOrSet.1.cls = true ∧ Cond.code M_X11_sizeOrSet.1 M_X11_sizeOrSet.2.1 M_X11_sizeOrSet.2.2.1 M_X11_sizeOrSet.2.2.2 ∈ dp_tb ∧ Cond.initialized M_X11_sizeOrSet.1.cls ∈ dp_tb ∧ M_X11_sizeOrSet.2.2.1 ≤ 40 ∧ (M_X11_sizeOrSet.1.cls ≠ "java/lang/invoke/MethodHandle" ∧ M_X11_sizeOrSet.1.cls ≠ "java/lang/invoke/VarHandle") := ⟨cmC_X11.1, (dp_m 705 (by exact rfl) rfl), cmC_X11.2.1, by decide, cmC_X11.2.2⟩
set_option maxRecDepth 100000 in
theorem cm_X11_tell : plainName M_X11_tell.1.cls = true ∧ Cond.code M_X11_tell.1 M_X11_tell.2.1 M_X11_tell.2.2.1 M_X11_tell.2.2.2 ∈ dp_tb ∧ Cond.initialized M_X11_tell.1.cls ∈ dp_tb ∧ M_X11_tell.2.2.1 ≤ 40 ∧ (M_X11_tell.1.cls ≠ "java/lang/invoke/MethodHandle" ∧ M_X11_tell.1.cls ≠ "java/lang/invoke/VarHandle") := ⟨cmC_X11.1, (dp_m 710 (by exact rfl) rfl), cmC_X11.2.1, by decide, cmC_X11.2.2⟩
set_option maxRecDepth 100000 in
theorem cm_X10_put : plainName M_X10_put.1.cls = true ∧ Cond.code M_X10_put.1 M_X10_put.2.1 M_X10_put.2.2.1 M_X10_put.2.2.2 ∈ dp_tb ∧ Cond.initialized M_X10_put.1.cls ∈ dp_tb ∧ M_X10_put.2.2.1 ≤ 40 ∧ (M_X10_put.1.cls ≠ "java/lang/invoke/MethodHandle" ∧ M_X10_put.1.cls ≠ "java/lang/invoke/VarHandle") := ⟨cmC_X10.1, (dp_m 714 (by exact rfl) rfl), cmC_X10.2.1, by decide, cmC_X10.2.2⟩
set_option maxRecDepth 100000 in
theorem cm_X11_copy : plainName M_X11_copy.1.cls = true ∧ Cond.code M_X11_copy.1 M_X11_copy.2.1 M_X11_copy.2.2.1 M_X11_copy.2.2.2 ∈ dp_tb ∧ Cond.initialized M_X11_copy.1.cls ∈ dp_tb ∧ M_X11_copy.2.2.1 ≤ 40 ∧ (M_X11_copy.1.cls ≠ "java/lang/invoke/MethodHandle" ∧ M_X11_copy.1.cls ≠ "java/lang/invoke/VarHandle") := ⟨cmC_X11.1, (dp_m 718 (by exact rfl) rfl), cmC_X11.2.1, by decide, cmC_X11.2.2⟩
set_option maxRecDepth 100000 in
theorem cm_X11_check : plainName M_X11_check.1.cls = true ∧ Cond.code M_X11_check.1 M_X11_check.2.1 M_X11_check.2.2.1 M_X11_check.2.2.2 ∈ dp_tb ∧ Cond.initialized M_X11_check.1.cls ∈ dp_tb ∧ M_X11_check.2.2.1 ≤ 40 ∧ (M_X11_check.1.cls ≠ "java/lang/invoke/MethodHandle" ∧ M_X11_check.1.cls ≠ "java/lang/invoke/VarHandle") := ⟨cmC_X11.1, (dp_m 722 (by exact rfl) rfl), cmC_X11.2.1, by decide, cmC_X11.2.2⟩
set_option maxRecDepth 100000 in
theorem cm_X11_used : plainName M_X11_used.1.cls = true ∧ Cond.code M_X11_used.1 M_X11_used.2.1 M_X11_used.2.2.1 M_X11_used.2.2.2 ∈ dp_tb ∧ Cond.initialized M_X11_used.1.cls ∈ dp_tb ∧ M_X11_used.2.2.1 ≤ 40 ∧ (M_X11_used.1.cls ≠ "java/lang/invoke/MethodHandle" ∧ M_X11_used.1.cls ≠ "java/lang/invoke/VarHandle") := ⟨cmC_X11.1, (dp_m 726 (by exact rfl) rfl), cmC_X11.2.1, by decide, cmC_X11.2.2⟩
set_option maxRecDepth 100000 in
theorem cm_X11_clausesUnder : plainName M_X11_clausesUnder.1.cls = true ∧ Cond.code M_X11_clausesUnder.1 M_X11_clausesUnder.2.1 M_X11_clausesUnder.2.2.1 M_X11_clausesUnder.2.2.2 ∈ dp_tb ∧ Cond.initialized M_X11_clausesUnder.1.cls ∈ dp_tb ∧ M_X11_clausesUnder.2.2.1 ≤ 40 ∧ (M_X11_clausesUnder.1.cls ≠ "java/lang/invoke/MethodHandle" ∧ M_X11_clausesUnder.1.cls ≠ "java/lang/invoke/VarHandle") := ⟨cmC_X11.1, (dp_m 730 (by exact rfl) rfl), cmC_X11.2.1, by decide, cmC_X11.2.2⟩
set_option maxRecDepth 100000 in
theorem cm_X11_bitOf : plainName M_X11_bitOf.1.cls = true ∧ Cond.code M_X11_bitOf.1 M_X11_bitOf.2.1 M_X11_bitOf.2.2.1 M_X11_bitOf.2.2.2 ∈ dp_tb ∧ Cond.initialized M_X11_bitOf.1.cls ∈ dp_tb ∧ M_X11_bitOf.2.2.1 ≤ 40 ∧ (M_X11_bitOf.1.cls ≠ "java/lang/invoke/MethodHandle" ∧ M_X11_bitOf.1.cls ≠ "java/lang/invoke/VarHandle") := ⟨cmC_X11.1, (dp_m 733 (by exact rfl) rfl), cmC_X11.2.1, by decide, cmC_X11.2.2⟩
set_option maxRecDepth 100000 in
theorem cm_X11_needed : plainName M_X11_needed.1.cls = true ∧ Cond.code M_X11_needed.1 M_X11_needed.2.1 M_X11_needed.2.2.1 M_X11_needed.2.2.2 ∈ dp_tb ∧ Cond.initialized M_X11_needed.1.cls ∈ dp_tb ∧ M_X11_needed.2.2.1 ≤ 40 ∧ (M_X11_needed.1.cls ≠ "java/lang/invoke/MethodHandle" ∧ M_X11_needed.1.cls ≠ "java/lang/invoke/VarHandle") := ⟨cmC_X11.1, (dp_m 737 (by exact rfl) rfl), cmC_X11.2.1, by decide, cmC_X11.2.2⟩
set_option maxRecDepth 100000 in
theorem cm_X0_leastSet : plainName M_X0_leastSet.1.cls = true ∧ Cond.code M_X0_leastSet.1 M_X0_leastSet.2.1 M_X0_leastSet.2.2.1 M_X0_leastSet.2.2.2 ∈ dp_tb ∧ Cond.initialized M_X0_leastSet.1.cls ∈ dp_tb ∧ M_X0_leastSet.2.2.1 ≤ 40 ∧ (M_X0_leastSet.1.cls ≠ "java/lang/invoke/MethodHandle" ∧ M_X0_leastSet.1.cls ≠ "java/lang/invoke/VarHandle") := ⟨cmC_X0.1, (dp_m 741 (by exact rfl) rfl), cmC_X0.2.1, by decide, cmC_X0.2.2⟩
set_option maxRecDepth 100000 in
theorem cm_X0_allClash : plainName M_X0_allClash.1.cls = true ∧ Cond.code M_X0_allClash.1 M_X0_allClash.2.1 M_X0_allClash.2.2.1 M_X0_allClash.2.2.2 ∈ dp_tb ∧ Cond.initialized M_X0_allClash.1.cls ∈ dp_tb ∧ M_X0_allClash.2.2.1 ≤ 40 ∧ (M_X0_allClash.1.cls ≠ "java/lang/invoke/MethodHandle" ∧ M_X0_allClash.1.cls ≠ "java/lang/invoke/VarHandle") := ⟨cmC_X0.1, (dp_m 745 (by exact rfl) rfl), cmC_X0.2.1, by decide, cmC_X0.2.2⟩
set_option maxRecDepth 100000 in
theorem cm_X10_leastWorld : plainName M_X10_leastWorld.1.cls = true ∧ Cond.code M_X10_leastWorld.1 M_X10_leastWorld.2.1 M_X10_leastWorld.2.2.1 M_X10_leastWorld.2.2.2 ∈ dp_tb ∧ Cond.initialized M_X10_leastWorld.1.cls ∈ dp_tb ∧ M_X10_leastWorld.2.2.1 ≤ 40 ∧ (M_X10_leastWorld.1.cls ≠ "java/lang/invoke/MethodHandle" ∧ M_X10_leastWorld.1.cls ≠ "java/lang/invoke/VarHandle") := ⟨cmC_X10.1, (dp_m 751 (by exact rfl) rfl), cmC_X10.2.1, by decide, cmC_X10.2.2⟩
set_option maxRecDepth 100000 in
theorem cm_X0_choose : plainName M_X0_choose.1.cls = true ∧ Cond.code M_X0_choose.1 M_X0_choose.2.1 M_X0_choose.2.2.1 M_X0_choose.2.2.2 ∈ dp_tb ∧ Cond.initialized M_X0_choose.1.cls ∈ dp_tb ∧ M_X0_choose.2.2.1 ≤ 40 ∧ (M_X0_choose.1.cls ≠ "java/lang/invoke/MethodHandle" ∧ M_X0_choose.1.cls ≠ "java/lang/invoke/VarHandle") := ⟨cmC_X0.1, (dp_m 755 (by exact rfl) rfl), cmC_X0.2.1, by decide, cmC_X0.2.2⟩
set_option maxRecDepth 100000 in
theorem cm_X0_keep : plainName M_X0_keep.1.cls = true ∧ Cond.code M_X0_keep.1 M_X0_keep.2.1 M_X0_keep.2.2.1 M_X0_keep.2.2.2 ∈ dp_tb ∧ Cond.initialized M_X0_keep.1.cls ∈ dp_tb ∧ M_X0_keep.2.2.1 ≤ 40 ∧ (M_X0_keep.1.cls ≠ "java/lang/invoke/MethodHandle" ∧ M_X0_keep.1.cls ≠ "java/lang/invoke/VarHandle") := ⟨cmC_X0.1, (dp_m 759 (by exact rfl) rfl), cmC_X0.2.1, by decide, cmC_X0.2.2⟩
set_option maxRecDepth 100000 in
theorem cm_X11_labour : plainName M_X11_labour.1.cls = true ∧ Cond.code M_X11_labour.1 M_X11_labour.2.1 M_X11_labour.2.2.1 M_X11_labour.2.2.2 ∈ dp_tb ∧ Cond.initialized M_X11_labour.1.cls ∈ dp_tb ∧ M_X11_labour.2.2.1 ≤ 40 ∧ (M_X11_labour.1.cls ≠ "java/lang/invoke/MethodHandle" ∧ M_X11_labour.1.cls ≠ "java/lang/invoke/VarHandle") := ⟨cmC_X11.1, (dp_m 765 (by exact rfl) rfl), cmC_X11.2.1, by decide, cmC_X11.2.2⟩
set_option maxRecDepth 100000 in
theorem cm_X11_ruleOf : plainName M_X11_ruleOf.1.cls = true ∧ Cond.code M_X11_ruleOf.1 M_X11_ruleOf.2.1 M_X11_ruleOf.2.2.1 M_X11_ruleOf.2.2.2 ∈ dp_tb ∧ Cond.initialized M_X11_ruleOf.1.cls ∈ dp_tb ∧ M_X11_ruleOf.2.2.1 ≤ 40 ∧ (M_X11_ruleOf.1.cls ≠ "java/lang/invoke/MethodHandle" ∧ M_X11_ruleOf.1.cls ≠ "java/lang/invoke/VarHandle") := ⟨cmC_X11.1, (dp_m 769 (by exact rfl) rfl), cmC_X11.2.1, by decide, cmC_X11.2.2⟩
set_option maxRecDepth 100000 in
theorem cm_X1_work : plainName M_X1_work.1.cls = true ∧ Cond.code M_X1_work.1 M_X1_work.2.1 M_X1_work.2.2.1 M_X1_work.2.2.2 ∈ dp_tb ∧ Cond.initialized M_X1_work.1.cls ∈ dp_tb ∧ M_X1_work.2.2.1 ≤ 40 ∧ (M_X1_work.1.cls ≠ "java/lang/invoke/MethodHandle" ∧ M_X1_work.1.cls ≠ "java/lang/invoke/VarHandle") := ⟨cmC_X1.1, (dp_m 776 (by exact rfl) rfl), cmC_X1.2.1, by decide, cmC_X1.2.2⟩
set_option maxRecDepth 100000 in
theorem cm_X9_mark : plainName M_X9_mark.1.cls = true ∧ Cond.code M_X9_mark.1 M_X9_mark.2.1 M_X9_mark.2.2.1 M_X9_mark.2.2.2 ∈ dp_tb ∧ Cond.initialized M_X9_mark.1.cls ∈ dp_tb ∧ M_X9_mark.2.2.1 ≤ 40 ∧ (M_X9_mark.1.cls ≠ "java/lang/invoke/MethodHandle" ∧ M_X9_mark.1.cls ≠ "java/lang/invoke/VarHandle") := ⟨cmC_X9.1, (dp_m 780 (by exact rfl) rfl), cmC_X9.2.1, by decide, cmC_X9.2.2⟩
set_option maxRecDepth 100000 in
theorem cm_X2_work : plainName M_X2_work.1.cls = true ∧ Cond.code M_X2_work.1 M_X2_work.2.1 M_X2_work.2.2.1 M_X2_work.2.2.2 ∈ dp_tb ∧ Cond.initialized M_X2_work.1.cls ∈ dp_tb ∧ M_X2_work.2.2.1 ≤ 40 ∧ (M_X2_work.1.cls ≠ "java/lang/invoke/MethodHandle" ∧ M_X2_work.1.cls ≠ "java/lang/invoke/VarHandle") := ⟨cmC_X2.1, (dp_m 783 (by exact rfl) rfl), cmC_X2.2.1, by decide, cmC_X2.2.2⟩
set_option maxRecDepth 100000 in
theorem cm_X5_work : plainName M_X5_work.1.cls = true ∧ Cond.code M_X5_work.1 M_X5_work.2.1 M_X5_work.2.2.1 M_X5_work.2.2.2 ∈ dp_tb ∧ Cond.initialized M_X5_work.1.cls ∈ dp_tb ∧ M_X5_work.2.2.1 ≤ 40 ∧ (M_X5_work.1.cls ≠ "java/lang/invoke/MethodHandle" ∧ M_X5_work.1.cls ≠ "java/lang/invoke/VarHandle") := ⟨cmC_X5.1, (dp_m 791 (by exact rfl) rfl), cmC_X5.2.1, by decide, cmC_X5.2.2⟩
set_option maxRecDepth 100000 in
theorem cm_X6_work : plainName M_X6_work.1.cls = true ∧ Cond.code M_X6_work.1 M_X6_work.2.1 M_X6_work.2.2.1 M_X6_work.2.2.2 ∈ dp_tb ∧ Cond.initialized M_X6_work.1.cls ∈ dp_tb ∧ M_X6_work.2.2.1 ≤ 40 ∧ (M_X6_work.1.cls ≠ "java/lang/invoke/MethodHandle" ∧ M_X6_work.1.cls ≠ "java/lang/invoke/VarHandle") := ⟨cmC_X6.1, (dp_m 794 (by exact rfl) rfl), cmC_X6.2.1, by decide, cmC_X6.2.2⟩
set_option maxRecDepth 100000 in
theorem cm_X11_count : plainName M_X11_count.1.cls = true ∧ Cond.code M_X11_count.1 M_X11_count.2.1 M_X11_count.2.2.1 M_X11_count.2.2.2 ∈ dp_tb ∧ Cond.initialized M_X11_count.1.cls ∈ dp_tb ∧ M_X11_count.2.2.1 ≤ 40 ∧ (M_X11_count.1.cls ≠ "java/lang/invoke/MethodHandle" ∧ M_X11_count.1.cls ≠ "java/lang/invoke/VarHandle") := ⟨cmC_X11.1, (dp_m 800 (by exact rfl) rfl), cmC_X11.2.1, by decide, cmC_X11.2.2⟩
set_option maxRecDepth 100000 in
theorem cm_X11_trace : plainName M_X11_trace.1.cls = true ∧ Cond.code M_X11_trace.1 M_X11_trace.2.1 M_X11_trace.2.2.1 M_X11_trace.2.2.2 ∈ dp_tb ∧ Cond.initialized M_X11_trace.1.cls ∈ dp_tb ∧ M_X11_trace.2.2.1 ≤ 40 ∧ (M_X11_trace.1.cls ≠ "java/lang/invoke/MethodHandle" ∧ M_X11_trace.1.cls ≠ "java/lang/invoke/VarHandle") := ⟨cmC_X11.1, (dp_m 804 (by exact rfl) rfl), cmC_X11.2.1, by decide, cmC_X11.2.2⟩
set_option maxRecDepth 100000 in
theorem cm_X9_sum : plainName M_X9_sum.1.cls = true ∧ Cond.code M_X9_sum.1 M_X9_sum.2.1 M_X9_sum.2.2.1 M_X9_sum.2.2.2 ∈ dp_tb ∧ Cond.initialized M_X9_sum.1.cls ∈ dp_tb ∧ M_X9_sum.2.2.1 ≤ 40 ∧ (M_X9_sum.1.cls ≠ "java/lang/invoke/MethodHandle" ∧ M_X9_sum.1.cls ≠ "java/lang/invoke/VarHandle") := ⟨cmC_X9.1, (dp_m 808 (by exact rfl) rfl), cmC_X9.2.1, by decide, cmC_X9.2.2⟩
theorem cmC_X12 : plainName RX12 = true ∧ Cond.initialized RX12 ∈ dp_tb ∧ (RX12 ≠ "java/lang/invoke/MethodHandle" ∧ RX12 ≠ "java/lang/invoke/VarHandle") := ⟨by decide +kernel, (dp_m 13 (by decide +kernel) rfl), by decide +kernel, by decide +kernel⟩
set_option maxRecDepth 100000 in
theorem cm_X12_init : plainName M_X12_init.1.cls = true ∧ Cond.code M_X12_init.1 M_X12_init.2.1 M_X12_init.2.2.1 M_X12_init.2.2.2 ∈ dp_tb ∧ Cond.initialized M_X12_init.1.cls ∈ dp_tb ∧ M_X12_init.2.2.1 ≤ 40 ∧ (M_X12_init.1.cls ≠ "java/lang/invoke/MethodHandle" ∧ M_X12_init.1.cls ≠ "java/lang/invoke/VarHandle") := ⟨cmC_X12.1, (dp_m 813 (by exact rfl) rfl), cmC_X12.2.1, by decide, cmC_X12.2.2⟩
set_option maxRecDepth 100000 in
theorem cm_X12_bounds : plainName M_X12_bounds.1.cls = true ∧ Cond.code M_X12_bounds.1 M_X12_bounds.2.1 M_X12_bounds.2.2.1 M_X12_bounds.2.2.2 ∈ dp_tb ∧ Cond.initialized M_X12_bounds.1.cls ∈ dp_tb ∧ M_X12_bounds.2.2.1 ≤ 40 ∧ (M_X12_bounds.1.cls ≠ "java/lang/invoke/MethodHandle" ∧ M_X12_bounds.1.cls ≠ "java/lang/invoke/VarHandle") := ⟨cmC_X12.1, (dp_m 818 (by exact rfl) rfl), cmC_X12.2.1, by decide, cmC_X12.2.2⟩
set_option maxRecDepth 100000 in
theorem cm_X12_shared : plainName M_X12_shared.1.cls = true ∧ Cond.code M_X12_shared.1 M_X12_shared.2.1 M_X12_shared.2.2.1 M_X12_shared.2.2.2 ∈ dp_tb ∧ Cond.initialized M_X12_shared.1.cls ∈ dp_tb ∧ M_X12_shared.2.2.1 ≤ 40 ∧ (M_X12_shared.1.cls ≠ "java/lang/invoke/MethodHandle" ∧ M_X12_shared.1.cls ≠ "java/lang/invoke/VarHandle") := ⟨cmC_X12.1, (dp_m 822 (by exact rfl) rfl), cmC_X12.2.1, by decide, cmC_X12.2.2⟩
set_option maxRecDepth 100000 in
theorem cm_X12_lettersOf : plainName M_X12_lettersOf.1.cls = true ∧ Cond.code M_X12_lettersOf.1 M_X12_lettersOf.2.1 M_X12_lettersOf.2.2.1 M_X12_lettersOf.2.2.2 ∈ dp_tb ∧ Cond.initialized M_X12_lettersOf.1.cls ∈ dp_tb ∧ M_X12_lettersOf.2.2.1 ≤ 40 ∧ (M_X12_lettersOf.1.cls ≠ "java/lang/invoke/MethodHandle" ∧ M_X12_lettersOf.1.cls ≠ "java/lang/invoke/VarHandle") := ⟨cmC_X12.1, (dp_m 826 (by exact rfl) rfl), cmC_X12.2.1, by decide, cmC_X12.2.2⟩
set_option maxRecDepth 100000 in
theorem cm_X12_spreads : plainName M_X12_spreads.1.cls = true ∧ Cond.code M_X12_spreads.1 M_X12_spreads.2.1 M_X12_spreads.2.2.1 M_X12_spreads.2.2.2 ∈ dp_tb ∧ Cond.initialized M_X12_spreads.1.cls ∈ dp_tb ∧ M_X12_spreads.2.2.1 ≤ 40 ∧ (M_X12_spreads.1.cls ≠ "java/lang/invoke/MethodHandle" ∧ M_X12_spreads.1.cls ≠ "java/lang/invoke/VarHandle") := ⟨cmC_X12.1, (dp_m 830 (by exact rfl) rfl), cmC_X12.2.1, by decide, cmC_X12.2.2⟩
set_option maxRecDepth 100000 in
theorem cm_X12_has : plainName M_X12_has.1.cls = true ∧ Cond.code M_X12_has.1 M_X12_has.2.1 M_X12_has.2.2.1 M_X12_has.2.2.2 ∈ dp_tb ∧ Cond.initialized M_X12_has.1.cls ∈ dp_tb ∧ M_X12_has.2.2.1 ≤ 40 ∧ (M_X12_has.1.cls ≠ "java/lang/invoke/MethodHandle" ∧ M_X12_has.1.cls ≠ "java/lang/invoke/VarHandle") := ⟨cmC_X12.1, (dp_m 833 (by exact rfl) rfl), cmC_X12.2.1, by decide, cmC_X12.2.2⟩
set_option maxRecDepth 100000 in
theorem cm_X12_type : plainName M_X12_type.1.cls = true ∧ Cond.code M_X12_type.1 M_X12_type.2.1 M_X12_type.2.2.1 M_X12_type.2.2.2 ∈ dp_tb ∧ Cond.initialized M_X12_type.1.cls ∈ dp_tb ∧ M_X12_type.2.2.1 ≤ 40 ∧ (M_X12_type.1.cls ≠ "java/lang/invoke/MethodHandle" ∧ M_X12_type.1.cls ≠ "java/lang/invoke/VarHandle") := ⟨cmC_X12.1, (dp_m 913 (by exact rfl) rfl), cmC_X12.2.1, by decide, cmC_X12.2.2⟩
set_option maxRecDepth 100000 in
theorem cm_X12_in : plainName M_X12_in.1.cls = true ∧ Cond.code M_X12_in.1 M_X12_in.2.1 M_X12_in.2.2.1 M_X12_in.2.2.2 ∈ dp_tb ∧ Cond.initialized M_X12_in.1.cls ∈ dp_tb ∧ M_X12_in.2.2.1 ≤ 40 ∧ (M_X12_in.1.cls ≠ "java/lang/invoke/MethodHandle" ∧ M_X12_in.1.cls ≠ "java/lang/invoke/VarHandle") := ⟨cmC_X12.1, (dp_m 916 (by exact rfl) rfl), cmC_X12.2.1, by decide, cmC_X12.2.2⟩
set_option maxRecDepth 100000 in
theorem cm_X12_clear : plainName M_X12_clear.1.cls = true ∧ Cond.code M_X12_clear.1 M_X12_clear.2.1 M_X12_clear.2.2.1 M_X12_clear.2.2.2 ∈ dp_tb ∧ Cond.initialized M_X12_clear.1.cls ∈ dp_tb ∧ M_X12_clear.2.2.1 ≤ 40 ∧ (M_X12_clear.1.cls ≠ "java/lang/invoke/MethodHandle" ∧ M_X12_clear.1.cls ≠ "java/lang/invoke/VarHandle") := ⟨cmC_X12.1, (dp_m 921 (by exact rfl) rfl), cmC_X12.2.1, by decide, cmC_X12.2.2⟩
set_option maxRecDepth 100000 in
theorem cm_X12_clauses : plainName M_X12_clauses.1.cls = true ∧ Cond.code M_X12_clauses.1 M_X12_clauses.2.1 M_X12_clauses.2.2.1 M_X12_clauses.2.2.2 ∈ dp_tb ∧ Cond.initialized M_X12_clauses.1.cls ∈ dp_tb ∧ M_X12_clauses.2.2.1 ≤ 40 ∧ (M_X12_clauses.1.cls ≠ "java/lang/invoke/MethodHandle" ∧ M_X12_clauses.1.cls ≠ "java/lang/invoke/VarHandle") := ⟨cmC_X12.1, (dp_m 925 (by exact rfl) rfl), cmC_X12.2.1, by decide, cmC_X12.2.2⟩
set_option maxRecDepth 100000 in
theorem cm_X12_begins : plainName M_X12_begins.1.cls = true ∧ Cond.code M_X12_begins.1 M_X12_begins.2.1 M_X12_begins.2.2.1 M_X12_begins.2.2.2 ∈ dp_tb ∧ Cond.initialized M_X12_begins.1.cls ∈ dp_tb ∧ M_X12_begins.2.2.1 ≤ 40 ∧ (M_X12_begins.1.cls ≠ "java/lang/invoke/MethodHandle" ∧ M_X12_begins.1.cls ≠ "java/lang/invoke/VarHandle") := ⟨cmC_X12.1, (dp_m 929 (by exact rfl) rfl), cmC_X12.2.1, by decide, cmC_X12.2.2⟩
set_option maxRecDepth 100000 in
theorem cm_X12_advances : plainName M_X12_advances.1.cls = true ∧ Cond.code M_X12_advances.1 M_X12_advances.2.1 M_X12_advances.2.2.1 M_X12_advances.2.2.2 ∈ dp_tb ∧ Cond.initialized M_X12_advances.1.cls ∈ dp_tb ∧ M_X12_advances.2.2.1 ≤ 40 ∧ (M_X12_advances.1.cls ≠ "java/lang/invoke/MethodHandle" ∧ M_X12_advances.1.cls ≠ "java/lang/invoke/VarHandle") := ⟨cmC_X12.1, (dp_m 933 (by exact rfl) rfl), cmC_X12.2.1, by decide, cmC_X12.2.2⟩
set_option maxRecDepth 100000 in
theorem cm_X12_byteAt : plainName M_X12_byteAt.1.cls = true ∧ Cond.code M_X12_byteAt.1 M_X12_byteAt.2.1 M_X12_byteAt.2.2.1 M_X12_byteAt.2.2.2 ∈ dp_tb ∧ Cond.initialized M_X12_byteAt.1.cls ∈ dp_tb ∧ M_X12_byteAt.2.2.1 ≤ 40 ∧ (M_X12_byteAt.1.cls ≠ "java/lang/invoke/MethodHandle" ∧ M_X12_byteAt.1.cls ≠ "java/lang/invoke/VarHandle") := ⟨cmC_X12.1, (dp_m 937 (by exact rfl) rfl), cmC_X12.2.1, by decide, cmC_X12.2.2⟩
set_option maxRecDepth 100000 in
theorem cm_X12_word : plainName M_X12_word.1.cls = true ∧ Cond.code M_X12_word.1 M_X12_word.2.1 M_X12_word.2.2.1 M_X12_word.2.2.2 ∈ dp_tb ∧ Cond.initialized M_X12_word.1.cls ∈ dp_tb ∧ M_X12_word.2.2.1 ≤ 40 ∧ (M_X12_word.1.cls ≠ "java/lang/invoke/MethodHandle" ∧ M_X12_word.1.cls ≠ "java/lang/invoke/VarHandle") := ⟨cmC_X12.1, (dp_m 941 (by exact rfl) rfl), cmC_X12.2.1, by decide, cmC_X12.2.2⟩
set_option maxRecDepth 100000 in
theorem cm_X12_isWell : plainName M_X12_isWell.1.cls = true ∧ Cond.code M_X12_isWell.1 M_X12_isWell.2.1 M_X12_isWell.2.2.1 M_X12_isWell.2.2.2 ∈ dp_tb ∧ Cond.initialized M_X12_isWell.1.cls ∈ dp_tb ∧ M_X12_isWell.2.2.1 ≤ 40 ∧ (M_X12_isWell.1.cls ≠ "java/lang/invoke/MethodHandle" ∧ M_X12_isWell.1.cls ≠ "java/lang/invoke/VarHandle") := ⟨cmC_X12.1, (dp_m 945 (by exact rfl) rfl), cmC_X12.2.1, by decide, cmC_X12.2.2⟩
set_option maxRecDepth 100000 in
theorem cm_X12_wants : plainName M_X12_wants.1.cls = true ∧ Cond.code M_X12_wants.1 M_X12_wants.2.1 M_X12_wants.2.2.1 M_X12_wants.2.2.2 ∈ dp_tb ∧ Cond.initialized M_X12_wants.1.cls ∈ dp_tb ∧ M_X12_wants.2.2.1 ≤ 40 ∧ (M_X12_wants.1.cls ≠ "java/lang/invoke/MethodHandle" ∧ M_X12_wants.1.cls ≠ "java/lang/invoke/VarHandle") := ⟨cmC_X12.1, (dp_m 949 (by exact rfl) rfl), cmC_X12.2.1, by decide, cmC_X12.2.2⟩
set_option maxRecDepth 100000 in
theorem cm_X12_readsClause : plainName M_X12_readsClause.1.cls = true ∧ Cond.code M_X12_readsClause.1 M_X12_readsClause.2.1 M_X12_readsClause.2.2.1 M_X12_readsClause.2.2.2 ∈ dp_tb ∧ Cond.initialized M_X12_readsClause.1.cls ∈ dp_tb ∧ M_X12_readsClause.2.2.1 ≤ 40 ∧ (M_X12_readsClause.1.cls ≠ "java/lang/invoke/MethodHandle" ∧ M_X12_readsClause.1.cls ≠ "java/lang/invoke/VarHandle") := ⟨cmC_X12.1, (dp_m 953 (by exact rfl) rfl), cmC_X12.2.1, by decide, cmC_X12.2.2⟩
set_option maxRecDepth 100000 in
theorem cm_X12_goesOn : plainName M_X12_goesOn.1.cls = true ∧ Cond.code M_X12_goesOn.1 M_X12_goesOn.2.1 M_X12_goesOn.2.2.1 M_X12_goesOn.2.2.2 ∈ dp_tb ∧ Cond.initialized M_X12_goesOn.1.cls ∈ dp_tb ∧ M_X12_goesOn.2.2.1 ≤ 40 ∧ (M_X12_goesOn.1.cls ≠ "java/lang/invoke/MethodHandle" ∧ M_X12_goesOn.1.cls ≠ "java/lang/invoke/VarHandle") := ⟨cmC_X12.1, (dp_m 957 (by exact rfl) rfl), cmC_X12.2.1, by decide, cmC_X12.2.2⟩
set_option maxRecDepth 100000 in
theorem cm_X12_holding : plainName M_X12_holding.1.cls = true ∧ Cond.code M_X12_holding.1 M_X12_holding.2.1 M_X12_holding.2.2.1 M_X12_holding.2.2.2 ∈ dp_tb ∧ Cond.initialized M_X12_holding.1.cls ∈ dp_tb ∧ M_X12_holding.2.2.1 ≤ 40 ∧ (M_X12_holding.1.cls ≠ "java/lang/invoke/MethodHandle" ∧ M_X12_holding.1.cls ≠ "java/lang/invoke/VarHandle") := ⟨cmC_X12.1, (dp_m 961 (by exact rfl) rfl), cmC_X12.2.1, by decide, cmC_X12.2.2⟩
set_option maxRecDepth 100000 in
theorem cm_X12_isSo : plainName M_X12_isSo.1.cls = true ∧ Cond.code M_X12_isSo.1 M_X12_isSo.2.1 M_X12_isSo.2.2.1 M_X12_isSo.2.2.2 ∈ dp_tb ∧ Cond.initialized M_X12_isSo.1.cls ∈ dp_tb ∧ M_X12_isSo.2.2.1 ≤ 40 ∧ (M_X12_isSo.1.cls ≠ "java/lang/invoke/MethodHandle" ∧ M_X12_isSo.1.cls ≠ "java/lang/invoke/VarHandle") := ⟨cmC_X12.1, (dp_m 964 (by exact rfl) rfl), cmC_X12.2.1, by decide, cmC_X12.2.2⟩
set_option maxRecDepth 100000 in
theorem cm_X12_beginning : plainName M_X12_beginning.1.cls = true ∧ Cond.code M_X12_beginning.1 M_X12_beginning.2.1 M_X12_beginning.2.2.1 M_X12_beginning.2.2.2 ∈ dp_tb ∧ Cond.initialized M_X12_beginning.1.cls ∈ dp_tb ∧ M_X12_beginning.2.2.1 ≤ 40 ∧ (M_X12_beginning.1.cls ≠ "java/lang/invoke/MethodHandle" ∧ M_X12_beginning.1.cls ≠ "java/lang/invoke/VarHandle") := ⟨cmC_X12.1, (dp_m 968 (by exact rfl) rfl), cmC_X12.2.1, by decide, cmC_X12.2.2⟩
set_option maxRecDepth 100000 in
theorem cm_X12_proof : plainName M_X12_proof.1.cls = true ∧ Cond.code M_X12_proof.1 M_X12_proof.2.1 M_X12_proof.2.2.1 M_X12_proof.2.2.2 ∈ dp_tb ∧ Cond.initialized M_X12_proof.1.cls ∈ dp_tb ∧ M_X12_proof.2.2.1 ≤ 40 ∧ (M_X12_proof.1.cls ≠ "java/lang/invoke/MethodHandle" ∧ M_X12_proof.1.cls ≠ "java/lang/invoke/VarHandle") := ⟨cmC_X12.1, (dp_m 972 (by exact rfl) rfl), cmC_X12.2.1, by decide, cmC_X12.2.2⟩
set_option maxRecDepth 100000 in
theorem cm_X12_readsStep : plainName M_X12_readsStep.1.cls = true ∧ Cond.code M_X12_readsStep.1 M_X12_readsStep.2.1 M_X12_readsStep.2.2.1 M_X12_readsStep.2.2.2 ∈ dp_tb ∧ Cond.initialized M_X12_readsStep.1.cls ∈ dp_tb ∧ M_X12_readsStep.2.2.1 ≤ 40 ∧ (M_X12_readsStep.1.cls ≠ "java/lang/invoke/MethodHandle" ∧ M_X12_readsStep.1.cls ≠ "java/lang/invoke/VarHandle") := ⟨cmC_X12.1, (dp_m 976 (by exact rfl) rfl), cmC_X12.2.1, by decide, cmC_X12.2.2⟩
set_option maxRecDepth 100000 in
theorem cm_X12_makes : plainName M_X12_makes.1.cls = true ∧ Cond.code M_X12_makes.1 M_X12_makes.2.1 M_X12_makes.2.2.1 M_X12_makes.2.2.2 ∈ dp_tb ∧ Cond.initialized M_X12_makes.1.cls ∈ dp_tb ∧ M_X12_makes.2.2.1 ≤ 40 ∧ (M_X12_makes.1.cls ≠ "java/lang/invoke/MethodHandle" ∧ M_X12_makes.1.cls ≠ "java/lang/invoke/VarHandle") := ⟨cmC_X12.1, (dp_m 980 (by exact rfl) rfl), cmC_X12.2.1, by decide, cmC_X12.2.2⟩
set_option maxRecDepth 100000 in
theorem cm_X12_wrong : plainName M_X12_wrong.1.cls = true ∧ Cond.code M_X12_wrong.1 M_X12_wrong.2.1 M_X12_wrong.2.2.1 M_X12_wrong.2.2.2 ∈ dp_tb ∧ Cond.initialized M_X12_wrong.1.cls ∈ dp_tb ∧ M_X12_wrong.2.2.1 ≤ 40 ∧ (M_X12_wrong.1.cls ≠ "java/lang/invoke/MethodHandle" ∧ M_X12_wrong.1.cls ≠ "java/lang/invoke/VarHandle") := ⟨cmC_X12.1, (dp_m 984 (by exact rfl) rfl), cmC_X12.2.1, by decide, cmC_X12.2.2⟩
set_option maxRecDepth 100000 in
theorem cm_X12_end : plainName M_X12_end.1.cls = true ∧ Cond.code M_X12_end.1 M_X12_end.2.1 M_X12_end.2.2.1 M_X12_end.2.2.2 ∈ dp_tb ∧ Cond.initialized M_X12_end.1.cls ∈ dp_tb ∧ M_X12_end.2.2.1 ≤ 40 ∧ (M_X12_end.1.cls ≠ "java/lang/invoke/MethodHandle" ∧ M_X12_end.1.cls ≠ "java/lang/invoke/VarHandle") := ⟨cmC_X12.1, (dp_m 988 (by exact rfl) rfl), cmC_X12.2.1, by decide, cmC_X12.2.2⟩
set_option maxRecDepth 100000 in
theorem cm_X12_ending : plainName M_X12_ending.1.cls = true ∧ Cond.code M_X12_ending.1 M_X12_ending.2.1 M_X12_ending.2.2.1 M_X12_ending.2.2.2 ∈ dp_tb ∧ Cond.initialized M_X12_ending.1.cls ∈ dp_tb ∧ M_X12_ending.2.2.1 ≤ 40 ∧ (M_X12_ending.1.cls ≠ "java/lang/invoke/MethodHandle" ∧ M_X12_ending.1.cls ≠ "java/lang/invoke/VarHandle") := ⟨cmC_X12.1, (dp_m 992 (by exact rfl) rfl), cmC_X12.2.1, by decide, cmC_X12.2.2⟩
set_option maxRecDepth 100000 in
theorem cm_X12_line : plainName M_X12_line.1.cls = true ∧ Cond.code M_X12_line.1 M_X12_line.2.1 M_X12_line.2.2.1 M_X12_line.2.2.2 ∈ dp_tb ∧ Cond.initialized M_X12_line.1.cls ∈ dp_tb ∧ M_X12_line.2.2.1 ≤ 40 ∧ (M_X12_line.1.cls ≠ "java/lang/invoke/MethodHandle" ∧ M_X12_line.1.cls ≠ "java/lang/invoke/VarHandle") := ⟨cmC_X12.1, (dp_m 996 (by exact rfl) rfl), cmC_X12.2.1, by decide, cmC_X12.2.2⟩
set_option maxRecDepth 100000 in
theorem cm_X12_isLine : plainName M_X12_isLine.1.cls = true ∧ Cond.code M_X12_isLine.1 M_X12_isLine.2.1 M_X12_isLine.2.2.1 M_X12_isLine.2.2.2 ∈ dp_tb ∧ Cond.initialized M_X12_isLine.1.cls ∈ dp_tb ∧ M_X12_isLine.2.2.1 ≤ 40 ∧ (M_X12_isLine.1.cls ≠ "java/lang/invoke/MethodHandle" ∧ M_X12_isLine.1.cls ≠ "java/lang/invoke/VarHandle") := ⟨cmC_X12.1, (dp_m 1000 (by exact rfl) rfl), cmC_X12.2.1, by decide, cmC_X12.2.2⟩
set_option maxRecDepth 100000 in
theorem cm_X12_side : plainName M_X12_side.1.cls = true ∧ Cond.code M_X12_side.1 M_X12_side.2.1 M_X12_side.2.2.1 M_X12_side.2.2.2 ∈ dp_tb ∧ Cond.initialized M_X12_side.1.cls ∈ dp_tb ∧ M_X12_side.2.2.1 ≤ 40 ∧ (M_X12_side.1.cls ≠ "java/lang/invoke/MethodHandle" ∧ M_X12_side.1.cls ≠ "java/lang/invoke/VarHandle") := ⟨cmC_X12.1, (dp_m 1004 (by exact rfl) rfl), cmC_X12.2.1, by decide, cmC_X12.2.2⟩
set_option maxRecDepth 100000 in
theorem cm_X12_holds : plainName M_X12_holds.1.cls = true ∧ Cond.code M_X12_holds.1 M_X12_holds.2.1 M_X12_holds.2.2.1 M_X12_holds.2.2.2 ∈ dp_tb ∧ Cond.initialized M_X12_holds.1.cls ∈ dp_tb ∧ M_X12_holds.2.2.1 ≤ 40 ∧ (M_X12_holds.1.cls ≠ "java/lang/invoke/MethodHandle" ∧ M_X12_holds.1.cls ≠ "java/lang/invoke/VarHandle") := ⟨cmC_X12.1, (dp_m 1008 (by exact rfl) rfl), cmC_X12.2.1, by decide, cmC_X12.2.2⟩
set_option maxRecDepth 100000 in
theorem cm_X12_worlds : plainName M_X12_worlds.1.cls = true ∧ Cond.code M_X12_worlds.1 M_X12_worlds.2.1 M_X12_worlds.2.2.1 M_X12_worlds.2.2.2 ∈ dp_tb ∧ Cond.initialized M_X12_worlds.1.cls ∈ dp_tb ∧ M_X12_worlds.2.2.1 ≤ 40 ∧ (M_X12_worlds.1.cls ≠ "java/lang/invoke/MethodHandle" ∧ M_X12_worlds.1.cls ≠ "java/lang/invoke/VarHandle") := ⟨cmC_X12.1, (dp_m 1012 (by exact rfl) rfl), cmC_X12.2.1, by decide, cmC_X12.2.2⟩
set_option maxRecDepth 100000 in
theorem cm_X12_many : plainName M_X12_many.1.cls = true ∧ Cond.code M_X12_many.1 M_X12_many.2.1 M_X12_many.2.2.1 M_X12_many.2.2.2 ∈ dp_tb ∧ Cond.initialized M_X12_many.1.cls ∈ dp_tb ∧ M_X12_many.2.2.1 ≤ 40 ∧ (M_X12_many.1.cls ≠ "java/lang/invoke/MethodHandle" ∧ M_X12_many.1.cls ≠ "java/lang/invoke/VarHandle") := ⟨cmC_X12.1, (dp_m 1015 (by exact rfl) rfl), cmC_X12.2.1, by decide, cmC_X12.2.2⟩
set_option maxRecDepth 100000 in
theorem cm_X12_says : plainName M_X12_says.1.cls = true ∧ Cond.code M_X12_says.1 M_X12_says.2.1 M_X12_says.2.2.1 M_X12_says.2.2.2 ∈ dp_tb ∧ Cond.initialized M_X12_says.1.cls ∈ dp_tb ∧ M_X12_says.2.2.1 ≤ 40 ∧ (M_X12_says.1.cls ≠ "java/lang/invoke/MethodHandle" ∧ M_X12_says.1.cls ≠ "java/lang/invoke/VarHandle") := ⟨cmC_X12.1, (dp_m 1019 (by exact rfl) rfl), cmC_X12.2.1, by decide, cmC_X12.2.2⟩
set_option maxRecDepth 100000 in
theorem cm_X12_isWay : plainName M_X12_isWay.1.cls = true ∧ Cond.code M_X12_isWay.1 M_X12_isWay.2.1 M_X12_isWay.2.2.1 M_X12_isWay.2.2.2 ∈ dp_tb ∧ Cond.initialized M_X12_isWay.1.cls ∈ dp_tb ∧ M_X12_isWay.2.2.1 ≤ 40 ∧ (M_X12_isWay.1.cls ≠ "java/lang/invoke/MethodHandle" ∧ M_X12_isWay.1.cls ≠ "java/lang/invoke/VarHandle") := ⟨cmC_X12.1, (dp_m 1022 (by exact rfl) rfl), cmC_X12.2.1, by decide, cmC_X12.2.2⟩
set_option maxRecDepth 100000 in
theorem cm_X12_saying : plainName M_X12_saying.1.cls = true ∧ Cond.code M_X12_saying.1 M_X12_saying.2.1 M_X12_saying.2.2.1 M_X12_saying.2.2.2 ∈ dp_tb ∧ Cond.initialized M_X12_saying.1.cls ∈ dp_tb ∧ M_X12_saying.2.2.1 ≤ 40 ∧ (M_X12_saying.1.cls ≠ "java/lang/invoke/MethodHandle" ∧ M_X12_saying.1.cls ≠ "java/lang/invoke/VarHandle") := ⟨cmC_X12.1, (dp_m 1026 (by exact rfl) rfl), cmC_X12.2.1, by decide, cmC_X12.2.2⟩
set_option maxRecDepth 100000 in
theorem cm_X12_between : plainName M_X12_between.1.cls = true ∧ Cond.code M_X12_between.1 M_X12_between.2.1 M_X12_between.2.2.1 M_X12_between.2.2.2 ∈ dp_tb ∧ Cond.initialized M_X12_between.1.cls ∈ dp_tb ∧ M_X12_between.2.2.1 ≤ 40 ∧ (M_X12_between.1.cls ≠ "java/lang/invoke/MethodHandle" ∧ M_X12_between.1.cls ≠ "java/lang/invoke/VarHandle") := ⟨cmC_X12.1, (dp_m 1030 (by exact rfl) rfl), cmC_X12.2.1, by decide, cmC_X12.2.2⟩
set_option maxRecDepth 100000 in
theorem cm_X12_takes : plainName M_X12_takes.1.cls = true ∧ Cond.code M_X12_takes.1 M_X12_takes.2.1 M_X12_takes.2.2.1 M_X12_takes.2.2.2 ∈ dp_tb ∧ Cond.initialized M_X12_takes.1.cls ∈ dp_tb ∧ M_X12_takes.2.2.1 ≤ 40 ∧ (M_X12_takes.1.cls ≠ "java/lang/invoke/MethodHandle" ∧ M_X12_takes.1.cls ≠ "java/lang/invoke/VarHandle") := ⟨cmC_X12.1, (dp_m 1034 (by exact rfl) rfl), cmC_X12.2.1, by decide, cmC_X12.2.2⟩
set_option maxRecDepth 100000 in
theorem cm_X12_checks : plainName M_X12_checks.1.cls = true ∧ Cond.code M_X12_checks.1 M_X12_checks.2.1 M_X12_checks.2.2.1 M_X12_checks.2.2.2 ∈ dp_tb ∧ Cond.initialized M_X12_checks.1.cls ∈ dp_tb ∧ M_X12_checks.2.2.1 ≤ 40 ∧ (M_X12_checks.1.cls ≠ "java/lang/invoke/MethodHandle" ∧ M_X12_checks.1.cls ≠ "java/lang/invoke/VarHandle") := ⟨cmC_X12.1, (dp_m 1038 (by exact rfl) rfl), cmC_X12.2.1, by decide, cmC_X12.2.2⟩
set_option maxRecDepth 100000 in
theorem cm_X12_looksOf : plainName M_X12_looksOf.1.cls = true ∧ Cond.code M_X12_looksOf.1 M_X12_looksOf.2.1 M_X12_looksOf.2.2.1 M_X12_looksOf.2.2.2 ∈ dp_tb ∧ Cond.initialized M_X12_looksOf.1.cls ∈ dp_tb ∧ M_X12_looksOf.2.2.1 ≤ 40 ∧ (M_X12_looksOf.1.cls ≠ "java/lang/invoke/MethodHandle" ∧ M_X12_looksOf.1.cls ≠ "java/lang/invoke/VarHandle") := ⟨cmC_X12.1, (dp_m 1041 (by exact rfl) rfl), cmC_X12.2.1, by decide, cmC_X12.2.2⟩
set_option maxRecDepth 100000 in
theorem cm_X12_looks : plainName M_X12_looks.1.cls = true ∧ Cond.code M_X12_looks.1 M_X12_looks.2.1 M_X12_looks.2.2.1 M_X12_looks.2.2.2 ∈ dp_tb ∧ Cond.initialized M_X12_looks.1.cls ∈ dp_tb ∧ M_X12_looks.2.2.1 ≤ 40 ∧ (M_X12_looks.1.cls ≠ "java/lang/invoke/MethodHandle" ∧ M_X12_looks.1.cls ≠ "java/lang/invoke/VarHandle") := ⟨cmC_X12.1, (dp_m 1045 (by exact rfl) rfl), cmC_X12.2.1, by decide, cmC_X12.2.2⟩
set_option maxRecDepth 100000 in
theorem cm_X12_compare : plainName M_X12_compare.1.cls = true ∧ Cond.code M_X12_compare.1 M_X12_compare.2.1 M_X12_compare.2.2.1 M_X12_compare.2.2.2 ∈ dp_tb ∧ Cond.initialized M_X12_compare.1.cls ∈ dp_tb ∧ M_X12_compare.2.2.1 ≤ 40 ∧ (M_X12_compare.1.cls ≠ "java/lang/invoke/MethodHandle" ∧ M_X12_compare.1.cls ≠ "java/lang/invoke/VarHandle") := ⟨cmC_X12.1, (dp_m 1049 (by exact rfl) rfl), cmC_X12.2.1, by decide, cmC_X12.2.2⟩
set_option maxRecDepth 100000 in
theorem cm_X12_bounds_ : plainName M_X12_bounds_.1.cls = true ∧ Cond.code M_X12_bounds_.1 M_X12_bounds_.2.1 M_X12_bounds_.2.2.1 M_X12_bounds_.2.2.2 ∈ dp_tb ∧ Cond.initialized M_X12_bounds_.1.cls ∈ dp_tb ∧ M_X12_bounds_.2.2.1 ≤ 40 ∧ (M_X12_bounds_.1.cls ≠ "java/lang/invoke/MethodHandle" ∧ M_X12_bounds_.1.cls ≠ "java/lang/invoke/VarHandle") := ⟨cmC_X12.1, (dp_m 1053 (by exact rfl) rfl), cmC_X12.2.1, by decide, cmC_X12.2.2⟩
set_option maxRecDepth 100000 in
theorem cm_X12_ones : plainName M_X12_ones.1.cls = true ∧ Cond.code M_X12_ones.1 M_X12_ones.2.1 M_X12_ones.2.2.1 M_X12_ones.2.2.2 ∈ dp_tb ∧ Cond.initialized M_X12_ones.1.cls ∈ dp_tb ∧ M_X12_ones.2.2.1 ≤ 40 ∧ (M_X12_ones.1.cls ≠ "java/lang/invoke/MethodHandle" ∧ M_X12_ones.1.cls ≠ "java/lang/invoke/VarHandle") := ⟨cmC_X12.1, (dp_m 1056 (by exact rfl) rfl), cmC_X12.2.1, by decide, cmC_X12.2.2⟩
set_option maxRecDepth 100000 in
theorem cm_X12_fewest : plainName M_X12_fewest.1.cls = true ∧ Cond.code M_X12_fewest.1 M_X12_fewest.2.1 M_X12_fewest.2.2.1 M_X12_fewest.2.2.2 ∈ dp_tb ∧ Cond.initialized M_X12_fewest.1.cls ∈ dp_tb ∧ M_X12_fewest.2.2.1 ≤ 40 ∧ (M_X12_fewest.1.cls ≠ "java/lang/invoke/MethodHandle" ∧ M_X12_fewest.1.cls ≠ "java/lang/invoke/VarHandle") := ⟨cmC_X12.1, (dp_m 1060 (by exact rfl) rfl), cmC_X12.2.1, by decide, cmC_X12.2.2⟩
set_option maxRecDepth 100000 in
theorem cm_X12_tell : plainName M_X12_tell.1.cls = true ∧ Cond.code M_X12_tell.1 M_X12_tell.2.1 M_X12_tell.2.2.1 M_X12_tell.2.2.2 ∈ dp_tb ∧ Cond.initialized M_X12_tell.1.cls ∈ dp_tb ∧ M_X12_tell.2.2.1 ≤ 40 ∧ (M_X12_tell.1.cls ≠ "java/lang/invoke/MethodHandle" ∧ M_X12_tell.1.cls ≠ "java/lang/invoke/VarHandle") := ⟨cmC_X12.1, (dp_m 1064 (by exact rfl) rfl), cmC_X12.2.1, by decide, cmC_X12.2.2⟩
set_option maxRecDepth 100000 in
theorem cm_X12_copy : plainName M_X12_copy.1.cls = true ∧ Cond.code M_X12_copy.1 M_X12_copy.2.1 M_X12_copy.2.2.1 M_X12_copy.2.2.2 ∈ dp_tb ∧ Cond.initialized M_X12_copy.1.cls ∈ dp_tb ∧ M_X12_copy.2.2.1 ≤ 40 ∧ (M_X12_copy.1.cls ≠ "java/lang/invoke/MethodHandle" ∧ M_X12_copy.1.cls ≠ "java/lang/invoke/VarHandle") := ⟨cmC_X12.1, (dp_m 1068 (by exact rfl) rfl), cmC_X12.2.1, by decide, cmC_X12.2.2⟩
set_option maxRecDepth 100000 in
theorem cm_X12_check : plainName M_X12_check.1.cls = true ∧ Cond.code M_X12_check.1 M_X12_check.2.1 M_X12_check.2.2.1 M_X12_check.2.2.2 ∈ dp_tb ∧ Cond.initialized M_X12_check.1.cls ∈ dp_tb ∧ M_X12_check.2.2.1 ≤ 40 ∧ (M_X12_check.1.cls ≠ "java/lang/invoke/MethodHandle" ∧ M_X12_check.1.cls ≠ "java/lang/invoke/VarHandle") := ⟨cmC_X12.1, (dp_m 1072 (by exact rfl) rfl), cmC_X12.2.1, by decide, cmC_X12.2.2⟩
set_option maxRecDepth 100000 in
theorem cm_X12_used : plainName M_X12_used.1.cls = true ∧ Cond.code M_X12_used.1 M_X12_used.2.1 M_X12_used.2.2.1 M_X12_used.2.2.2 ∈ dp_tb ∧ Cond.initialized M_X12_used.1.cls ∈ dp_tb ∧ M_X12_used.2.2.1 ≤ 40 ∧ (M_X12_used.1.cls ≠ "java/lang/invoke/MethodHandle" ∧ M_X12_used.1.cls ≠ "java/lang/invoke/VarHandle") := ⟨cmC_X12.1, (dp_m 1076 (by exact rfl) rfl), cmC_X12.2.1, by decide, cmC_X12.2.2⟩
set_option maxRecDepth 100000 in
theorem cm_X12_needed : plainName M_X12_needed.1.cls = true ∧ Cond.code M_X12_needed.1 M_X12_needed.2.1 M_X12_needed.2.2.1 M_X12_needed.2.2.2 ∈ dp_tb ∧ Cond.initialized M_X12_needed.1.cls ∈ dp_tb ∧ M_X12_needed.2.2.1 ≤ 40 ∧ (M_X12_needed.1.cls ≠ "java/lang/invoke/MethodHandle" ∧ M_X12_needed.1.cls ≠ "java/lang/invoke/VarHandle") := ⟨cmC_X12.1, (dp_m 1080 (by exact rfl) rfl), cmC_X12.2.1, by decide, cmC_X12.2.2⟩
set_option maxRecDepth 100000 in
theorem cm_X12_clash : plainName M_X12_clash.1.cls = true ∧ Cond.code M_X12_clash.1 M_X12_clash.2.1 M_X12_clash.2.2.1 M_X12_clash.2.2.2 ∈ dp_tb ∧ Cond.initialized M_X12_clash.1.cls ∈ dp_tb ∧ M_X12_clash.2.2.1 ≤ 40 ∧ (M_X12_clash.1.cls ≠ "java/lang/invoke/MethodHandle" ∧ M_X12_clash.1.cls ≠ "java/lang/invoke/VarHandle") := ⟨cmC_X12.1, (dp_m 1084 (by exact rfl) rfl), cmC_X12.2.1, by decide, cmC_X12.2.2⟩
set_option maxRecDepth 100000 in
theorem cm_X12_labour : plainName M_X12_labour.1.cls = true ∧ Cond.code M_X12_labour.1 M_X12_labour.2.1 M_X12_labour.2.2.1 M_X12_labour.2.2.2 ∈ dp_tb ∧ Cond.initialized M_X12_labour.1.cls ∈ dp_tb ∧ M_X12_labour.2.2.1 ≤ 40 ∧ (M_X12_labour.1.cls ≠ "java/lang/invoke/MethodHandle" ∧ M_X12_labour.1.cls ≠ "java/lang/invoke/VarHandle") := ⟨cmC_X12.1, (dp_m 1088 (by exact rfl) rfl), cmC_X12.2.1, by decide, cmC_X12.2.2⟩
set_option maxRecDepth 100000 in
theorem cm_X12_count : plainName M_X12_count.1.cls = true ∧ Cond.code M_X12_count.1 M_X12_count.2.1 M_X12_count.2.2.1 M_X12_count.2.2.2 ∈ dp_tb ∧ Cond.initialized M_X12_count.1.cls ∈ dp_tb ∧ M_X12_count.2.2.1 ≤ 40 ∧ (M_X12_count.1.cls ≠ "java/lang/invoke/MethodHandle" ∧ M_X12_count.1.cls ≠ "java/lang/invoke/VarHandle") := ⟨cmC_X12.1, (dp_m 1095 (by exact rfl) rfl), cmC_X12.2.1, by decide, cmC_X12.2.2⟩
set_option maxRecDepth 100000 in
theorem cm_X12_trace : plainName M_X12_trace.1.cls = true ∧ Cond.code M_X12_trace.1 M_X12_trace.2.1 M_X12_trace.2.2.1 M_X12_trace.2.2.2 ∈ dp_tb ∧ Cond.initialized M_X12_trace.1.cls ∈ dp_tb ∧ M_X12_trace.2.2.1 ≤ 40 ∧ (M_X12_trace.1.cls ≠ "java/lang/invoke/MethodHandle" ∧ M_X12_trace.1.cls ≠ "java/lang/invoke/VarHandle") := ⟨cmC_X12.1, (dp_m 1099 (by exact rfl) rfl), cmC_X12.2.1, by decide, cmC_X12.2.2⟩
theorem fl_X8_9 : ev_fl RX8 9 8 0 := ⟨_, rfl, by decide, Or.inl (dp_m 31 (by decide +kernel) rfl)⟩
theorem fl_X8_15 : ev_fl RX8 15 8 1 := ⟨_, rfl, by decide, Or.inl (dp_m 32 (by decide +kernel) rfl)⟩
theorem fl_X8_28 : ev_fl RX8 28 8 2 := ⟨_, rfl, by decide, Or.inl (dp_m 33 (by decide +kernel) rfl)⟩
theorem fl_X8_25 : ev_fl RX8 25 8 3 := ⟨_, rfl, by decide, Or.inl (dp_m 34 (by decide +kernel) rfl)⟩
theorem fl_X8_19 : ev_fl RX8 19 8 4 := ⟨_, rfl, by decide, Or.inl (dp_m 35 (by decide +kernel) rfl)⟩
theorem fl_X8_22 : ev_fl RX8 22 8 5 := ⟨_, rfl, by decide, Or.inl (dp_m 36 (by decide +kernel) rfl)⟩
theorem fl_X4_9 : ev_fl RX4 9 4 0 := ⟨_, rfl, by decide, Or.inl (dp_m 57 (by decide +kernel) rfl)⟩
theorem fl_X4_15 : ev_fl RX4 15 4 1 := ⟨_, rfl, by decide, Or.inl (dp_m 58 (by decide +kernel) rfl)⟩
theorem fl_X4_18 : ev_fl RX4 18 4 2 := ⟨_, rfl, by decide, Or.inl (dp_m 59 (by decide +kernel) rfl)⟩
theorem fl_X4_30 : ev_fl RX4 30 4 3 := ⟨_, rfl, by decide, Or.inl (dp_m 60 (by decide +kernel) rfl)⟩
theorem fl_X4_60 : ev_fl RX4 60 4 4 := ⟨_, rfl, by decide, Or.inl (dp_m 61 (by decide +kernel) rfl)⟩
theorem fl_X4_63 : ev_fl RX4 63 4 5 := ⟨_, rfl, by decide, Or.inl (dp_m 62 (by decide +kernel) rfl)⟩
theorem fl_X4_21 : ev_fl RX4 21 4 6 := ⟨_, rfl, by decide, Or.inl (dp_m 63 (by decide +kernel) rfl)⟩
theorem fl_X4_24 : ev_fl RX4 24 4 7 := ⟨_, rfl, by decide, Or.inl (dp_m 64 (by decide +kernel) rfl)⟩
theorem fl_X4_27 : ev_fl RX4 27 4 8 := ⟨_, rfl, by decide, Or.inl (dp_m 65 (by decide +kernel) rfl)⟩
theorem fl_X4_38 : ev_fl RX4 38 4 9 := ⟨_, rfl, by decide, Or.inl (dp_m 66 (by decide +kernel) rfl)⟩
theorem fl_X10_9 : ev_fl RX10 9 10 0 := ⟨_, rfl, by decide, Or.inl (dp_m 103 (by decide +kernel) rfl)⟩
theorem fl_X7_12 : ev_fl RX7 12 7 0 := ⟨_, rfl, by decide, Or.inl (dp_m 121 (by decide +kernel) rfl)⟩
theorem fl_X11_139 : ev_fl RX11 139 7 0 := ⟨_, rfl, by decide, Or.inl (dp_m 122 (by decide +kernel) rfl)⟩
theorem fl_X7_18 : ev_fl RX7 18 7 1 := ⟨_, rfl, by decide, Or.inl (dp_m 123 (by decide +kernel) rfl)⟩
theorem fl_X11_143 : ev_fl RX11 143 7 1 := ⟨_, rfl, by decide, Or.inl (dp_m 124 (by decide +kernel) rfl)⟩
theorem fl_X7_21 : ev_fl RX7 21 7 2 := ⟨_, rfl, by decide, Or.inl (dp_m 125 (by decide +kernel) rfl)⟩
theorem fl_X11_177 : ev_fl RX11 177 7 2 := ⟨_, rfl, by decide, Or.inl (dp_m 126 (by decide +kernel) rfl)⟩
theorem fl_X7_24 : ev_fl RX7 24 7 3 := ⟨_, rfl, by decide, Or.inl (dp_m 127 (by decide +kernel) rfl)⟩
theorem fl_X11_180 : ev_fl RX11 180 7 3 := ⟨_, rfl, by decide, Or.inl (dp_m 128 (by decide +kernel) rfl)⟩
theorem fl_X7_27 : ev_fl RX7 27 7 4 := ⟨_, rfl, by decide, Or.inl (dp_m 129 (by decide +kernel) rfl)⟩
theorem fl_X7_33 : ev_fl RX7 33 7 5 := ⟨_, rfl, by decide, Or.inl (dp_m 130 (by decide +kernel) rfl)⟩
theorem fl_X7_37 : ev_fl RX7 37 7 6 := ⟨_, rfl, by decide, Or.inl (dp_m 131 (by decide +kernel) rfl)⟩
theorem fl_X7_70 : ev_fl RX7 70 7 7 := ⟨_, rfl, by decide, Or.inl (dp_m 132 (by decide +kernel) rfl)⟩
theorem fl_X7_97 : ev_fl RX7 97 7 8 := ⟨_, rfl, by decide, Or.inl (dp_m 133 (by decide +kernel) rfl)⟩
theorem fl_X0_11 : ev_fl RX0 11 0 0 := ⟨_, rfl, by decide, Or.inl (dp_m 162 (by decide +kernel) rfl)⟩
theorem fl_X0_17 : ev_fl RX0 17 0 1 := ⟨_, rfl, by decide, Or.inl (dp_m 163 (by decide +kernel) rfl)⟩
theorem fl_X0_27 : ev_fl RX0 27 0 2 := ⟨_, rfl, by decide, Or.inl (dp_m 164 (by decide +kernel) rfl)⟩
theorem fl_X0_37 : ev_fl RX0 37 0 3 := ⟨_, rfl, by decide, Or.inl (dp_m 165 (by decide +kernel) rfl)⟩
theorem fl_X0_41 : ev_fl RX0 41 0 4 := ⟨_, rfl, by decide, Or.inl (dp_m 166 (by decide +kernel) rfl)⟩
theorem fl_X0_44 : ev_fl RX0 44 0 5 := ⟨_, rfl, by decide, Or.inl (dp_m 167 (by decide +kernel) rfl)⟩
theorem fl_X9_7 : ev_fl RX9 7 9 0 := ⟨_, rfl, by decide, Or.inl (dp_m 189 (by decide +kernel) rfl)⟩
theorem fl_X3_11 : ev_fl RX3 11 3 0 := ⟨_, rfl, by decide, Or.inl (dp_m 228 (by decide +kernel) rfl)⟩
theorem fl_X3_28 : ev_fl RX3 28 3 1 := ⟨_, rfl, by decide, Or.inl (dp_m 229 (by decide +kernel) rfl)⟩
theorem fl_X3_31 : ev_fl RX3 31 3 2 := ⟨_, rfl, by decide, Or.inl (dp_m 230 (by decide +kernel) rfl)⟩
theorem fl_X3_34 : ev_fl RX3 34 3 3 := ⟨_, rfl, by decide, Or.inl (dp_m 231 (by decide +kernel) rfl)⟩
theorem fl_X7_46 : ev_fl RX7 46 3 3 := ⟨_, rfl, by decide, Or.inl (dp_m 232 (by decide +kernel) rfl)⟩
theorem fl_X3_17 : ev_fl RX3 17 3 4 := ⟨_, rfl, by decide, Or.inl (dp_m 233 (by decide +kernel) rfl)⟩
theorem fl_X11_295 : ev_fl RX11 295 3 4 := ⟨_, rfl, by decide, Or.inl (dp_m 234 (by decide +kernel) rfl)⟩
theorem fl_X3_21 : ev_fl RX3 21 3 5 := ⟨_, rfl, by decide, Or.inl (dp_m 235 (by decide +kernel) rfl)⟩
theorem fl_X11_298 : ev_fl RX11 298 3 5 := ⟨_, rfl, by decide, Or.inl (dp_m 236 (by decide +kernel) rfl)⟩
theorem fl_X3_24 : ev_fl RX3 24 3 6 := ⟨_, rfl, by decide, Or.inl (dp_m 237 (by decide +kernel) rfl)⟩
theorem fl_X11_12 : ev_fl RX11 12 11 0 := ⟨_, rfl, by decide, Or.inl (dp_m 253 (by decide +kernel) rfl)⟩
theorem fl_X11_19 : ev_fl RX11 19 11 1 := ⟨_, rfl, by decide, Or.inl (dp_m 254 (by decide +kernel) rfl)⟩
theorem fl_X11_25 : ev_fl RX11 25 11 2 := ⟨_, rfl, by decide, Or.inl (dp_m 255 (by decide +kernel) rfl)⟩
theorem fl_X11_32 : ev_fl RX11 32 11 3 := ⟨_, rfl, by decide, Or.inl (dp_m 256 (by decide +kernel) rfl)⟩
theorem fl_X11_39 : ev_fl RX11 39 11 4 := ⟨_, rfl, by decide, Or.inl (dp_m 257 (by decide +kernel) rfl)⟩
theorem fl_X11_46 : ev_fl RX11 46 11 5 := ⟨_, rfl, by decide, Or.inl (dp_m 258 (by decide +kernel) rfl)⟩
theorem fl_X11_53 : ev_fl RX11 53 11 6 := ⟨_, rfl, by decide, Or.inl (dp_m 259 (by decide +kernel) rfl)⟩
theorem fl_X11_60 : ev_fl RX11 60 11 7 := ⟨_, rfl, by decide, Or.inl (dp_m 260 (by decide +kernel) rfl)⟩
theorem fl_X11_67 : ev_fl RX11 67 11 8 := ⟨_, rfl, by decide, Or.inl (dp_m 261 (by decide +kernel) rfl)⟩
theorem fl_X11_73 : ev_fl RX11 73 11 9 := ⟨_, rfl, by decide, Or.inl (dp_m 262 (by decide +kernel) rfl)⟩
theorem fl_X11_79 : ev_fl RX11 79 11 10 := ⟨_, rfl, by decide, Or.inl (dp_m 263 (by decide +kernel) rfl)⟩
theorem fl_X11_108 : ev_fl RX11 108 11 11 := ⟨_, rfl, by decide, Or.inl (dp_m 264 (by decide +kernel) rfl)⟩
theorem fl_X11_118 : ev_fl RX11 118 11 12 := ⟨_, rfl, by decide, Or.inl (dp_m 265 (by decide +kernel) rfl)⟩
theorem fl_X11_211 : ev_fl RX11 211 11 13 := ⟨_, rfl, by decide, Or.inl (dp_m 266 (by decide +kernel) rfl)⟩
theorem fl_X11_82 : ev_fl RX11 82 11 14 := ⟨_, rfl, by decide, Or.inl (dp_m 267 (by decide +kernel) rfl)⟩
theorem fl_X11_86 : ev_fl RX11 86 11 15 := ⟨_, rfl, by decide, Or.inl (dp_m 268 (by decide +kernel) rfl)⟩
theorem fs_X10_15 : Cond.fieldLink RX10 15 RX10 "SO" "[J" ∈ dp_tb := (dp_m 434 (by decide +kernel) rfl)
theorem fl_X12_57 : ev_fl RX12 57 12 0 := ⟨_, rfl, by decide, Or.inl (dp_m 834 (by decide +kernel) rfl)⟩
theorem fl_X12_183 : ev_fl RX12 183 12 1 := ⟨_, rfl, by decide, Or.inl (dp_m 835 (by decide +kernel) rfl)⟩
theorem fl_X12_7 : ev_fl RX12 7 12 2 := ⟨_, rfl, by decide, Or.inl (dp_m 836 (by decide +kernel) rfl)⟩
theorem fl_X12_64 : ev_fl RX12 64 12 3 := ⟨_, rfl, by decide, Or.inl (dp_m 837 (by decide +kernel) rfl)⟩
theorem fl_X12_82 : ev_fl RX12 82 12 4 := ⟨_, rfl, by decide, Or.inl (dp_m 838 (by decide +kernel) rfl)⟩
theorem fl_X12_76 : ev_fl RX12 76 12 5 := ⟨_, rfl, by decide, Or.inl (dp_m 839 (by decide +kernel) rfl)⟩
theorem fl_X12_69 : ev_fl RX12 69 12 6 := ⟨_, rfl, by decide, Or.inl (dp_m 840 (by decide +kernel) rfl)⟩
theorem fl_X12_79 : ev_fl RX12 79 12 7 := ⟨_, rfl, by decide, Or.inl (dp_m 841 (by decide +kernel) rfl)⟩
theorem fl_X12_89 : ev_fl RX12 89 12 8 := ⟨_, rfl, by decide, Or.inl (dp_m 842 (by decide +kernel) rfl)⟩
theorem fl_X12_112 : ev_fl RX12 112 12 9 := ⟨_, rfl, by decide, Or.inl (dp_m 843 (by decide +kernel) rfl)⟩
theorem fl_X12_115 : ev_fl RX12 115 12 10 := ⟨_, rfl, by decide, Or.inl (dp_m 844 (by decide +kernel) rfl)⟩
theorem fl_X12_118 : ev_fl RX12 118 12 11 := ⟨_, rfl, by decide, Or.inl (dp_m 845 (by decide +kernel) rfl)⟩
theorem fl_X12_13 : ev_fl RX12 13 12 12 := ⟨_, rfl, by decide, Or.inl (dp_m 846 (by decide +kernel) rfl)⟩
theorem fl_X12_17 : ev_fl RX12 17 12 13 := ⟨_, rfl, by decide, Or.inl (dp_m 847 (by decide +kernel) rfl)⟩
theorem fl_X12_20 : ev_fl RX12 20 12 14 := ⟨_, rfl, by decide, Or.inl (dp_m 848 (by decide +kernel) rfl)⟩
theorem fl_X12_23 : ev_fl RX12 23 12 15 := ⟨_, rfl, by decide, Or.inl (dp_m 849 (by decide +kernel) rfl)⟩
theorem fl_X12_26 : ev_fl RX12 26 12 16 := ⟨_, rfl, by decide, Or.inl (dp_m 850 (by decide +kernel) rfl)⟩
theorem fl_X12_30 : ev_fl RX12 30 12 17 := ⟨_, rfl, by decide, Or.inl (dp_m 851 (by decide +kernel) rfl)⟩
theorem fl_X12_33 : ev_fl RX12 33 12 18 := ⟨_, rfl, by decide, Or.inl (dp_m 852 (by decide +kernel) rfl)⟩
theorem fl_X12_36 : ev_fl RX12 36 12 19 := ⟨_, rfl, by decide, Or.inl (dp_m 853 (by decide +kernel) rfl)⟩
theorem fl_X12_39 : ev_fl RX12 39 12 20 := ⟨_, rfl, by decide, Or.inl (dp_m 854 (by decide +kernel) rfl)⟩
theorem fl_X12_42 : ev_fl RX12 42 12 21 := ⟨_, rfl, by decide, Or.inl (dp_m 855 (by decide +kernel) rfl)⟩
theorem fl_X12_45 : ev_fl RX12 45 12 22 := ⟨_, rfl, by decide, Or.inl (dp_m 856 (by decide +kernel) rfl)⟩
theorem fl_X12_48 : ev_fl RX12 48 12 23 := ⟨_, rfl, by decide, Or.inl (dp_m 857 (by decide +kernel) rfl)⟩
theorem fl_X12_51 : ev_fl RX12 51 12 24 := ⟨_, rfl, by decide, Or.inl (dp_m 858 (by decide +kernel) rfl)⟩
theorem lc_X8_54 : Cond.constant RX8 54 (7302757) ∈ dp_tb := (dp_m 353 (by decide +kernel) rfl)
theorem lc_X8_55 : Cond.constant RX8 55 (7632751) ∈ dp_tb := (dp_m 354 (by decide +kernel) rfl)
theorem lc_X8_56 : Cond.constant RX8 56 (6518132) ∈ dp_tb := (dp_m 355 (by decide +kernel) rfl)
theorem lc_J6_265 : Cond.constant RJ6 265 (1431655765) ∈ dp_tb := (dp_m 495 (by decide +kernel) rfl)
theorem lc_J6_266 : Cond.constant RJ6 266 (858993459) ∈ dp_tb := (dp_m 496 (by decide +kernel) rfl)
theorem lc_J6_267 : Cond.constant RJ6 267 (252645135) ∈ dp_tb := (dp_m 497 (by decide +kernel) rfl)
theorem lc_X10_18 : Cond.constantLong RX10 18 (-1) ∈ dp_tb := (dp_m 120 (by decide +kernel) rfl)
theorem lc_J13_314 : Cond.constantLong RJ13 314 (6148914691236517205) ∈ dp_tb := (dp_m 609 (by decide +kernel) rfl)
theorem lc_J13_316 : Cond.constantLong RJ13 316 (3689348814741910323) ∈ dp_tb := (dp_m 610 (by decide +kernel) rfl)
theorem lc_J13_318 : Cond.constantLong RJ13 318 (1085102592571150095) ∈ dp_tb := (dp_m 611 (by decide +kernel) rfl)
theorem lc_X12_137 : Cond.constantLong RX12 137 (-1) ∈ dp_tb := (dp_m 827 (by decide +kernel) rfl)
theorem lc_X12_67 : Cond.constantLong RX12 67 (255) ∈ dp_tb := (dp_m 917 (by decide +kernel) rfl)
theorem lc_X12_187 : Cond.constantLong RX12 187 (11) ∈ dp_tb := (dp_m 1089 (by decide +kernel) rfl)
theorem lc_X12_189 : Cond.constantLong RX12 189 (101) ∈ dp_tb := (dp_m 1090 (by decide +kernel) rfl)
theorem lc_X12_191 : Cond.constantLong RX12 191 (1011) ∈ dp_tb := (dp_m 1091 (by decide +kernel) rfl)
theorem lc_L_13 : Cond.constantLong R_law 13 (4294967295) ∈ dp_tb := (dp_m 1100 (by decide +kernel) rfl)
theorem mm_st : Cond.static Lib.Math.min.name ∈ dp_tb := dp_m 364 (by decide +kernel) rfl
theorem mm_in : Cond.initialized "java/lang/Math" ∈ dp_tb := dp_m 14 (by decide +kernel) rfl
theorem mm_co : Cond.code Lib.Math.min.name Lib.Math.min.code 2 (some .int) ∈ dp_tb := dp_m 365 (by decide +kernel) rfl
theorem mm_X8_57 : Cond.methodLink RX8 57 Lib.Math.min.name ∈ dp_tb := dp_m 363 (by decide +kernel) rfl
theorem mm_X11_229 : Cond.methodLink RX11 229 Lib.Math.min.name ∈ dp_tb := dp_m 398 (by decide +kernel) rfl
theorem mm_X0_21 : Cond.methodLink RX0 21 Lib.Math.min.name ∈ dp_tb := dp_m 469 (by decide +kernel) rfl

theorem tb_1 {w : Cond} (h : w ∈ tables_1_1) : w ∈ lw_tbl := List.mem_append_right _ (List.mem_append_left _ h)
theorem tb_2 {w : Cond} (h : w ∈ tables_1_2) : w ∈ lw_tbl := List.mem_append_right _ (List.mem_append_right _ (List.mem_append_left _ h))
theorem tb_3 {w : Cond} (h : w ∈ tables_1_3) : w ∈ lw_tbl := List.mem_append_right _ (List.mem_append_right _ (List.mem_append_right _ (List.mem_append_left _ h)))
theorem tb_4 {w : Cond} (h : w ∈ tables_1_4) : w ∈ lw_tbl := List.mem_append_right _ (List.mem_append_right _ (List.mem_append_right _ (List.mem_append_right _ (List.mem_append_left _ h))))
theorem tb_5 {w : Cond} (h : w ∈ tables_1_5) : w ∈ lw_tbl := List.mem_append_right _ (List.mem_append_right _ (List.mem_append_right _ (List.mem_append_right _ (List.mem_append_right _ (List.mem_append_left _ h)))))
theorem tb_6 {w : Cond} (h : w ∈ tables_1_6) : w ∈ lw_tbl := List.mem_append_right _ (List.mem_append_right _ (List.mem_append_right _ (List.mem_append_right _ (List.mem_append_right _ (List.mem_append_right _ (List.mem_append_left _ h))))))
theorem tb_7 {w : Cond} (h : w ∈ tables_1_7) : w ∈ lw_tbl := List.mem_append_right _ (List.mem_append_right _ (List.mem_append_right _ (List.mem_append_right _ (List.mem_append_right _ (List.mem_append_right _ (List.mem_append_right _ (List.mem_append_left _ h)))))))
theorem tb_8 {w : Cond} (h : w ∈ tables_1_8) : w ∈ lw_tbl := List.mem_append_right _ (List.mem_append_right _ (List.mem_append_right _ (List.mem_append_right _ (List.mem_append_right _ (List.mem_append_right _ (List.mem_append_right _ (List.mem_append_right _ (List.mem_append_left _ h))))))))
theorem tb_9 {w : Cond} (h : w ∈ tables_1_9) : w ∈ lw_tbl := List.mem_append_right _ (List.mem_append_right _ (List.mem_append_right _ (List.mem_append_right _ (List.mem_append_right _ (List.mem_append_right _ (List.mem_append_right _ (List.mem_append_right _ (List.mem_append_right _ (h)))))))))
abbrev kX1_init : MT := (yX1_init, cX1_init, 8, none, [])
set_option maxRecDepth 20000 in
theorem ce_X1_init : CE kX1_init 7 := ⟨inTb (tb_4 (List.mem_of_getElem? (i := 170) rfl)) (by decide +kernel), inTb (tb_1 (List.mem_of_getElem? (i := 37) (by decide +kernel))) (by decide +kernel), ⟨by decide +kernel, by decide +kernel⟩, by decide +kernel, by decide +kernel⟩
theorem pl_X1_init : plainName kX1_init.1.cls = true := by decide +kernel
abbrev kX1_copy : MT := (yX1_copy, cX1_copy, 2, (some (.object "ButtonRegistry$Case")), [])
set_option maxRecDepth 20000 in
theorem ce_X1_copy : CE kX1_copy 0 := ⟨inTb (tb_4 (List.mem_of_getElem? (i := 165) rfl)) (by decide +kernel), inTb (tb_1 (List.mem_of_getElem? (i := 37) (by decide +kernel))) (by decide +kernel), ⟨by decide +kernel, by decide +kernel⟩, by decide +kernel, by decide +kernel⟩
theorem pl_X1_copy : plainName kX1_copy.1.cls = true := by decide +kernel
abbrev kX1_ruleAt : MT := (yX1_ruleAt, cX1_ruleAt, 2, none, [])
set_option maxRecDepth 20000 in
theorem ce_X1_ruleAt : CE kX1_ruleAt 1 := ⟨inTb (tb_5 (List.mem_of_getElem? (i := 90) rfl)) (by decide +kernel), inTb (tb_1 (List.mem_of_getElem? (i := 37) (by decide +kernel))) (by decide +kernel), ⟨by decide +kernel, by decide +kernel⟩, by decide +kernel, by decide +kernel⟩
theorem pl_X1_ruleAt : plainName kX1_ruleAt.1.cls = true := by decide +kernel
abbrev kX1_ranksBefore : MT := (yX1_ranksBefore, cX1_ranksBefore, 2, (some .boolean), [])
set_option maxRecDepth 20000 in
theorem ce_X1_ranksBefore : CE kX1_ranksBefore 1 := ⟨inTb (tb_8 (List.mem_of_getElem? (i := 7) rfl)) (by decide +kernel), inTb (tb_1 (List.mem_of_getElem? (i := 37) (by decide +kernel))) (by decide +kernel), ⟨by decide +kernel, by decide +kernel⟩, by decide +kernel, by decide +kernel⟩
theorem pl_X1_ranksBefore : plainName kX1_ranksBefore.1.cls = true := by decide +kernel
abbrev kX2_init : MT := (yX2_init, cX2_init, 1, none, [])
set_option maxRecDepth 20000 in
theorem ce_X2_init : CE kX2_init 0 := ⟨inTb (tb_1 (List.mem_of_getElem? (i := 162) rfl)) (by decide +kernel), inTb (tb_1 (List.mem_of_getElem? (i := 10) (by decide +kernel))) (by decide +kernel), ⟨by decide +kernel, by decide +kernel⟩, by decide +kernel, by decide +kernel⟩
theorem pl_X2_init : plainName kX2_init.1.cls = true := by decide +kernel
abbrev kX2_perform : MT := (yX2_perform, cX2_perform, 6, (some .int), [])
set_option maxRecDepth 20000 in
theorem ce_X2_perform : CE kX2_perform 2 := ⟨inTb (tb_6 (List.mem_of_getElem? (i := 104) rfl)) (by decide +kernel), inTb (tb_1 (List.mem_of_getElem? (i := 10) (by decide +kernel))) (by decide +kernel), ⟨by decide +kernel, by decide +kernel⟩, by decide +kernel, by decide +kernel⟩
theorem pl_X2_perform : plainName kX2_perform.1.cls = true := by decide +kernel
abbrev kX2_isBetween : MT := (yX2_isBetween, cX2_isBetween, 3, (some .boolean), [])
set_option maxRecDepth 20000 in
theorem ce_X2_isBetween : CE kX2_isBetween 3 := ⟨inTb (tb_5 (List.mem_of_getElem? (i := 166) rfl)) (by decide +kernel), inTb (tb_1 (List.mem_of_getElem? (i := 10) (by decide +kernel))) (by decide +kernel), ⟨by decide +kernel, by decide +kernel⟩, by decide +kernel, by decide +kernel⟩
theorem pl_X2_isBetween : plainName kX2_isBetween.1.cls = true := by decide +kernel
abbrev kX2_enterButton : MT := (yX2_enterButton, cX2_enterButton, 2, (some .int), [])
set_option maxRecDepth 20000 in
theorem ce_X2_enterButton : CE kX2_enterButton 1 := ⟨inTb (tb_4 (List.mem_of_getElem? (i := 27) rfl)) (by decide +kernel), inTb (tb_1 (List.mem_of_getElem? (i := 10) (by decide +kernel))) (by decide +kernel), ⟨by decide +kernel, by decide +kernel⟩, by decide +kernel, by decide +kernel⟩
theorem pl_X2_enterButton : plainName kX2_enterButton.1.cls = true := by decide +kernel
abbrev kX2_joinButtons : MT := (yX2_joinButtons, cX2_joinButtons, 6, (some .int), [])
set_option maxRecDepth 20000 in
theorem ce_X2_joinButtons : CE kX2_joinButtons 4 := ⟨inTb (tb_6 (List.mem_of_getElem? (i := 121) rfl)) (by decide +kernel), inTb (tb_1 (List.mem_of_getElem? (i := 10) (by decide +kernel))) (by decide +kernel), ⟨by decide +kernel, by decide +kernel⟩, by decide +kernel, by decide +kernel⟩
theorem pl_X2_joinButtons : plainName kX2_joinButtons.1.cls = true := by decide +kernel
abbrev kX2_separateButtons : MT := (yX2_separateButtons, cX2_separateButtons, 5, (some .int), [])
set_option maxRecDepth 20000 in
theorem ce_X2_separateButtons : CE kX2_separateButtons 3 := ⟨inTb (tb_6 (List.mem_of_getElem? (i := 135) rfl)) (by decide +kernel), inTb (tb_1 (List.mem_of_getElem? (i := 10) (by decide +kernel))) (by decide +kernel), ⟨by decide +kernel, by decide +kernel⟩, by decide +kernel, by decide +kernel⟩
theorem pl_X2_separateButtons : plainName kX2_separateButtons.1.cls = true := by decide +kernel
abbrev kX2_enterPrecedent : MT := (yX2_enterPrecedent, cX2_enterPrecedent, 4, (some .int), [])
set_option maxRecDepth 20000 in
theorem ce_X2_enterPrecedent : CE kX2_enterPrecedent 3 := ⟨inTb (tb_6 (List.mem_of_getElem? (i := 148) rfl)) (by decide +kernel), inTb (tb_1 (List.mem_of_getElem? (i := 10) (by decide +kernel))) (by decide +kernel), ⟨by decide +kernel, by decide +kernel⟩, by decide +kernel, by decide +kernel⟩
theorem pl_X2_enterPrecedent : plainName kX2_enterPrecedent.1.cls = true := by decide +kernel
abbrev kX2_enterCase : MT := (yX2_enterCase, cX2_enterCase, 9, (some .int), [])
set_option maxRecDepth 20000 in
theorem ce_X2_enterCase : CE kX2_enterCase 7 := ⟨inTb (tb_6 (List.mem_of_getElem? (i := 139) rfl)) (by decide +kernel), inTb (tb_1 (List.mem_of_getElem? (i := 10) (by decide +kernel))) (by decide +kernel), ⟨by decide +kernel, by decide +kernel⟩, by decide +kernel, by decide +kernel⟩
theorem pl_X2_enterCase : plainName kX2_enterCase.1.cls = true := by decide +kernel
abbrev kX2_hearCase : MT := (yX2_hearCase, cX2_hearCase, 6, (some .int), [])
set_option maxRecDepth 20000 in
theorem ce_X2_hearCase : CE kX2_hearCase 2 := ⟨inTb (tb_4 (List.mem_of_getElem? (i := 154) rfl)) (by decide +kernel), inTb (tb_1 (List.mem_of_getElem? (i := 10) (by decide +kernel))) (by decide +kernel), ⟨by decide +kernel, by decide +kernel⟩, by decide +kernel, by decide +kernel⟩
theorem pl_X2_hearCase : plainName kX2_hearCase.1.cls = true := by decide +kernel
abbrev kX2_addRuling : MT := (yX2_addRuling, cX2_addRuling, 2, none, [])
set_option maxRecDepth 20000 in
theorem ce_X2_addRuling : CE kX2_addRuling 2 := ⟨inTb (tb_5 (List.mem_of_getElem? (i := 93) rfl)) (by decide +kernel), inTb (tb_1 (List.mem_of_getElem? (i := 10) (by decide +kernel))) (by decide +kernel), ⟨by decide +kernel, by decide +kernel⟩, by decide +kernel, by decide +kernel⟩
theorem pl_X2_addRuling : plainName kX2_addRuling.1.cls = true := by decide +kernel
abbrev kX2_appealCase : MT := (yX2_appealCase, cX2_appealCase, 7, (some .int), [])
set_option maxRecDepth 20000 in
theorem ce_X2_appealCase : CE kX2_appealCase 2 := ⟨inTb (tb_5 (List.mem_of_getElem? (i := 140) rfl)) (by decide +kernel), inTb (tb_1 (List.mem_of_getElem? (i := 10) (by decide +kernel))) (by decide +kernel), ⟨by decide +kernel, by decide +kernel⟩, by decide +kernel, by decide +kernel⟩
theorem pl_X2_appealCase : plainName kX2_appealCase.1.cls = true := by decide +kernel
abbrev kX2_nearestOf : MT := (yX2_nearestOf, cX2_nearestOf, 9, (some .int), [])
set_option maxRecDepth 20000 in
theorem ce_X2_nearestOf : CE kX2_nearestOf 4 := ⟨inTb (tb_5 (List.mem_of_getElem? (i := 39) rfl)) (by decide +kernel), inTb (tb_1 (List.mem_of_getElem? (i := 10) (by decide +kernel))) (by decide +kernel), ⟨by decide +kernel, by decide +kernel⟩, by decide +kernel, by decide +kernel⟩
theorem pl_X2_nearestOf : plainName kX2_nearestOf.1.cls = true := by decide +kernel
abbrev kX2_percentageBy : MT := (yX2_percentageBy, cX2_percentageBy, 6, (some .int), [])
set_option maxRecDepth 20000 in
theorem ce_X2_percentageBy : CE kX2_percentageBy 3 := ⟨inTb (tb_5 (List.mem_of_getElem? (i := 84) rfl)) (by decide +kernel), inTb (tb_1 (List.mem_of_getElem? (i := 10) (by decide +kernel))) (by decide +kernel), ⟨by decide +kernel, by decide +kernel⟩, by decide +kernel, by decide +kernel⟩
theorem pl_X2_percentageBy : plainName kX2_percentageBy.1.cls = true := by decide +kernel
abbrev kX2_moveAward : MT := (yX2_moveAward, cX2_moveAward, 3, none, [])
set_option maxRecDepth 20000 in
theorem ce_X2_moveAward : CE kX2_moveAward 3 := ⟨inTb (tb_5 (List.mem_of_getElem? (i := 117) rfl)) (by decide +kernel), inTb (tb_1 (List.mem_of_getElem? (i := 10) (by decide +kernel))) (by decide +kernel), ⟨by decide +kernel, by decide +kernel⟩, by decide +kernel, by decide +kernel⟩
theorem pl_X2_moveAward : plainName kX2_moveAward.1.cls = true := by decide +kernel
abbrev kX2_shareCost : MT := (yX2_shareCost, cX2_shareCost, 3, none, [])
set_option maxRecDepth 20000 in
theorem ce_X2_shareCost : CE kX2_shareCost 2 := ⟨inTb (tb_5 (List.mem_of_getElem? (i := 124) rfl)) (by decide +kernel), inTb (tb_1 (List.mem_of_getElem? (i := 10) (by decide +kernel))) (by decide +kernel), ⟨by decide +kernel, by decide +kernel⟩, by decide +kernel, by decide +kernel⟩
theorem pl_X2_shareCost : plainName kX2_shareCost.1.cls = true := by decide +kernel
abbrev kX2_withdrawCase : MT := (yX2_withdrawCase, cX2_withdrawCase, 5, (some .int), [])
set_option maxRecDepth 20000 in
theorem ce_X2_withdrawCase : CE kX2_withdrawCase 2 := ⟨inTb (tb_5 (List.mem_of_getElem? (i := 151) rfl)) (by decide +kernel), inTb (tb_1 (List.mem_of_getElem? (i := 10) (by decide +kernel))) (by decide +kernel), ⟨by decide +kernel, by decide +kernel⟩, by decide +kernel, by decide +kernel⟩
theorem pl_X2_withdrawCase : plainName kX2_withdrawCase.1.cls = true := by decide +kernel
abbrev kX2_closeCase : MT := (yX2_closeCase, cX2_closeCase, 5, (some .int), [])
set_option maxRecDepth 20000 in
theorem ce_X2_closeCase : CE kX2_closeCase 2 := ⟨inTb (tb_6 (List.mem_of_getElem? (i := 155) rfl)) (by decide +kernel), inTb (tb_1 (List.mem_of_getElem? (i := 10) (by decide +kernel))) (by decide +kernel), ⟨by decide +kernel, by decide +kernel⟩, by decide +kernel, by decide +kernel⟩
theorem pl_X2_closeCase : plainName kX2_closeCase.1.cls = true := by decide +kernel
abbrev kX2_moveCoins : MT := (yX2_moveCoins, cX2_moveCoins, 5, (some .int), [])
set_option maxRecDepth 20000 in
theorem ce_X2_moveCoins : CE kX2_moveCoins 4 := ⟨inTb (tb_6 (List.mem_of_getElem? (i := 159) rfl)) (by decide +kernel), inTb (tb_1 (List.mem_of_getElem? (i := 10) (by decide +kernel))) (by decide +kernel), ⟨by decide +kernel, by decide +kernel⟩, by decide +kernel, by decide +kernel⟩
theorem pl_X2_moveCoins : plainName kX2_moveCoins.1.cls = true := by decide +kernel
abbrev kX2_letDaysPass : MT := (yX2_letDaysPass, cX2_letDaysPass, 3, (some .int), [])
set_option maxRecDepth 20000 in
theorem ce_X2_letDaysPass : CE kX2_letDaysPass 2 := ⟨inTb (tb_5 (List.mem_of_getElem? (i := 163) rfl)) (by decide +kernel), inTb (tb_1 (List.mem_of_getElem? (i := 10) (by decide +kernel))) (by decide +kernel), ⟨by decide +kernel, by decide +kernel⟩, by decide +kernel, by decide +kernel⟩
theorem pl_X2_letDaysPass : plainName kX2_letDaysPass.1.cls = true := by decide +kernel
abbrev kX3_init : MT := (yX3_init, cX3_init, 1, none, [])
set_option maxRecDepth 20000 in
theorem ce_X3_init : CE kX3_init 0 := ⟨inTb (tb_1 (List.mem_of_getElem? (i := 211) rfl)) (by decide +kernel), inTb (tb_1 (List.mem_of_getElem? (i := 13) (by decide +kernel))) (by decide +kernel), ⟨by decide +kernel, by decide +kernel⟩, by decide +kernel, by decide +kernel⟩
theorem pl_X3_init : plainName kX3_init.1.cls = true := by decide +kernel
abbrev kX3_byDays : MT := (yX3_byDays, cX3_byDays, 4, (some .int), [])
set_option maxRecDepth 20000 in
theorem ce_X3_byDays : CE kX3_byDays 1 := ⟨inTb (tb_7 (List.mem_of_getElem? (i := 86) rfl)) (by decide +kernel), inTb (tb_1 (List.mem_of_getElem? (i := 13) (by decide +kernel))) (by decide +kernel), ⟨by decide +kernel, by decide +kernel⟩, by decide +kernel, by decide +kernel⟩
theorem pl_X3_byDays : plainName kX3_byDays.1.cls = true := by decide +kernel
abbrev kX3_addToTable : MT := (yX3_addToTable, cX3_addToTable, 5, none, [])
set_option maxRecDepth 20000 in
theorem ce_X3_addToTable : CE kX3_addToTable 2 := ⟨inTb (tb_7 (List.mem_of_getElem? (i := 123) rfl)) (by decide +kernel), inTb (tb_1 (List.mem_of_getElem? (i := 13) (by decide +kernel))) (by decide +kernel), ⟨by decide +kernel, by decide +kernel⟩, by decide +kernel, by decide +kernel⟩
theorem pl_X3_addToTable : plainName kX3_addToTable.1.cls = true := by decide +kernel
abbrev kX3_collectFiled : MT := (yX3_collectFiled, cX3_collectFiled, 4, none, [])
set_option maxRecDepth 20000 in
theorem ce_X3_collectFiled : CE kX3_collectFiled 1 := ⟨inTb (tb_7 (List.mem_of_getElem? (i := 90) rfl)) (by decide +kernel), inTb (tb_1 (List.mem_of_getElem? (i := 13) (by decide +kernel))) (by decide +kernel), ⟨by decide +kernel, by decide +kernel⟩, by decide +kernel, by decide +kernel⟩
theorem pl_X3_collectFiled : plainName kX3_collectFiled.1.cls = true := by decide +kernel
abbrev kX3_placeOf : MT := (yX3_placeOf, cX3_placeOf, 3, (some .int), [])
set_option maxRecDepth 20000 in
theorem ce_X3_placeOf : CE kX3_placeOf 1 := ⟨inTb (tb_7 (List.mem_of_getElem? (i := 98) rfl)) (by decide +kernel), inTb (tb_1 (List.mem_of_getElem? (i := 13) (by decide +kernel))) (by decide +kernel), ⟨by decide +kernel, by decide +kernel⟩, by decide +kernel, by decide +kernel⟩
theorem pl_X3_placeOf : plainName kX3_placeOf.1.cls = true := by decide +kernel
abbrev kX4_init : MT := (yX4_init, cX4_init, 2, none, [])
set_option maxRecDepth 20000 in
theorem ce_X4_init : CE kX4_init 1 := ⟨inTb (tb_6 (List.mem_of_getElem? (i := 20) rfl)) (by decide +kernel), inTb (tb_1 (List.mem_of_getElem? (i := 35) (by decide +kernel))) (by decide +kernel), ⟨by decide +kernel, by decide +kernel⟩, by decide +kernel, by decide +kernel⟩
theorem pl_X4_init : plainName kX4_init.1.cls = true := by decide +kernel
abbrev kX4_addNumber : MT := (yX4_addNumber, cX4_addNumber, 2, none, [])
set_option maxRecDepth 20000 in
theorem ce_X4_addNumber : CE kX4_addNumber 1 := ⟨inTb (tb_6 (List.mem_of_getElem? (i := 59) rfl)) (by decide +kernel), inTb (tb_1 (List.mem_of_getElem? (i := 35) (by decide +kernel))) (by decide +kernel), ⟨by decide +kernel, by decide +kernel⟩, by decide +kernel, by decide +kernel⟩
theorem pl_X4_addNumber : plainName kX4_addNumber.1.cls = true := by decide +kernel
abbrev kX4_setMatter : MT := (yX4_setMatter, cX4_setMatter, 2, none, [])
set_option maxRecDepth 20000 in
theorem ce_X4_setMatter : CE kX4_setMatter 1 := ⟨inTb (tb_6 (List.mem_of_getElem? (i := 92) rfl)) (by decide +kernel), inTb (tb_1 (List.mem_of_getElem? (i := 35) (by decide +kernel))) (by decide +kernel), ⟨by decide +kernel, by decide +kernel⟩, by decide +kernel, by decide +kernel⟩
theorem pl_X4_setMatter : plainName kX4_setMatter.1.cls = true := by decide +kernel
abbrev kX4_number : MT := (yX4_number, cX4_number, 2, (some .int), [])
set_option maxRecDepth 20000 in
theorem ce_X4_number : CE kX4_number 1 := ⟨inTb (tb_6 (List.mem_of_getElem? (i := 108) rfl)) (by decide +kernel), inTb (tb_1 (List.mem_of_getElem? (i := 35) (by decide +kernel))) (by decide +kernel), ⟨by decide +kernel, by decide +kernel⟩, by decide +kernel, by decide +kernel⟩
theorem pl_X4_number : plainName kX4_number.1.cls = true := by decide +kernel
abbrev kX5_init : MT := (yX5_init, cX5_init, 3, none, [])
set_option maxRecDepth 20000 in
theorem ce_X5_init : CE kX5_init 2 := ⟨inTb (tb_5 (List.mem_of_getElem? (i := 97) rfl)) (by decide +kernel), inTb (tb_1 (List.mem_of_getElem? (i := 38) (by decide +kernel))) (by decide +kernel), ⟨by decide +kernel, by decide +kernel⟩, by decide +kernel, by decide +kernel⟩
theorem pl_X5_init : plainName kX5_init.1.cls = true := by decide +kernel
abbrev kX6_init : MT := (yX6_init, cX6_init, 1, none, [])
set_option maxRecDepth 20000 in
theorem ce_X6_init : CE kX6_init 0 := ⟨inTb (tb_1 (List.mem_of_getElem? (i := 185) rfl)) (by decide +kernel), inTb (tb_1 (List.mem_of_getElem? (i := 12) (by decide +kernel))) (by decide +kernel), ⟨by decide +kernel, by decide +kernel⟩, by decide +kernel, by decide +kernel⟩
theorem pl_X6_init : plainName kX6_init.1.cls = true := by decide +kernel
abbrev kX6_byBeginnings : MT := (yX6_byBeginnings, cX6_byBeginnings, 7, (some .int), [])
set_option maxRecDepth 20000 in
theorem ce_X6_byBeginnings : CE kX6_byBeginnings 2 := ⟨inTb (tb_5 (List.mem_of_getElem? (i := 44) rfl)) (by decide +kernel), inTb (tb_1 (List.mem_of_getElem? (i := 12) (by decide +kernel))) (by decide +kernel), ⟨by decide +kernel, by decide +kernel⟩, by decide +kernel, by decide +kernel⟩
theorem pl_X6_byBeginnings : plainName kX6_byBeginnings.1.cls = true := by decide +kernel
abbrev kX6_beginningsDistance : MT := (yX6_beginningsDistance, cX6_beginningsDistance, 4, (some .int), [])
set_option maxRecDepth 20000 in
theorem ce_X6_beginningsDistance : CE kX6_beginningsDistance 2 := ⟨inTb (tb_5 (List.mem_of_getElem? (i := 68) rfl)) (by decide +kernel), inTb (tb_1 (List.mem_of_getElem? (i := 12) (by decide +kernel))) (by decide +kernel), ⟨by decide +kernel, by decide +kernel⟩, by decide +kernel, by decide +kernel⟩
theorem pl_X6_beginningsDistance : plainName kX6_beginningsDistance.1.cls = true := by decide +kernel
abbrev kX6_byEnds : MT := (yX6_byEnds, cX6_byEnds, 6, (some .int), [])
set_option maxRecDepth 20000 in
theorem ce_X6_byEnds : CE kX6_byEnds 2 := ⟨inTb (tb_8 (List.mem_of_getElem? (i := 96) rfl)) (by decide +kernel), inTb (tb_1 (List.mem_of_getElem? (i := 12) (by decide +kernel))) (by decide +kernel), ⟨by decide +kernel, by decide +kernel⟩, by decide +kernel, by decide +kernel⟩
theorem pl_X6_byEnds : plainName kX6_byEnds.1.cls = true := by decide +kernel
abbrev kX6_endsDistance : MT := (yX6_endsDistance, cX6_endsDistance, 6, (some .int), [])
set_option maxRecDepth 20000 in
theorem ce_X6_endsDistance : CE kX6_endsDistance 3 := ⟨inTb (tb_8 (List.mem_of_getElem? (i := 99) rfl)) (by decide +kernel), inTb (tb_1 (List.mem_of_getElem? (i := 12) (by decide +kernel))) (by decide +kernel), ⟨by decide +kernel, by decide +kernel⟩, by decide +kernel, by decide +kernel⟩
theorem pl_X6_endsDistance : plainName kX6_endsDistance.1.cls = true := by decide +kernel
abbrev kX6_putLetters : MT := (yX6_putLetters, cX6_putLetters, 4, (some .int), [])
set_option maxRecDepth 20000 in
theorem ce_X6_putLetters : CE kX6_putLetters 2 := ⟨inTb (tb_5 (List.mem_of_getElem? (i := 47) rfl)) (by decide +kernel), inTb (tb_1 (List.mem_of_getElem? (i := 12) (by decide +kernel))) (by decide +kernel), ⟨by decide +kernel, by decide +kernel⟩, by decide +kernel, by decide +kernel⟩
theorem pl_X6_putLetters : plainName kX6_putLetters.1.cls = true := by decide +kernel
abbrev kX6_sameLetter : MT := (yX6_sameLetter, cX6_sameLetter, 3, (some .boolean), [])
set_option maxRecDepth 20000 in
theorem ce_X6_sameLetter : CE kX6_sameLetter 2 := ⟨inTb (tb_5 (List.mem_of_getElem? (i := 76) rfl)) (by decide +kernel), inTb (tb_1 (List.mem_of_getElem? (i := 12) (by decide +kernel))) (by decide +kernel), ⟨by decide +kernel, by decide +kernel⟩, by decide +kernel, by decide +kernel⟩
theorem pl_X6_sameLetter : plainName kX6_sameLetter.1.cls = true := by decide +kernel
abbrev kX6_cellAt : MT := (yX6_cellAt, cX6_cellAt, 4, (some .int), [])
set_option maxRecDepth 20000 in
theorem ce_X6_cellAt : CE kX6_cellAt 2 := ⟨inTb (tb_5 (List.mem_of_getElem? (i := 72) rfl)) (by decide +kernel), inTb (tb_1 (List.mem_of_getElem? (i := 12) (by decide +kernel))) (by decide +kernel), ⟨by decide +kernel, by decide +kernel⟩, by decide +kernel, by decide +kernel⟩
theorem pl_X6_cellAt : plainName kX6_cellAt.1.cls = true := by decide +kernel
abbrev kX6_putCell : MT := (yX6_putCell, cX6_putCell, 5, none, [])
set_option maxRecDepth 20000 in
theorem ce_X6_putCell : CE kX6_putCell 3 := ⟨inTb (tb_5 (List.mem_of_getElem? (i := 80) rfl)) (by decide +kernel), inTb (tb_1 (List.mem_of_getElem? (i := 12) (by decide +kernel))) (by decide +kernel), ⟨by decide +kernel, by decide +kernel⟩, by decide +kernel, by decide +kernel⟩
theorem pl_X6_putCell : plainName kX6_putCell.1.cls = true := by decide +kernel
abbrev kX7_init : MT := (yX7_init, cX7_init, 2, none, [])
set_option maxRecDepth 20000 in
theorem ce_X7_init : CE kX7_init 1 := ⟨inTb (tb_5 (List.mem_of_getElem? (i := 229) rfl)) (by decide +kernel), inTb (tb_1 (List.mem_of_getElem? (i := 30) (by decide +kernel))) (by decide +kernel), ⟨by decide +kernel, by decide +kernel⟩, by decide +kernel, by decide +kernel⟩
theorem pl_X7_init : plainName kX7_init.1.cls = true := by decide +kernel
abbrev kX7_readScript : MT := (yX7_readScript, cX7_readScript, 2, (some .boolean), [])
set_option maxRecDepth 20000 in
theorem ce_X7_readScript : CE kX7_readScript 0 := ⟨inTb (tb_6 (List.mem_of_getElem? (i := 8) rfl)) (by decide +kernel), inTb (tb_1 (List.mem_of_getElem? (i := 30) (by decide +kernel))) (by decide +kernel), ⟨by decide +kernel, by decide +kernel⟩, by decide +kernel, by decide +kernel⟩
theorem pl_X7_readScript : plainName kX7_readScript.1.cls = true := by decide +kernel
abbrev kX7_readCommand : MT := (yX7_readCommand, cX7_readCommand, 5, (some .boolean), [])
set_option maxRecDepth 20000 in
theorem ce_X7_readCommand : CE kX7_readCommand 0 := ⟨inTb (tb_6 (List.mem_of_getElem? (i := 13) rfl)) (by decide +kernel), inTb (tb_1 (List.mem_of_getElem? (i := 30) (by decide +kernel))) (by decide +kernel), ⟨by decide +kernel, by decide +kernel⟩, by decide +kernel, by decide +kernel⟩
theorem pl_X7_readCommand : plainName kX7_readCommand.1.cls = true := by decide +kernel
abbrev kX7_readForm : MT := (yX7_readForm, cX7_readForm, 4, (some .boolean), [])
set_option maxRecDepth 20000 in
theorem ce_X7_readForm : CE kX7_readForm 1 := ⟨inTb (tb_6 (List.mem_of_getElem? (i := 42) rfl)) (by decide +kernel), inTb (tb_1 (List.mem_of_getElem? (i := 30) (by decide +kernel))) (by decide +kernel), ⟨by decide +kernel, by decide +kernel⟩, by decide +kernel, by decide +kernel⟩
theorem pl_X7_readForm : plainName kX7_readForm.1.cls = true := by decide +kernel
abbrev kX7_readPart : MT := (yX7_readPart, cX7_readPart, 3, (some .boolean), [])
set_option maxRecDepth 20000 in
theorem ce_X7_readPart : CE kX7_readPart 2 := ⟨inTb (tb_6 (List.mem_of_getElem? (i := 47) rfl)) (by decide +kernel), inTb (tb_1 (List.mem_of_getElem? (i := 30) (by decide +kernel))) (by decide +kernel), ⟨by decide +kernel, by decide +kernel⟩, by decide +kernel, by decide +kernel⟩
theorem pl_X7_readPart : plainName kX7_readPart.1.cls = true := by decide +kernel
abbrev kX7_readSign : MT := (yX7_readSign, cX7_readSign, 2, (some .boolean), [])
set_option maxRecDepth 20000 in
theorem ce_X7_readSign : CE kX7_readSign 1 := ⟨inTb (tb_6 (List.mem_of_getElem? (i := 96) rfl)) (by decide +kernel), inTb (tb_1 (List.mem_of_getElem? (i := 30) (by decide +kernel))) (by decide +kernel), ⟨by decide +kernel, by decide +kernel⟩, by decide +kernel, by decide +kernel⟩
theorem pl_X7_readSign : plainName kX7_readSign.1.cls = true := by decide +kernel
abbrev kX7_readNumber : MT := (yX7_readNumber, cX7_readNumber, 6, (some .boolean), [])
set_option maxRecDepth 20000 in
theorem ce_X7_readNumber : CE kX7_readNumber 2 := ⟨inTb (tb_6 (List.mem_of_getElem? (i := 51) rfl)) (by decide +kernel), inTb (tb_1 (List.mem_of_getElem? (i := 30) (by decide +kernel))) (by decide +kernel), ⟨by decide +kernel, by decide +kernel⟩, by decide +kernel, by decide +kernel⟩
theorem pl_X7_readNumber : plainName kX7_readNumber.1.cls = true := by decide +kernel
abbrev kX7_readMatter : MT := (yX7_readMatter, cX7_readMatter, 4, (some .boolean), [])
set_option maxRecDepth 20000 in
theorem ce_X7_readMatter : CE kX7_readMatter 1 := ⟨inTb (tb_6 (List.mem_of_getElem? (i := 63) rfl)) (by decide +kernel), inTb (tb_1 (List.mem_of_getElem? (i := 30) (by decide +kernel))) (by decide +kernel), ⟨by decide +kernel, by decide +kernel⟩, by decide +kernel, by decide +kernel⟩
theorem pl_X7_readMatter : plainName kX7_readMatter.1.cls = true := by decide +kernel
abbrev kX8_init : MT := (yX8_init, cX8_init, 1, none, [])
set_option maxRecDepth 20000 in
theorem ce_X8_init : CE kX8_init 0 := ⟨inTb (tb_1 (List.mem_of_getElem? (i := 226) rfl)) (by decide +kernel), inTb (tb_1 (List.mem_of_getElem? (i := 14) (by decide +kernel))) (by decide +kernel), ⟨by decide +kernel, by decide +kernel⟩, by decide +kernel, by decide +kernel⟩
theorem pl_X8_init : plainName kX8_init.1.cls = true := by decide +kernel
abbrev kX8_bySets : MT := (yX8_bySets, cX8_bySets, 4, (some .int), [])
set_option maxRecDepth 20000 in
theorem ce_X8_bySets : CE kX8_bySets 1 := ⟨inTb (tb_7 (List.mem_of_getElem? (i := 140) rfl)) (by decide +kernel), inTb (tb_1 (List.mem_of_getElem? (i := 14) (by decide +kernel))) (by decide +kernel), ⟨by decide +kernel, by decide +kernel⟩, by decide +kernel, by decide +kernel⟩
theorem pl_X8_bySets : plainName kX8_bySets.1.cls = true := by decide +kernel
abbrev kX8_partsOf : MT := (yX8_partsOf, cX8_partsOf, 6, (some .int), [])
set_option maxRecDepth 20000 in
theorem ce_X8_partsOf : CE kX8_partsOf 1 := ⟨inTb (tb_7 (List.mem_of_getElem? (i := 153) rfl)) (by decide +kernel), inTb (tb_1 (List.mem_of_getElem? (i := 14) (by decide +kernel))) (by decide +kernel), ⟨by decide +kernel, by decide +kernel⟩, by decide +kernel, by decide +kernel⟩
theorem pl_X8_partsOf : plainName kX8_partsOf.1.cls = true := by decide +kernel
abbrev kX8_collectAccounts : MT := (yX8_collectAccounts, cX8_collectAccounts, 3, none, [])
set_option maxRecDepth 20000 in
theorem ce_X8_collectAccounts : CE kX8_collectAccounts 1 := ⟨inTb (tb_7 (List.mem_of_getElem? (i := 144) rfl)) (by decide +kernel), inTb (tb_1 (List.mem_of_getElem? (i := 14) (by decide +kernel))) (by decide +kernel), ⟨by decide +kernel, by decide +kernel⟩, by decide +kernel, by decide +kernel⟩
theorem pl_X8_collectAccounts : plainName kX8_collectAccounts.1.cls = true := by decide +kernel
abbrev kX8_addAccount : MT := (yX8_addAccount, cX8_addAccount, 2, none, [])
set_option maxRecDepth 20000 in
theorem ce_X8_addAccount : CE kX8_addAccount 1 := ⟨inTb (tb_7 (List.mem_of_getElem? (i := 148) rfl)) (by decide +kernel), inTb (tb_1 (List.mem_of_getElem? (i := 14) (by decide +kernel))) (by decide +kernel), ⟨by decide +kernel, by decide +kernel⟩, by decide +kernel, by decide +kernel⟩
theorem pl_X8_addAccount : plainName kX8_addAccount.1.cls = true := by decide +kernel
abbrev kX9_init : MT := (yX9_init, cX9_init, 1, none, [])
set_option maxRecDepth 20000 in
theorem ce_X9_init : CE kX9_init 0 := ⟨inTb (tb_1 (List.mem_of_getElem? (i := 54) rfl)) (by decide +kernel), inTb (tb_1 (List.mem_of_getElem? (i := 2) (by decide +kernel))) (by decide +kernel), ⟨by decide +kernel, by decide +kernel⟩, by decide +kernel, by decide +kernel⟩
theorem pl_X9_init : plainName kX9_init.1.cls = true := by decide +kernel
abbrev kX9_copy : MT := (yX9_copy, cX9_copy, 3, (some (.object "ButtonRegistry$State")), [])
set_option maxRecDepth 20000 in
theorem ce_X9_copy : CE kX9_copy 0 := ⟨inTb (tb_3 (List.mem_of_getElem? (i := 188) rfl)) (by decide +kernel), inTb (tb_1 (List.mem_of_getElem? (i := 2) (by decide +kernel))) (by decide +kernel), ⟨by decide +kernel, by decide +kernel⟩, by decide +kernel, by decide +kernel⟩
theorem pl_X9_copy : plainName kX9_copy.1.cls = true := by decide +kernel
abbrev kX9_hasButton : MT := (yX9_hasButton, cX9_hasButton, 2, (some .boolean), [])
set_option maxRecDepth 20000 in
theorem ce_X9_hasButton : CE kX9_hasButton 1 := ⟨inTb (tb_5 (List.mem_of_getElem? (i := 15) rfl)) (by decide +kernel), inTb (tb_1 (List.mem_of_getElem? (i := 2) (by decide +kernel))) (by decide +kernel), ⟨by decide +kernel, by decide +kernel⟩, by decide +kernel, by decide +kernel⟩
theorem pl_X9_hasButton : plainName kX9_hasButton.1.cls = true := by decide +kernel
abbrev kX9_balanceOf : MT := (yX9_balanceOf, cX9_balanceOf, 2, (some .int), [])
set_option maxRecDepth 20000 in
theorem ce_X9_balanceOf : CE kX9_balanceOf 1 := ⟨inTb (tb_6 (List.mem_of_getElem? (i := 163) rfl)) (by decide +kernel), inTb (tb_1 (List.mem_of_getElem? (i := 2) (by decide +kernel))) (by decide +kernel), ⟨by decide +kernel, by decide +kernel⟩, by decide +kernel, by decide +kernel⟩
theorem pl_X9_balanceOf : plainName kX9_balanceOf.1.cls = true := by decide +kernel
abbrev kX9_addCoins : MT := (yX9_addCoins, cX9_addCoins, 3, none, [])
set_option maxRecDepth 20000 in
theorem ce_X9_addCoins : CE kX9_addCoins 2 := ⟨inTb (tb_5 (List.mem_of_getElem? (i := 121) rfl)) (by decide +kernel), inTb (tb_1 (List.mem_of_getElem? (i := 2) (by decide +kernel))) (by decide +kernel), ⟨by decide +kernel, by decide +kernel⟩, by decide +kernel, by decide +kernel⟩
theorem pl_X9_addCoins : plainName kX9_addCoins.1.cls = true := by decide +kernel
abbrev kX9_payToChest : MT := (yX9_payToChest, cX9_payToChest, 3, none, [])
set_option maxRecDepth 20000 in
theorem ce_X9_payToChest : CE kX9_payToChest 2 := ⟨inTb (tb_5 (List.mem_of_getElem? (i := 128) rfl)) (by decide +kernel), inTb (tb_1 (List.mem_of_getElem? (i := 2) (by decide +kernel))) (by decide +kernel), ⟨by decide +kernel, by decide +kernel⟩, by decide +kernel, by decide +kernel⟩
theorem pl_X9_payToChest : plainName kX9_payToChest.1.cls = true := by decide +kernel
abbrev kX9_tensionBetween : MT := (yX9_tensionBetween, cX9_tensionBetween, 4, (some .int), [])
set_option maxRecDepth 20000 in
theorem ce_X9_tensionBetween : CE kX9_tensionBetween 2 := ⟨inTb (tb_5 (List.mem_of_getElem? (i := 27) rfl)) (by decide +kernel), inTb (tb_1 (List.mem_of_getElem? (i := 2) (by decide +kernel))) (by decide +kernel), ⟨by decide +kernel, by decide +kernel⟩, by decide +kernel, by decide +kernel⟩
theorem pl_X9_tensionBetween : plainName kX9_tensionBetween.1.cls = true := by decide +kernel
abbrev kX9_putTension : MT := (yX9_putTension, cX9_putTension, 4, none, [])
set_option maxRecDepth 20000 in
theorem ce_X9_putTension : CE kX9_putTension 3 := ⟨inTb (tb_6 (List.mem_of_getElem? (i := 127) rfl)) (by decide +kernel), inTb (tb_1 (List.mem_of_getElem? (i := 2) (by decide +kernel))) (by decide +kernel), ⟨by decide +kernel, by decide +kernel⟩, by decide +kernel, by decide +kernel⟩
theorem pl_X9_putTension : plainName kX9_putTension.1.cls = true := by decide +kernel
abbrev kX9_putCell : MT := (yX9_putCell, cX9_putCell, 3, none, [])
set_option maxRecDepth 20000 in
theorem ce_X9_putCell : CE kX9_putCell 2 := ⟨inTb (tb_6 (List.mem_of_getElem? (i := 131) rfl)) (by decide +kernel), inTb (tb_1 (List.mem_of_getElem? (i := 2) (by decide +kernel))) (by decide +kernel), ⟨by decide +kernel, by decide +kernel⟩, by decide +kernel, by decide +kernel⟩
theorem pl_X9_putCell : plainName kX9_putCell.1.cls = true := by decide +kernel
abbrev kX9_bondsOf : MT := (yX9_bondsOf, cX9_bondsOf, 4, (some .int), [])
set_option maxRecDepth 20000 in
theorem ce_X9_bondsOf : CE kX9_bondsOf 1 := ⟨inTb (tb_7 (List.mem_of_getElem? (i := 201) rfl)) (by decide +kernel), inTb (tb_1 (List.mem_of_getElem? (i := 2) (by decide +kernel))) (by decide +kernel), ⟨by decide +kernel, by decide +kernel⟩, by decide +kernel, by decide +kernel⟩
theorem pl_X9_bondsOf : plainName kX9_bondsOf.1.cls = true := by decide +kernel
abbrev kX9_buttonsBefore : MT := (yX9_buttonsBefore, cX9_buttonsBefore, 4, (some .int), [])
set_option maxRecDepth 20000 in
theorem ce_X9_buttonsBefore : CE kX9_buttonsBefore 1 := ⟨inTb (tb_7 (List.mem_of_getElem? (i := 192) rfl)) (by decide +kernel), inTb (tb_1 (List.mem_of_getElem? (i := 2) (by decide +kernel))) (by decide +kernel), ⟨by decide +kernel, by decide +kernel⟩, by decide +kernel, by decide +kernel⟩
theorem pl_X9_buttonsBefore : plainName kX9_buttonsBefore.1.cls = true := by decide +kernel
abbrev kX9_buttonRanksBefore : MT := (yX9_buttonRanksBefore, cX9_buttonRanksBefore, 3, (some .boolean), [])
set_option maxRecDepth 20000 in
theorem ce_X9_buttonRanksBefore : CE kX9_buttonRanksBefore 2 := ⟨inTb (tb_7 (List.mem_of_getElem? (i := 196) rfl)) (by decide +kernel), inTb (tb_1 (List.mem_of_getElem? (i := 2) (by decide +kernel))) (by decide +kernel), ⟨by decide +kernel, by decide +kernel⟩, by decide +kernel, by decide +kernel⟩
theorem pl_X9_buttonRanksBefore : plainName kX9_buttonRanksBefore.1.cls = true := by decide +kernel
abbrev kX9_positionOf : MT := (yX9_positionOf, cX9_positionOf, 3, (some .int), [])
set_option maxRecDepth 20000 in
theorem ce_X9_positionOf : CE kX9_positionOf 1 := ⟨inTb (tb_4 (List.mem_of_getElem? (i := 158) rfl)) (by decide +kernel), inTb (tb_1 (List.mem_of_getElem? (i := 2) (by decide +kernel))) (by decide +kernel), ⟨by decide +kernel, by decide +kernel⟩, by decide +kernel, by decide +kernel⟩
theorem pl_X9_positionOf : plainName kX9_positionOf.1.cls = true := by decide +kernel
abbrev kX9_casesBefore : MT := (yX9_casesBefore, cX9_casesBefore, 4, (some .int), [])
set_option maxRecDepth 20000 in
theorem ce_X9_casesBefore : CE kX9_casesBefore 1 := ⟨inTb (tb_8 (List.mem_of_getElem? (i := 3) rfl)) (by decide +kernel), inTb (tb_1 (List.mem_of_getElem? (i := 2) (by decide +kernel))) (by decide +kernel), ⟨by decide +kernel, by decide +kernel⟩, by decide +kernel, by decide +kernel⟩
theorem pl_X9_casesBefore : plainName kX9_casesBefore.1.cls = true := by decide +kernel
abbrev kX10_init : MT := (yX10_init, cX10_init, 1, none, [])
set_option maxRecDepth 20000 in
theorem ce_X10_init : CE kX10_init 0 := ⟨inTb (tb_1 (List.mem_of_getElem? (i := 168) rfl)) (by decide +kernel), inTb (tb_1 (List.mem_of_getElem? (i := 11) (by decide +kernel))) (by decide +kernel), ⟨by decide +kernel, by decide +kernel⟩, by decide +kernel, by decide +kernel⟩
theorem pl_X10_init : plainName kX10_init.1.cls = true := by decide +kernel
abbrev kX10_strainByJoining : MT := (yX10_strainByJoining, cX10_strainByJoining, 5, (some .int), [])
set_option maxRecDepth 20000 in
theorem ce_X10_strainByJoining : CE kX10_strainByJoining 3 := ⟨inTb (tb_5 (List.mem_of_getElem? (i := 11) rfl)) (by decide +kernel), inTb (tb_1 (List.mem_of_getElem? (i := 11) (by decide +kernel))) (by decide +kernel), ⟨by decide +kernel, by decide +kernel⟩, by decide +kernel, by decide +kernel⟩
theorem pl_X10_strainByJoining : plainName kX10_strainByJoining.1.cls = true := by decide +kernel
abbrev kX10_forestByJoining : MT := (yX10_forestByJoining, cX10_forestByJoining, 4, (some .int), [])
set_option maxRecDepth 20000 in
theorem ce_X10_forestByJoining : CE kX10_forestByJoining 1 := ⟨inTb (tb_7 (List.mem_of_getElem? (i := 132) rfl)) (by decide +kernel), inTb (tb_1 (List.mem_of_getElem? (i := 11) (by decide +kernel))) (by decide +kernel), ⟨by decide +kernel, by decide +kernel⟩, by decide +kernel, by decide +kernel⟩
theorem pl_X10_forestByJoining : plainName kX10_forestByJoining.1.cls = true := by decide +kernel
abbrev kX10_separateAll : MT := (yX10_separateAll, cX10_separateAll, 2, none, [])
set_option maxRecDepth 20000 in
theorem ce_X10_separateAll : CE kX10_separateAll 0 := ⟨inTb (tb_5 (List.mem_of_getElem? (i := 19) rfl)) (by decide +kernel), inTb (tb_1 (List.mem_of_getElem? (i := 11) (by decide +kernel))) (by decide +kernel), ⟨by decide +kernel, by decide +kernel⟩, by decide +kernel, by decide +kernel⟩
theorem pl_X10_separateAll : plainName kX10_separateAll.1.cls = true := by decide +kernel
abbrev kX10_groupOf : MT := (yX10_groupOf, cX10_groupOf, 2, (some .int), [])
set_option maxRecDepth 20000 in
theorem ce_X10_groupOf : CE kX10_groupOf 1 := ⟨inTb (tb_5 (List.mem_of_getElem? (i := 31) rfl)) (by decide +kernel), inTb (tb_1 (List.mem_of_getElem? (i := 11) (by decide +kernel))) (by decide +kernel), ⟨by decide +kernel, by decide +kernel⟩, by decide +kernel, by decide +kernel⟩
theorem pl_X10_groupOf : plainName kX10_groupOf.1.cls = true := by decide +kernel
abbrev kX10_joinBonds : MT := (yX10_joinBonds, cX10_joinBonds, 6, (some .int), [])
set_option maxRecDepth 20000 in
theorem ce_X10_joinBonds : CE kX10_joinBonds 2 := ⟨inTb (tb_5 (List.mem_of_getElem? (i := 23) rfl)) (by decide +kernel), inTb (tb_1 (List.mem_of_getElem? (i := 11) (by decide +kernel))) (by decide +kernel), ⟨by decide +kernel, by decide +kernel⟩, by decide +kernel, by decide +kernel⟩
theorem pl_X10_joinBonds : plainName kX10_joinBonds.1.cls = true := by decide +kernel
abbrev kX10_joinGroups : MT := (yX10_joinGroups, cX10_joinGroups, 4, none, [])
set_option maxRecDepth 20000 in
theorem ce_X10_joinGroups : CE kX10_joinGroups 2 := ⟨inTb (tb_5 (List.mem_of_getElem? (i := 35) rfl)) (by decide +kernel), inTb (tb_1 (List.mem_of_getElem? (i := 11) (by decide +kernel))) (by decide +kernel), ⟨by decide +kernel, by decide +kernel⟩, by decide +kernel, by decide +kernel⟩
theorem pl_X10_joinGroups : plainName kX10_joinGroups.1.cls = true := by decide +kernel
abbrev kX10_strainFromTable : MT := (yX10_strainFromTable, cX10_strainFromTable, 7, (some .int), [])
set_option maxRecDepth 20000 in
theorem ce_X10_strainFromTable : CE kX10_strainFromTable 3 := ⟨inTb (tb_8 (List.mem_of_getElem? (i := 145) rfl)) (by decide +kernel), inTb (tb_1 (List.mem_of_getElem? (i := 11) (by decide +kernel))) (by decide +kernel), ⟨by decide +kernel, by decide +kernel⟩, by decide +kernel, by decide +kernel⟩
theorem pl_X10_strainFromTable : plainName kX10_strainFromTable.1.cls = true := by decide +kernel
abbrev kX10_strainAt : MT := (yX10_strainAt, cX10_strainAt, 4, (some .int), [])
set_option maxRecDepth 20000 in
theorem ce_X10_strainAt : CE kX10_strainAt 2 := ⟨inTb (tb_8 (List.mem_of_getElem? (i := 149) rfl)) (by decide +kernel), inTb (tb_1 (List.mem_of_getElem? (i := 11) (by decide +kernel))) (by decide +kernel), ⟨by decide +kernel, by decide +kernel⟩, by decide +kernel, by decide +kernel⟩
theorem pl_X10_strainAt : plainName kX10_strainAt.1.cls = true := by decide +kernel
abbrev kX12_init : MT := (yX12_init, cX12_init, 1, none, [])
set_option maxRecDepth 20000 in
theorem ce_X12_init : CE kX12_init 0 := ⟨inTb (tb_1 (List.mem_of_getElem? (i := 46) rfl)) (by decide +kernel), inTb (tb_1 (List.mem_of_getElem? (i := 1) (by decide +kernel))) (by decide +kernel), ⟨by decide +kernel, by decide +kernel⟩, by decide +kernel, by decide +kernel⟩
theorem pl_X12_init : plainName kX12_init.1.cls = true := by decide +kernel
abbrev kX12_addButton : MT := (yX12_addButton, cX12_addButton, 2, (some .int), [])
set_option maxRecDepth 20000 in
theorem ce_X12_addButton : CE kX12_addButton 0 := ⟨inTb (tb_3 (List.mem_of_getElem? (i := 184) rfl)) (by decide +kernel), inTb (tb_1 (List.mem_of_getElem? (i := 1) (by decide +kernel))) (by decide +kernel), ⟨by decide +kernel, by decide +kernel⟩, by decide +kernel, by decide +kernel⟩
theorem pl_X12_addButton : plainName kX12_addButton.1.cls = true := by decide +kernel
abbrev kX12_setBond : MT := (yX12_setBond, cX12_setBond, 5, (some .int), [])
set_option maxRecDepth 20000 in
theorem ce_X12_setBond : CE kX12_setBond 3 := ⟨inTb (tb_7 (List.mem_of_getElem? (i := 11) rfl)) (by decide +kernel), inTb (tb_1 (List.mem_of_getElem? (i := 1) (by decide +kernel))) (by decide +kernel), ⟨by decide +kernel, by decide +kernel⟩, by decide +kernel, by decide +kernel⟩
theorem pl_X12_setBond : plainName kX12_setBond.1.cls = true := by decide +kernel
abbrev kX12_cutBond : MT := (yX12_cutBond, cX12_cutBond, 4, (some .int), [])
set_option maxRecDepth 20000 in
theorem ce_X12_cutBond : CE kX12_cutBond 2 := ⟨inTb (tb_8 (List.mem_of_getElem? (i := 26) rfl)) (by decide +kernel), inTb (tb_1 (List.mem_of_getElem? (i := 1) (by decide +kernel))) (by decide +kernel), ⟨by decide +kernel, by decide +kernel⟩, by decide +kernel, by decide +kernel⟩
theorem pl_X12_cutBond : plainName kX12_cutBond.1.cls = true := by decide +kernel
abbrev kX12_addPrecedent : MT := (yX12_addPrecedent, cX12_addPrecedent, 4, (some .int), [])
set_option maxRecDepth 20000 in
theorem ce_X12_addPrecedent : CE kX12_addPrecedent 1 := ⟨inTb (tb_6 (List.mem_of_getElem? (i := 237) rfl)) (by decide +kernel), inTb (tb_1 (List.mem_of_getElem? (i := 1) (by decide +kernel))) (by decide +kernel), ⟨by decide +kernel, by decide +kernel⟩, by decide +kernel, by decide +kernel⟩
theorem pl_X12_addPrecedent : plainName kX12_addPrecedent.1.cls = true := by decide +kernel
abbrev kX12_fileCase : MT := (yX12_fileCase, cX12_fileCase, 9, (some .int), [])
set_option maxRecDepth 20000 in
theorem ce_X12_fileCase : CE kX12_fileCase 5 := ⟨inTb (tb_6 (List.mem_of_getElem? (i := 226) rfl)) (by decide +kernel), inTb (tb_1 (List.mem_of_getElem? (i := 1) (by decide +kernel))) (by decide +kernel), ⟨by decide +kernel, by decide +kernel⟩, by decide +kernel, by decide +kernel⟩
theorem pl_X12_fileCase : plainName kX12_fileCase.1.cls = true := by decide +kernel
abbrev kX12_hear : MT := (yX12_hear, cX12_hear, 3, (some .int), [])
set_option maxRecDepth 20000 in
theorem ce_X12_hear : CE kX12_hear 1 := ⟨inTb (tb_4 (List.mem_of_getElem? (i := 150) rfl)) (by decide +kernel), inTb (tb_1 (List.mem_of_getElem? (i := 1) (by decide +kernel))) (by decide +kernel), ⟨by decide +kernel, by decide +kernel⟩, by decide +kernel, by decide +kernel⟩
theorem pl_X12_hear : plainName kX12_hear.1.cls = true := by decide +kernel
abbrev kX12_appeal : MT := (yX12_appeal, cX12_appeal, 3, (some .int), [])
set_option maxRecDepth 20000 in
theorem ce_X12_appeal : CE kX12_appeal 1 := ⟨inTb (tb_5 (List.mem_of_getElem? (i := 136) rfl)) (by decide +kernel), inTb (tb_1 (List.mem_of_getElem? (i := 1) (by decide +kernel))) (by decide +kernel), ⟨by decide +kernel, by decide +kernel⟩, by decide +kernel, by decide +kernel⟩
theorem pl_X12_appeal : plainName kX12_appeal.1.cls = true := by decide +kernel
abbrev kX12_withdraw : MT := (yX12_withdraw, cX12_withdraw, 3, (some .int), [])
set_option maxRecDepth 20000 in
theorem ce_X12_withdraw : CE kX12_withdraw 1 := ⟨inTb (tb_5 (List.mem_of_getElem? (i := 147) rfl)) (by decide +kernel), inTb (tb_1 (List.mem_of_getElem? (i := 1) (by decide +kernel))) (by decide +kernel), ⟨by decide +kernel, by decide +kernel⟩, by decide +kernel, by decide +kernel⟩
theorem pl_X12_withdraw : plainName kX12_withdraw.1.cls = true := by decide +kernel
abbrev kX12_close : MT := (yX12_close, cX12_close, 3, (some .int), [])
set_option maxRecDepth 20000 in
theorem ce_X12_close : CE kX12_close 1 := ⟨inTb (tb_8 (List.mem_of_getElem? (i := 34) rfl)) (by decide +kernel), inTb (tb_1 (List.mem_of_getElem? (i := 1) (by decide +kernel))) (by decide +kernel), ⟨by decide +kernel, by decide +kernel⟩, by decide +kernel, by decide +kernel⟩
theorem pl_X12_close : plainName kX12_close.1.cls = true := by decide +kernel
abbrev kX12_give : MT := (yX12_give, cX12_give, 5, (some .int), [])
set_option maxRecDepth 20000 in
theorem ce_X12_give : CE kX12_give 3 := ⟨inTb (tb_8 (List.mem_of_getElem? (i := 42) rfl)) (by decide +kernel), inTb (tb_1 (List.mem_of_getElem? (i := 1) (by decide +kernel))) (by decide +kernel), ⟨by decide +kernel, by decide +kernel⟩, by decide +kernel, by decide +kernel⟩
theorem pl_X12_give : plainName kX12_give.1.cls = true := by decide +kernel
abbrev kX12_passDays : MT := (yX12_passDays, cX12_passDays, 3, (some .int), [])
set_option maxRecDepth 20000 in
theorem ce_X12_passDays : CE kX12_passDays 1 := ⟨inTb (tb_5 (List.mem_of_getElem? (i := 159) rfl)) (by decide +kernel), inTb (tb_1 (List.mem_of_getElem? (i := 1) (by decide +kernel))) (by decide +kernel), ⟨by decide +kernel, by decide +kernel⟩, by decide +kernel, by decide +kernel⟩
theorem pl_X12_passDays : plainName kX12_passDays.1.cls = true := by decide +kernel
abbrev kX12_accept : MT := (yX12_accept, cX12_accept, 3, (some .int), [])
set_option maxRecDepth 20000 in
theorem ce_X12_accept : CE kX12_accept 2 := ⟨inTb (tb_4 (List.mem_of_getElem? (i := 31) rfl)) (by decide +kernel), inTb (tb_1 (List.mem_of_getElem? (i := 1) (by decide +kernel))) (by decide +kernel), ⟨by decide +kernel, by decide +kernel⟩, by decide +kernel, by decide +kernel⟩
theorem pl_X12_accept : plainName kX12_accept.1.cls = true := by decide +kernel
abbrev kX12_refuseFault : MT := (yX12_refuseFault, cX12_refuseFault, 1, none, [])
set_option maxRecDepth 20000 in
theorem ce_X12_refuseFault : CE kX12_refuseFault 1 := ⟨inTb (tb_4 (List.mem_of_getElem? (i := 34) rfl)) (by decide +kernel), inTb (tb_1 (List.mem_of_getElem? (i := 1) (by decide +kernel))) (by decide +kernel), ⟨by decide +kernel, by decide +kernel⟩, by decide +kernel, by decide +kernel⟩
theorem pl_X12_refuseFault : plainName kX12_refuseFault.1.cls = true := by decide +kernel
abbrev kX12_typeLetter : MT := (yX12_typeLetter, cX12_typeLetter, 2, (some .int), [])
set_option maxRecDepth 20000 in
theorem ce_X12_typeLetter : CE kX12_typeLetter 1 := ⟨inTb (tb_4 (List.mem_of_getElem? (i := 116) rfl)) (by decide +kernel), inTb (tb_1 (List.mem_of_getElem? (i := 1) (by decide +kernel))) (by decide +kernel), ⟨by decide +kernel, by decide +kernel⟩, by decide +kernel, by decide +kernel⟩
theorem pl_X12_typeLetter : plainName kX12_typeLetter.1.cls = true := by decide +kernel
abbrev kX12_clearWord : MT := (yX12_clearWord, cX12_clearWord, 2, (some .int), [])
set_option maxRecDepth 20000 in
theorem ce_X12_clearWord : CE kX12_clearWord 0 := ⟨inTb (tb_2 (List.mem_of_getElem? (i := 38) rfl)) (by decide +kernel), inTb (tb_1 (List.mem_of_getElem? (i := 1) (by decide +kernel))) (by decide +kernel), ⟨by decide +kernel, by decide +kernel⟩, by decide +kernel, by decide +kernel⟩
theorem pl_X12_clearWord : plainName kX12_clearWord.1.cls = true := by decide +kernel
abbrev kX12_isLetter : MT := (yX12_isLetter, cX12_isLetter, 1, (some .boolean), [])
set_option maxRecDepth 20000 in
theorem ce_X12_isLetter : CE kX12_isLetter 1 := ⟨inTb (tb_4 (List.mem_of_getElem? (i := 119) rfl)) (by decide +kernel), inTb (tb_1 (List.mem_of_getElem? (i := 1) (by decide +kernel))) (by decide +kernel), ⟨by decide +kernel, by decide +kernel⟩, by decide +kernel, by decide +kernel⟩
theorem pl_X12_isLetter : plainName kX12_isLetter.1.cls = true := by decide +kernel
abbrev kX12_isDigit : MT := (yX12_isDigit, cX12_isDigit, 1, (some .boolean), [])
set_option maxRecDepth 20000 in
theorem ce_X12_isDigit : CE kX12_isDigit 1 := ⟨inTb (tb_6 (List.mem_of_getElem? (i := 55) rfl)) (by decide +kernel), inTb (tb_1 (List.mem_of_getElem? (i := 1) (by decide +kernel))) (by decide +kernel), ⟨by decide +kernel, by decide +kernel⟩, by decide +kernel, by decide +kernel⟩
theorem pl_X12_isDigit : plainName kX12_isDigit.1.cls = true := by decide +kernel
abbrev kX12_day : MT := (yX12_day, cX12_day, 1, (some .int), [])
set_option maxRecDepth 20000 in
theorem ce_X12_day : CE kX12_day 0 := ⟨inTb (tb_3 (List.mem_of_getElem? (i := 149) rfl)) (by decide +kernel), inTb (tb_1 (List.mem_of_getElem? (i := 1) (by decide +kernel))) (by decide +kernel), ⟨by decide +kernel, by decide +kernel⟩, by decide +kernel, by decide +kernel⟩
theorem pl_X12_day : plainName kX12_day.1.cls = true := by decide +kernel
abbrev kX12_buttonCount : MT := (yX12_buttonCount, cX12_buttonCount, 1, (some .int), [])
set_option maxRecDepth 20000 in
theorem ce_X12_buttonCount : CE kX12_buttonCount 0 := ⟨inTb (tb_3 (List.mem_of_getElem? (i := 153) rfl)) (by decide +kernel), inTb (tb_1 (List.mem_of_getElem? (i := 1) (by decide +kernel))) (by decide +kernel), ⟨by decide +kernel, by decide +kernel⟩, by decide +kernel, by decide +kernel⟩
theorem pl_X12_buttonCount : plainName kX12_buttonCount.1.cls = true := by decide +kernel
abbrev kX12_balance : MT := (yX12_balance, cX12_balance, 2, (some .int), [])
set_option maxRecDepth 20000 in
theorem ce_X12_balance : CE kX12_balance 1 := ⟨inTb (tb_6 (List.mem_of_getElem? (i := 204) rfl)) (by decide +kernel), inTb (tb_1 (List.mem_of_getElem? (i := 1) (by decide +kernel))) (by decide +kernel), ⟨by decide +kernel, by decide +kernel⟩, by decide +kernel, by decide +kernel⟩
theorem pl_X12_balance : plainName kX12_balance.1.cls = true := by decide +kernel
abbrev kX12_chest : MT := (yX12_chest, cX12_chest, 1, (some .int), [])
set_option maxRecDepth 20000 in
theorem ce_X12_chest : CE kX12_chest 0 := ⟨inTb (tb_3 (List.mem_of_getElem? (i := 157) rfl)) (by decide +kernel), inTb (tb_1 (List.mem_of_getElem? (i := 1) (by decide +kernel))) (by decide +kernel), ⟨by decide +kernel, by decide +kernel⟩, by decide +kernel, by decide +kernel⟩
theorem pl_X12_chest : plainName kX12_chest.1.cls = true := by decide +kernel
abbrev kX12_tension : MT := (yX12_tension, cX12_tension, 4, (some .int), [])
set_option maxRecDepth 20000 in
theorem ce_X12_tension : CE kX12_tension 2 := ⟨inTb (tb_8 (List.mem_of_getElem? (i := 120) rfl)) (by decide +kernel), inTb (tb_1 (List.mem_of_getElem? (i := 1) (by decide +kernel))) (by decide +kernel), ⟨by decide +kernel, by decide +kernel⟩, by decide +kernel, by decide +kernel⟩
theorem pl_X12_tension : plainName kX12_tension.1.cls = true := by decide +kernel
abbrev kX12_strain : MT := (yX12_strain, cX12_strain, 3, (some .int), [])
set_option maxRecDepth 20000 in
theorem ce_X12_strain : CE kX12_strain 2 := ⟨inTb (tb_8 (List.mem_of_getElem? (i := 128) rfl)) (by decide +kernel), inTb (tb_1 (List.mem_of_getElem? (i := 1) (by decide +kernel))) (by decide +kernel), ⟨by decide +kernel, by decide +kernel⟩, by decide +kernel, by decide +kernel⟩
theorem pl_X12_strain : plainName kX12_strain.1.cls = true := by decide +kernel
abbrev kX12_strainByTable : MT := (yX12_strainByTable, cX12_strainByTable, 3, (some .int), [])
set_option maxRecDepth 20000 in
theorem ce_X12_strainByTable : CE kX12_strainByTable 2 := ⟨inTb (tb_8 (List.mem_of_getElem? (i := 141) rfl)) (by decide +kernel), inTb (tb_1 (List.mem_of_getElem? (i := 1) (by decide +kernel))) (by decide +kernel), ⟨by decide +kernel, by decide +kernel⟩, by decide +kernel, by decide +kernel⟩
theorem pl_X12_strainByTable : plainName kX12_strainByTable.1.cls = true := by decide +kernel
abbrev kX12_forestTension : MT := (yX12_forestTension, cX12_forestTension, 1, (some .int), [])
set_option maxRecDepth 20000 in
theorem ce_X12_forestTension : CE kX12_forestTension 0 := ⟨inTb (tb_7 (List.mem_of_getElem? (i := 128) rfl)) (by decide +kernel), inTb (tb_1 (List.mem_of_getElem? (i := 1) (by decide +kernel))) (by decide +kernel), ⟨by decide +kernel, by decide +kernel⟩, by decide +kernel, by decide +kernel⟩
theorem pl_X12_forestTension : plainName kX12_forestTension.1.cls = true := by decide +kernel
abbrev kX12_buttonByBalance : MT := (yX12_buttonByBalance, cX12_buttonByBalance, 3, (some .int), [])
set_option maxRecDepth 20000 in
theorem ce_X12_buttonByBalance : CE kX12_buttonByBalance 1 := ⟨inTb (tb_7 (List.mem_of_getElem? (i := 188) rfl)) (by decide +kernel), inTb (tb_1 (List.mem_of_getElem? (i := 1) (by decide +kernel))) (by decide +kernel), ⟨by decide +kernel, by decide +kernel⟩, by decide +kernel, by decide +kernel⟩
theorem pl_X12_buttonByBalance : plainName kX12_buttonByBalance.1.cls = true := by decide +kernel
abbrev kX12_requireButton : MT := (yX12_requireButton, cX12_requireButton, 2, none, [])
set_option maxRecDepth 20000 in
theorem ce_X12_requireButton : CE kX12_requireButton 1 := ⟨inTb (tb_6 (List.mem_of_getElem? (i := 208) rfl)) (by decide +kernel), inTb (tb_1 (List.mem_of_getElem? (i := 1) (by decide +kernel))) (by decide +kernel), ⟨by decide +kernel, by decide +kernel⟩, by decide +kernel, by decide +kernel⟩
theorem pl_X12_requireButton : plainName kX12_requireButton.1.cls = true := by decide +kernel
abbrev kX12_requirePair : MT := (yX12_requirePair, cX12_requirePair, 3, none, [])
set_option maxRecDepth 20000 in
theorem ce_X12_requirePair : CE kX12_requirePair 2 := ⟨inTb (tb_8 (List.mem_of_getElem? (i := 132) rfl)) (by decide +kernel), inTb (tb_1 (List.mem_of_getElem? (i := 1) (by decide +kernel))) (by decide +kernel), ⟨by decide +kernel, by decide +kernel⟩, by decide +kernel, by decide +kernel⟩
theorem pl_X12_requirePair : plainName kX12_requirePair.1.cls = true := by decide +kernel
abbrev kX12_caseCount : MT := (yX12_caseCount, cX12_caseCount, 1, (some .int), [])
set_option maxRecDepth 20000 in
theorem ce_X12_caseCount : CE kX12_caseCount 0 := ⟨inTb (tb_3 (List.mem_of_getElem? (i := 161) rfl)) (by decide +kernel), inTb (tb_1 (List.mem_of_getElem? (i := 1) (by decide +kernel))) (by decide +kernel), ⟨by decide +kernel, by decide +kernel⟩, by decide +kernel, by decide +kernel⟩
theorem pl_X12_caseCount : plainName kX12_caseCount.1.cls = true := by decide +kernel
abbrev kX12_caseAt : MT := (yX12_caseAt, cX12_caseAt, 2, (some .int), [])
set_option maxRecDepth 20000 in
theorem ce_X12_caseAt : CE kX12_caseAt 1 := ⟨inTb (tb_7 (List.mem_of_getElem? (i := 223) rfl)) (by decide +kernel), inTb (tb_1 (List.mem_of_getElem? (i := 1) (by decide +kernel))) (by decide +kernel), ⟨by decide +kernel, by decide +kernel⟩, by decide +kernel, by decide +kernel⟩
theorem pl_X12_caseAt : plainName kX12_caseAt.1.cls = true := by decide +kernel
abbrev kX12_plaintiff : MT := (yX12_plaintiff, cX12_plaintiff, 2, (some .int), [])
set_option maxRecDepth 20000 in
theorem ce_X12_plaintiff : CE kX12_plaintiff 1 := ⟨inTb (tb_8 (List.mem_of_getElem? (i := 158) rfl)) (by decide +kernel), inTb (tb_1 (List.mem_of_getElem? (i := 1) (by decide +kernel))) (by decide +kernel), ⟨by decide +kernel, by decide +kernel⟩, by decide +kernel, by decide +kernel⟩
theorem pl_X12_plaintiff : plainName kX12_plaintiff.1.cls = true := by decide +kernel
abbrev kX12_defendant : MT := (yX12_defendant, cX12_defendant, 2, (some .int), [])
set_option maxRecDepth 20000 in
theorem ce_X12_defendant : CE kX12_defendant 1 := ⟨inTb (tb_8 (List.mem_of_getElem? (i := 165) rfl)) (by decide +kernel), inTb (tb_1 (List.mem_of_getElem? (i := 1) (by decide +kernel))) (by decide +kernel), ⟨by decide +kernel, by decide +kernel⟩, by decide +kernel, by decide +kernel⟩
theorem pl_X12_defendant : plainName kX12_defendant.1.cls = true := by decide +kernel
abbrev kX12_claim : MT := (yX12_claim, cX12_claim, 2, (some .int), [])
set_option maxRecDepth 20000 in
theorem ce_X12_claim : CE kX12_claim 1 := ⟨inTb (tb_5 (List.mem_of_getElem? (i := 173) rfl)) (by decide +kernel), inTb (tb_1 (List.mem_of_getElem? (i := 1) (by decide +kernel))) (by decide +kernel), ⟨by decide +kernel, by decide +kernel⟩, by decide +kernel, by decide +kernel⟩
theorem pl_X12_claim : plainName kX12_claim.1.cls = true := by decide +kernel
abbrev kX12_duration : MT := (yX12_duration, cX12_duration, 2, (some .int), [])
set_option maxRecDepth 20000 in
theorem ce_X12_duration : CE kX12_duration 1 := ⟨inTb (tb_8 (List.mem_of_getElem? (i := 106) rfl)) (by decide +kernel), inTb (tb_1 (List.mem_of_getElem? (i := 1) (by decide +kernel))) (by decide +kernel), ⟨by decide +kernel, by decide +kernel⟩, by decide +kernel, by decide +kernel⟩
theorem pl_X12_duration : plainName kX12_duration.1.cls = true := by decide +kernel
abbrev kX12_deadline : MT := (yX12_deadline, cX12_deadline, 2, (some .int), [])
set_option maxRecDepth 20000 in
theorem ce_X12_deadline : CE kX12_deadline 1 := ⟨inTb (tb_8 (List.mem_of_getElem? (i := 113) rfl)) (by decide +kernel), inTb (tb_1 (List.mem_of_getElem? (i := 1) (by decide +kernel))) (by decide +kernel), ⟨by decide +kernel, by decide +kernel⟩, by decide +kernel, by decide +kernel⟩
theorem pl_X12_deadline : plainName kX12_deadline.1.cls = true := by decide +kernel
abbrev kX12_state : MT := (yX12_state, cX12_state, 2, (some .char), [])
set_option maxRecDepth 20000 in
theorem ce_X12_state : CE kX12_state 1 := ⟨inTb (tb_5 (List.mem_of_getElem? (i := 188) rfl)) (by decide +kernel), inTb (tb_1 (List.mem_of_getElem? (i := 1) (by decide +kernel))) (by decide +kernel), ⟨by decide +kernel, by decide +kernel⟩, by decide +kernel, by decide +kernel⟩
theorem pl_X12_state : plainName kX12_state.1.cls = true := by decide +kernel
abbrev kX12_matterLength : MT := (yX12_matterLength, cX12_matterLength, 2, (some .int), [])
set_option maxRecDepth 20000 in
theorem ce_X12_matterLength : CE kX12_matterLength 1 := ⟨inTb (tb_8 (List.mem_of_getElem? (i := 77) rfl)) (by decide +kernel), inTb (tb_1 (List.mem_of_getElem? (i := 1) (by decide +kernel))) (by decide +kernel), ⟨by decide +kernel, by decide +kernel⟩, by decide +kernel, by decide +kernel⟩
theorem pl_X12_matterLength : plainName kX12_matterLength.1.cls = true := by decide +kernel
abbrev kX12_matterLetter : MT := (yX12_matterLetter, cX12_matterLetter, 4, (some .char), [])
set_option maxRecDepth 20000 in
theorem ce_X12_matterLetter : CE kX12_matterLetter 2 := ⟨inTb (tb_8 (List.mem_of_getElem? (i := 68) rfl)) (by decide +kernel), inTb (tb_1 (List.mem_of_getElem? (i := 1) (by decide +kernel))) (by decide +kernel), ⟨by decide +kernel, by decide +kernel⟩, by decide +kernel, by decide +kernel⟩
theorem pl_X12_matterLetter : plainName kX12_matterLetter.1.cls = true := by decide +kernel
abbrev kX12_percentage : MT := (yX12_percentage, cX12_percentage, 2, (some .int), [])
set_option maxRecDepth 20000 in
theorem ce_X12_percentage : CE kX12_percentage 1 := ⟨inTb (tb_5 (List.mem_of_getElem? (i := 195) rfl)) (by decide +kernel), inTb (tb_1 (List.mem_of_getElem? (i := 1) (by decide +kernel))) (by decide +kernel), ⟨by decide +kernel, by decide +kernel⟩, by decide +kernel, by decide +kernel⟩
theorem pl_X12_percentage : plainName kX12_percentage.1.cls = true := by decide +kernel
abbrev kX12_award : MT := (yX12_award, cX12_award, 2, (some .int), [])
set_option maxRecDepth 20000 in
theorem ce_X12_award : CE kX12_award 1 := ⟨inTb (tb_8 (List.mem_of_getElem? (i := 61) rfl)) (by decide +kernel), inTb (tb_1 (List.mem_of_getElem? (i := 1) (by decide +kernel))) (by decide +kernel), ⟨by decide +kernel, by decide +kernel⟩, by decide +kernel, by decide +kernel⟩
theorem pl_X12_award : plainName kX12_award.1.cls = true := by decide +kernel
abbrev kX12_cost : MT := (yX12_cost, cX12_cost, 2, (some .int), [])
set_option maxRecDepth 20000 in
theorem ce_X12_cost : CE kX12_cost 1 := ⟨inTb (tb_5 (List.mem_of_getElem? (i := 207) rfl)) (by decide +kernel), inTb (tb_1 (List.mem_of_getElem? (i := 1) (by decide +kernel))) (by decide +kernel), ⟨by decide +kernel, by decide +kernel⟩, by decide +kernel, by decide +kernel⟩
theorem pl_X12_cost : plainName kX12_cost.1.cls = true := by decide +kernel
abbrev kX12_caseByClaim : MT := (yX12_caseByClaim, cX12_caseByClaim, 4, (some .int), [])
set_option maxRecDepth 20000 in
theorem ce_X12_caseByClaim : CE kX12_caseByClaim 1 := ⟨inTb (tb_7 (List.mem_of_getElem? (i := 239) rfl)) (by decide +kernel), inTb (tb_1 (List.mem_of_getElem? (i := 1) (by decide +kernel))) (by decide +kernel), ⟨by decide +kernel, by decide +kernel⟩, by decide +kernel, by decide +kernel⟩
theorem pl_X12_caseByClaim : plainName kX12_caseByClaim.1.cls = true := by decide +kernel
abbrev kX12_meanClaim : MT := (yX12_meanClaim, cX12_meanClaim, 4, (some .double), [])
set_option maxRecDepth 20000 in
theorem ce_X12_meanClaim : CE kX12_meanClaim 0 := ⟨inTb (tb_7 (List.mem_of_getElem? (i := 46) rfl)) (by decide +kernel), inTb (tb_1 (List.mem_of_getElem? (i := 1) (by decide +kernel))) (by decide +kernel), ⟨by decide +kernel, by decide +kernel⟩, by decide +kernel, by decide +kernel⟩
theorem pl_X12_meanClaim : plainName kX12_meanClaim.1.cls = true := by decide +kernel
abbrev kX12_ruledShare : MT := (yX12_ruledShare, cX12_ruledShare, 4, (some .float), [])
set_option maxRecDepth 20000 in
theorem ce_X12_ruledShare : CE kX12_ruledShare 0 := ⟨inTb (tb_7 (List.mem_of_getElem? (i := 67) rfl)) (by decide +kernel), inTb (tb_1 (List.mem_of_getElem? (i := 1) (by decide +kernel))) (by decide +kernel), ⟨by decide +kernel, by decide +kernel⟩, by decide +kernel, by decide +kernel⟩
theorem pl_X12_ruledShare : plainName kX12_ruledShare.1.cls = true := by decide +kernel
abbrev kX12_existingCase : MT := (yX12_existingCase, cX12_existingCase, 3, (some (.object "ButtonRegistry$Case")), [])
set_option maxRecDepth 20000 in
theorem ce_X12_existingCase : CE kX12_existingCase 1 := ⟨inTb (tb_5 (List.mem_of_getElem? (i := 177) rfl)) (by decide +kernel), inTb (tb_1 (List.mem_of_getElem? (i := 1) (by decide +kernel))) (by decide +kernel), ⟨by decide +kernel, by decide +kernel⟩, by decide +kernel, by decide +kernel⟩
theorem pl_X12_existingCase : plainName kX12_existingCase.1.cls = true := by decide +kernel
abbrev kX12_decidedCase : MT := (yX12_decidedCase, cX12_decidedCase, 3, (some (.object "ButtonRegistry$Case")), [])
set_option maxRecDepth 20000 in
theorem ce_X12_decidedCase : CE kX12_decidedCase 1 := ⟨inTb (tb_5 (List.mem_of_getElem? (i := 199) rfl)) (by decide +kernel), inTb (tb_1 (List.mem_of_getElem? (i := 1) (by decide +kernel))) (by decide +kernel), ⟨by decide +kernel, by decide +kernel⟩, by decide +kernel, by decide +kernel⟩
theorem pl_X12_decidedCase : plainName kX12_decidedCase.1.cls = true := by decide +kernel
abbrev kX12_nearestPrecedent : MT := (yX12_nearestPrecedent, cX12_nearestPrecedent, 3, (some .int), [])
set_option maxRecDepth 20000 in
theorem ce_X12_nearestPrecedent : CE kX12_nearestPrecedent 1 := ⟨inTb (tb_8 (List.mem_of_getElem? (i := 14) rfl)) (by decide +kernel), inTb (tb_1 (List.mem_of_getElem? (i := 1) (by decide +kernel))) (by decide +kernel), ⟨by decide +kernel, by decide +kernel⟩, by decide +kernel, by decide +kernel⟩
theorem pl_X12_nearestPrecedent : plainName kX12_nearestPrecedent.1.cls = true := by decide +kernel
abbrev kX12_precedentCount : MT := (yX12_precedentCount, cX12_precedentCount, 1, (some .int), [])
set_option maxRecDepth 20000 in
theorem ce_X12_precedentCount : CE kX12_precedentCount 0 := ⟨inTb (tb_3 (List.mem_of_getElem? (i := 169) rfl)) (by decide +kernel), inTb (tb_1 (List.mem_of_getElem? (i := 1) (by decide +kernel))) (by decide +kernel), ⟨by decide +kernel, by decide +kernel⟩, by decide +kernel, by decide +kernel⟩
theorem pl_X12_precedentCount : plainName kX12_precedentCount.1.cls = true := by decide +kernel
abbrev kX12_precedentPercentage : MT := (yX12_precedentPercentage, cX12_precedentPercentage, 2, (some .int), [])
set_option maxRecDepth 20000 in
theorem ce_X12_precedentPercentage : CE kX12_precedentPercentage 1 := ⟨inTb (tb_7 (List.mem_of_getElem? (i := 210) rfl)) (by decide +kernel), inTb (tb_1 (List.mem_of_getElem? (i := 1) (by decide +kernel))) (by decide +kernel), ⟨by decide +kernel, by decide +kernel⟩, by decide +kernel, by decide +kernel⟩
theorem pl_X12_precedentPercentage : plainName kX12_precedentPercentage.1.cls = true := by decide +kernel
abbrev kX12_distance : MT := (yX12_distance, cX12_distance, 4, (some .int), [])
set_option maxRecDepth 20000 in
theorem ce_X12_distance : CE kX12_distance 2 := ⟨inTb (tb_8 (List.mem_of_getElem? (i := 84) rfl)) (by decide +kernel), inTb (tb_1 (List.mem_of_getElem? (i := 1) (by decide +kernel))) (by decide +kernel), ⟨by decide +kernel, by decide +kernel⟩, by decide +kernel, by decide +kernel⟩
theorem pl_X12_distance : plainName kX12_distance.1.cls = true := by decide +kernel
abbrev kX12_distanceByEnds : MT := (yX12_distanceByEnds, cX12_distanceByEnds, 4, (some .int), [])
set_option maxRecDepth 20000 in
theorem ce_X12_distanceByEnds : CE kX12_distanceByEnds 2 := ⟨inTb (tb_8 (List.mem_of_getElem? (i := 92) rfl)) (by decide +kernel), inTb (tb_1 (List.mem_of_getElem? (i := 1) (by decide +kernel))) (by decide +kernel), ⟨by decide +kernel, by decide +kernel⟩, by decide +kernel, by decide +kernel⟩
theorem pl_X12_distanceByEnds : plainName kX12_distanceByEnds.1.cls = true := by decide +kernel
abbrev kX12_existingPrecedent : MT := (yX12_existingPrecedent, cX12_existingPrecedent, 2, (some (.object "ButtonRegistry$Precedent")), [])
set_option maxRecDepth 20000 in
theorem ce_X12_existingPrecedent : CE kX12_existingPrecedent 1 := ⟨inTb (tb_7 (List.mem_of_getElem? (i := 214) rfl)) (by decide +kernel), inTb (tb_1 (List.mem_of_getElem? (i := 1) (by decide +kernel))) (by decide +kernel), ⟨by decide +kernel, by decide +kernel⟩, by decide +kernel, by decide +kernel⟩
theorem pl_X12_existingPrecedent : plainName kX12_existingPrecedent.1.cls = true := by decide +kernel
abbrev kX12_bestDocket : MT := (yX12_bestDocket, cX12_bestDocket, 1, (some .int), [])
set_option maxRecDepth 20000 in
theorem ce_X12_bestDocket : CE kX12_bestDocket 0 := ⟨inTb (tb_7 (List.mem_of_getElem? (i := 82) rfl)) (by decide +kernel), inTb (tb_1 (List.mem_of_getElem? (i := 1) (by decide +kernel))) (by decide +kernel), ⟨by decide +kernel, by decide +kernel⟩, by decide +kernel, by decide +kernel⟩
theorem pl_X12_bestDocket : plainName kX12_bestDocket.1.cls = true := by decide +kernel
abbrev kX12_fewestTransfers : MT := (yX12_fewestTransfers, cX12_fewestTransfers, 1, (some .int), [])
set_option maxRecDepth 20000 in
theorem ce_X12_fewestTransfers : CE kX12_fewestTransfers 0 := ⟨inTb (tb_7 (List.mem_of_getElem? (i := 136) rfl)) (by decide +kernel), inTb (tb_1 (List.mem_of_getElem? (i := 1) (by decide +kernel))) (by decide +kernel), ⟨by decide +kernel, by decide +kernel⟩, by decide +kernel, by decide +kernel⟩
theorem pl_X12_fewestTransfers : plainName kX12_fewestTransfers.1.cls = true := by decide +kernel
abbrev kX12_renderCase : MT := (yX12_renderCase, cX12_renderCase, 3, (some .int), [])
set_option maxRecDepth 20000 in
theorem ce_X12_renderCase : CE kX12_renderCase 1 := ⟨inTb (tb_7 (List.mem_of_getElem? (i := 231) rfl)) (by decide +kernel), inTb (tb_1 (List.mem_of_getElem? (i := 1) (by decide +kernel))) (by decide +kernel), ⟨by decide +kernel, by decide +kernel⟩, by decide +kernel, by decide +kernel⟩
theorem pl_X12_renderCase : plainName kX12_renderCase.1.cls = true := by decide +kernel
abbrev kX12_renderBonds : MT := (yX12_renderBonds, cX12_renderBonds, 4, (some .int), [])
set_option maxRecDepth 20000 in
theorem ce_X12_renderBonds : CE kX12_renderBonds 1 := ⟨inTb (tb_7 (List.mem_of_getElem? (i := 161) rfl)) (by decide +kernel), inTb (tb_1 (List.mem_of_getElem? (i := 1) (by decide +kernel))) (by decide +kernel), ⟨by decide +kernel, by decide +kernel⟩, by decide +kernel, by decide +kernel⟩
theorem pl_X12_renderBonds : plainName kX12_renderBonds.1.cls = true := by decide +kernel
abbrev kX12_outputAt : MT := (yX12_outputAt, cX12_outputAt, 2, (some .char), [])
set_option maxRecDepth 20000 in
theorem ce_X12_outputAt : CE kX12_outputAt 1 := ⟨inTb (tb_7 (List.mem_of_getElem? (i := 170) rfl)) (by decide +kernel), inTb (tb_1 (List.mem_of_getElem? (i := 1) (by decide +kernel))) (by decide +kernel), ⟨by decide +kernel, by decide +kernel⟩, by decide +kernel, by decide +kernel⟩
theorem pl_X12_outputAt : plainName kX12_outputAt.1.cls = true := by decide +kernel
abbrev kX12_type : MT := (yX12_type, cX12_type, 2, (some .int), [])
set_option maxRecDepth 20000 in
theorem ce_X12_type : CE kX12_type 1 := ⟨inTb (tb_5 (List.mem_of_getElem? (i := 214) rfl)) (by decide +kernel), inTb (tb_1 (List.mem_of_getElem? (i := 1) (by decide +kernel))) (by decide +kernel), ⟨by decide +kernel, by decide +kernel⟩, by decide +kernel, by decide +kernel⟩
theorem pl_X12_type : plainName kX12_type.1.cls = true := by decide +kernel
abbrev kX12_runScript : MT := (yX12_runScript, cX12_runScript, 4, (some .int), [])
set_option maxRecDepth 20000 in
theorem ce_X12_runScript : CE kX12_runScript 0 := ⟨inTb (tb_5 (List.mem_of_getElem? (i := 223) rfl)) (by decide +kernel), inTb (tb_1 (List.mem_of_getElem? (i := 1) (by decide +kernel))) (by decide +kernel), ⟨by decide +kernel, by decide +kernel⟩, by decide +kernel, by decide +kernel⟩
theorem pl_X12_runScript : plainName kX12_runScript.1.cls = true := by decide +kernel
abbrev kX12_errorPosition : MT := (yX12_errorPosition, cX12_errorPosition, 1, (some .int), [])
set_option maxRecDepth 20000 in
theorem ce_X12_errorPosition : CE kX12_errorPosition 0 := ⟨inTb (tb_6 (List.mem_of_getElem? (i := 172) rfl)) (by decide +kernel), inTb (tb_1 (List.mem_of_getElem? (i := 1) (by decide +kernel))) (by decide +kernel), ⟨by decide +kernel, by decide +kernel⟩, by decide +kernel, by decide +kernel⟩
theorem pl_X12_errorPosition : plainName kX12_errorPosition.1.cls = true := by decide +kernel
abbrev kX12_failedCommand : MT := (yX12_failedCommand, cX12_failedCommand, 1, (some .int), [])
set_option maxRecDepth 20000 in
theorem ce_X12_failedCommand : CE kX12_failedCommand 0 := ⟨inTb (tb_8 (List.mem_of_getElem? (i := 174) rfl)) (by decide +kernel), inTb (tb_1 (List.mem_of_getElem? (i := 1) (by decide +kernel))) (by decide +kernel), ⟨by decide +kernel, by decide +kernel⟩, by decide +kernel, by decide +kernel⟩
theorem pl_X12_failedCommand : plainName kX12_failedCommand.1.cls = true := by decide +kernel
abbrev kX12_undo : MT := (yX12_undo, cX12_undo, 1, (some .int), [])
set_option maxRecDepth 20000 in
theorem ce_X12_undo : CE kX12_undo 0 := ⟨inTb (tb_6 (List.mem_of_getElem? (i := 180) rfl)) (by decide +kernel), inTb (tb_1 (List.mem_of_getElem? (i := 1) (by decide +kernel))) (by decide +kernel), ⟨by decide +kernel, by decide +kernel⟩, by decide +kernel, by decide +kernel⟩
theorem pl_X12_undo : plainName kX12_undo.1.cls = true := by decide +kernel
abbrev kX12_save : MT := (yX12_save, cX12_save, 1, (some .int), [])
set_option maxRecDepth 20000 in
theorem ce_X12_save : CE kX12_save 0 := ⟨inTb (tb_3 (List.mem_of_getElem? (i := 173) rfl)) (by decide +kernel), inTb (tb_1 (List.mem_of_getElem? (i := 1) (by decide +kernel))) (by decide +kernel), ⟨by decide +kernel, by decide +kernel⟩, by decide +kernel, by decide +kernel⟩
theorem pl_X12_save : plainName kX12_save.1.cls = true := by decide +kernel
abbrev kX12_restore : MT := (yX12_restore, cX12_restore, 1, (some .int), [])
set_option maxRecDepth 20000 in
theorem ce_X12_restore : CE kX12_restore 0 := ⟨inTb (tb_6 (List.mem_of_getElem? (i := 189) rfl)) (by decide +kernel), inTb (tb_1 (List.mem_of_getElem? (i := 1) (by decide +kernel))) (by decide +kernel), ⟨by decide +kernel, by decide +kernel⟩, by decide +kernel, by decide +kernel⟩
theorem pl_X12_restore : plainName kX12_restore.1.cls = true := by decide +kernel
abbrev kJ5_init_d00df : MT := (yJ5_init_d00df, cJ5_init_d00df, 2, none, [])
set_option maxRecDepth 20000 in
theorem ce_J5_init_d00df : CE kJ5_init_d00df 1 := ⟨inTb (tb_1 (List.mem_of_getElem? (i := 132) rfl)) (by decide +kernel), inTb (tb_1 (List.mem_of_getElem? (i := 6) (by decide +kernel))) (by decide +kernel), ⟨by decide +kernel, by decide +kernel⟩, by decide +kernel, by decide +kernel⟩
theorem pl_J5_init_d00df : plainName kJ5_init_d00df.1.cls = true := by decide +kernel
abbrev kJ5_length_8abf5 : MT := (yJ5_length_8abf5, cJ5_length_8abf5, 1, (some .int), [])
set_option maxRecDepth 20000 in
theorem ce_J5_length_8abf5 : CE kJ5_length_8abf5 0 := ⟨inTb (tb_2 (List.mem_of_getElem? (i := 45) rfl)) (by decide +kernel), inTb (tb_1 (List.mem_of_getElem? (i := 6) (by decide +kernel))) (by decide +kernel), ⟨by decide +kernel, by decide +kernel⟩, by decide +kernel, by decide +kernel⟩
theorem pl_J5_length_8abf5 : plainName kJ5_length_8abf5.1.cls = true := by decide +kernel
abbrev kJ5_ensureCapacityInternal_d00df : MT := (yJ5_ensureCapacityInternal_d00df, cJ5_ensureCapacityInternal_d00df, 3, none, [])
set_option maxRecDepth 20000 in
theorem ce_J5_ensureCapacityInternal_d00df : CE kJ5_ensureCapacityInternal_d00df 1 := ⟨inTb (tb_2 (List.mem_of_getElem? (i := 75) rfl)) (by decide +kernel), inTb (tb_1 (List.mem_of_getElem? (i := 6) (by decide +kernel))) (by decide +kernel), ⟨by decide +kernel, by decide +kernel⟩, by decide +kernel, by decide +kernel⟩
theorem pl_J5_ensureCapacityInternal_d00df : plainName kJ5_ensureCapacityInternal_d00df.1.cls = true := by decide +kernel
abbrev kJ5_newCapacity_0f7a4 : MT := (yJ5_newCapacity_0f7a4, cJ5_newCapacity_0f7a4, 6, (some .int), [])
set_option maxRecDepth 20000 in
theorem ce_J5_newCapacity_0f7a4 : CE kJ5_newCapacity_0f7a4 1 := ⟨inTb (tb_2 (List.mem_of_getElem? (i := 79) rfl)) (by decide +kernel), inTb (tb_1 (List.mem_of_getElem? (i := 6) (by decide +kernel))) (by decide +kernel), ⟨by decide +kernel, by decide +kernel⟩, by decide +kernel, by decide +kernel⟩
theorem pl_J5_newCapacity_0f7a4 : plainName kJ5_newCapacity_0f7a4.1.cls = true := by decide +kernel
abbrev kJ5_setLength_d00df : MT := (yJ5_setLength_d00df, cJ5_setLength_d00df, 2, none, [])
set_option maxRecDepth 20000 in
theorem ce_J5_setLength_d00df : CE kJ5_setLength_d00df 1 := ⟨inTb (tb_2 (List.mem_of_getElem? (i := 52) rfl)) (by decide +kernel), inTb (tb_1 (List.mem_of_getElem? (i := 6) (by decide +kernel))) (by decide +kernel), ⟨by decide +kernel, by decide +kernel⟩, by decide +kernel, by decide +kernel⟩
theorem pl_J5_setLength_d00df : plainName kJ5_setLength_d00df.1.cls = true := by decide +kernel
abbrev kJ5_charAt_5068e : MT := (yJ5_charAt_5068e, cJ5_charAt_5068e, 5, (some .char), [])
set_option maxRecDepth 20000 in
theorem ce_J5_charAt_5068e : CE kJ5_charAt_5068e 1 := ⟨inTb (tb_7 (List.mem_of_getElem? (i := 178) rfl)) (by decide +kernel), inTb (tb_1 (List.mem_of_getElem? (i := 6) (by decide +kernel))) (by decide +kernel), ⟨by decide +kernel, by decide +kernel⟩, by decide +kernel, by decide +kernel⟩
theorem pl_J5_charAt_5068e : plainName kJ5_charAt_5068e.1.cls = true := by decide +kernel
abbrev kJ5_append_cf1ce : MT := (yJ5_append_cf1ce, cJ5_append_cf1ce, 3, (some (.object "java/lang/AbstractStringBuilder")), [])
set_option maxRecDepth 20000 in
theorem ce_J5_append_cf1ce : CE kJ5_append_cf1ce 1 := ⟨inTb (tb_2 (List.mem_of_getElem? (i := 67) rfl)) (by decide +kernel), inTb (tb_1 (List.mem_of_getElem? (i := 6) (by decide +kernel))) (by decide +kernel), ⟨by decide +kernel, by decide +kernel⟩, by decide +kernel, by decide +kernel⟩
theorem pl_J5_append_cf1ce : plainName kJ5_append_cf1ce.1.cls = true := by decide +kernel
abbrev kJ5_append_3fe6f : MT := (yJ5_append_3fe6f, cJ5_append_3fe6f, 2, (some (.object "java/lang/AbstractStringBuilder")), [])
set_option maxRecDepth 20000 in
theorem ce_J5_append_3fe6f : CE kJ5_append_3fe6f 1 := ⟨inTb (tb_4 (List.mem_of_getElem? (i := 128) rfl)) (by decide +kernel), inTb (tb_1 (List.mem_of_getElem? (i := 6) (by decide +kernel))) (by decide +kernel), ⟨by decide +kernel, by decide +kernel⟩, by decide +kernel, by decide +kernel⟩
theorem pl_J5_append_3fe6f : plainName kJ5_append_3fe6f.1.cls = true := by decide +kernel
abbrev kJ5_append_c97b9 : MT := (yJ5_append_c97b9, cJ5_append_c97b9, 4, (some (.object "java/lang/AbstractStringBuilder")), [])
set_option maxRecDepth 20000 in
theorem ce_J5_append_c97b9 : CE kJ5_append_c97b9 1 := ⟨inTb (tb_2 (List.mem_of_getElem? (i := 187) rfl)) (by decide +kernel), inTb (tb_1 (List.mem_of_getElem? (i := 6) (by decide +kernel))) (by decide +kernel), ⟨by decide +kernel, by decide +kernel⟩, by decide +kernel, by decide +kernel⟩
theorem pl_J5_append_c97b9 : plainName kJ5_append_c97b9.1.cls = true := by decide +kernel
abbrev kJ5_getValue_6d5f1 : MT := (yJ5_getValue_6d5f1, cJ5_getValue_6d5f1, 1, (some (.array .byte)), [])
set_option maxRecDepth 20000 in
theorem ce_J5_getValue_6d5f1 : CE kJ5_getValue_6d5f1 0 := ⟨inTb (tb_2 (List.mem_of_getElem? (i := 223) rfl)) (by decide +kernel), inTb (tb_1 (List.mem_of_getElem? (i := 6) (by decide +kernel))) (by decide +kernel), ⟨by decide +kernel, by decide +kernel⟩, by decide +kernel, by decide +kernel⟩
theorem pl_J5_getValue_6d5f1 : plainName kJ5_getValue_6d5f1.1.cls = true := by decide +kernel
abbrev kJ5_isLatin1_aae02 : MT := (yJ5_isLatin1_aae02, cJ5_isLatin1_aae02, 1, (some .boolean), [])
set_option maxRecDepth 20000 in
theorem ce_J5_isLatin1_aae02 : CE kJ5_isLatin1_aae02 0 := ⟨inTb (tb_2 (List.mem_of_getElem? (i := 111) rfl)) (by decide +kernel), inTb (tb_1 (List.mem_of_getElem? (i := 6) (by decide +kernel))) (by decide +kernel), ⟨by decide +kernel, by decide +kernel⟩, by decide +kernel, by decide +kernel⟩
theorem pl_J5_isLatin1_aae02 : plainName kJ5_isLatin1_aae02.1.cls = true := by decide +kernel
abbrev kJ5_putStringAt_47b60 : MT := (yJ5_putStringAt_47b60, cJ5_putStringAt_47b60, 3, none, [])
set_option maxRecDepth 20000 in
theorem ce_J5_putStringAt_47b60 : CE kJ5_putStringAt_47b60 2 := ⟨inTb (tb_2 (List.mem_of_getElem? (i := 150) rfl)) (by decide +kernel), inTb (tb_1 (List.mem_of_getElem? (i := 6) (by decide +kernel))) (by decide +kernel), ⟨by decide +kernel, by decide +kernel⟩, by decide +kernel, by decide +kernel⟩
theorem pl_J5_putStringAt_47b60 : plainName kJ5_putStringAt_47b60.1.cls = true := by decide +kernel
abbrev kJxe99ae_isNaN_b9ae7 : MT := (yJxe99ae_isNaN_b9ae7, cJxe99ae_isNaN_b9ae7, 2, (some .boolean), [])
set_option maxRecDepth 20000 in
theorem ce_Jxe99ae_isNaN_b9ae7 : CE kJxe99ae_isNaN_b9ae7 1 := ⟨inTb (tb_7 (List.mem_of_getElem? (i := 56) rfl)) (by decide +kernel), inTb (tb_1 (List.mem_of_getElem? (i := 40) (by decide +kernel))) (by decide +kernel), ⟨by decide +kernel, by decide +kernel⟩, by decide +kernel, by decide +kernel⟩
abbrev kJxe99ae_doubleToLongBits_ccdee : MT := (yJxe99ae_doubleToLongBits_ccdee, cJxe99ae_doubleToLongBits_ccdee, 2, (some .long), [])
set_option maxRecDepth 20000 in
theorem ce_Jxe99ae_doubleToLongBits_ccdee : CE kJxe99ae_doubleToLongBits_ccdee 1 := ⟨inTb (tb_7 (List.mem_of_getElem? (i := 53) rfl)) (by decide +kernel), inTb (tb_1 (List.mem_of_getElem? (i := 40) (by decide +kernel))) (by decide +kernel), ⟨by decide +kernel, by decide +kernel⟩, by decide +kernel, by decide +kernel⟩
abbrev kJxf58ca_isNaN_12338 : MT := (yJxf58ca_isNaN_12338, cJxf58ca_isNaN_12338, 1, (some .boolean), [])
set_option maxRecDepth 20000 in
theorem ce_Jxf58ca_isNaN_12338 : CE kJxf58ca_isNaN_12338 1 := ⟨inTb (tb_7 (List.mem_of_getElem? (i := 74) rfl)) (by decide +kernel), inTb (tb_1 (List.mem_of_getElem? (i := 41) (by decide +kernel))) (by decide +kernel), ⟨by decide +kernel, by decide +kernel⟩, by decide +kernel, by decide +kernel⟩
abbrev kJxf58ca_floatToIntBits_5c35a : MT := (yJxf58ca_floatToIntBits_5c35a, cJxf58ca_floatToIntBits_5c35a, 1, (some .int), [])
set_option maxRecDepth 20000 in
theorem ce_Jxf58ca_floatToIntBits_5c35a : CE kJxf58ca_floatToIntBits_5c35a 1 := ⟨inTb (tb_7 (List.mem_of_getElem? (i := 71) rfl)) (by decide +kernel), inTb (tb_1 (List.mem_of_getElem? (i := 41) (by decide +kernel))) (by decide +kernel), ⟨by decide +kernel, by decide +kernel⟩, by decide +kernel, by decide +kernel⟩
abbrev kJ6_getChars_ba4f3 : MT := (yJ6_getChars_ba4f3, cJ6_getChars_ba4f3, 7, (some .int), [])
set_option maxRecDepth 20000 in
theorem ce_J6_getChars_ba4f3 : CE kJ6_getChars_ba4f3 3 := ⟨inTb (tb_2 (List.mem_of_getElem? (i := 193) rfl)) (by decide +kernel), inTb (tb_1 (List.mem_of_getElem? (i := 32) (by decide +kernel))) (by decide +kernel), ⟨by decide +kernel, by decide +kernel⟩, by decide +kernel, by decide +kernel⟩
theorem pl_J6_getChars_ba4f3 : plainName kJ6_getChars_ba4f3.1.cls = true := by decide +kernel
abbrev kJ6_stringSize_0f7a4 : MT := (yJ6_stringSize_0f7a4, cJ6_stringSize_0f7a4, 4, (some .int), [])
set_option maxRecDepth 20000 in
theorem ce_J6_stringSize_0f7a4 : CE kJ6_stringSize_0f7a4 1 := ⟨inTb (tb_2 (List.mem_of_getElem? (i := 190) rfl)) (by decide +kernel), inTb (tb_1 (List.mem_of_getElem? (i := 32) (by decide +kernel))) (by decide +kernel), ⟨by decide +kernel, by decide +kernel⟩, by decide +kernel, by decide +kernel⟩
theorem pl_J6_stringSize_0f7a4 : plainName kJ6_stringSize_0f7a4.1.cls = true := by decide +kernel
abbrev kJ9_max_7cf53 : MT := (yJ9_max_7cf53, cJ9_max_7cf53, 2, (some .int), [])
set_option maxRecDepth 20000 in
theorem ce_J9_max_7cf53 : CE kJ9_max_7cf53 2 := ⟨inTb (tb_2 (List.mem_of_getElem? (i := 85) rfl)) (by decide +kernel), inTb (tb_1 (List.mem_of_getElem? (i := 23) (by decide +kernel))) (by decide +kernel), ⟨by decide +kernel, by decide +kernel⟩, by decide +kernel, by decide +kernel⟩
abbrev kJ9_min_7cf53 : MT := (yJ9_min_7cf53, cJ9_min_7cf53, 2, (some .int), [])
set_option maxRecDepth 20000 in
theorem ce_J9_min_7cf53 : CE kJ9_min_7cf53 2 := ⟨inTb (tb_2 (List.mem_of_getElem? (i := 103) rfl)) (by decide +kernel), inTb (tb_1 (List.mem_of_getElem? (i := 23) (by decide +kernel))) (by decide +kernel), ⟨by decide +kernel, by decide +kernel⟩, by decide +kernel, by decide +kernel⟩
abbrev kJ0_init_81219 : MT := (yJ0_init_81219, cJ0_init_81219, 2, none, [])
set_option maxRecDepth 20000 in
theorem ce_J0_init_81219 : CE kJ0_init_81219 1 := ⟨inTb (tb_2 (List.mem_of_getElem? (i := 214) rfl)) (by decide +kernel), inTb (tb_1 (List.mem_of_getElem? (i := 8) (by decide +kernel))) (by decide +kernel), ⟨by decide +kernel, by decide +kernel⟩, by decide +kernel, by decide +kernel⟩
theorem pl_J0_init_81219 : plainName kJ0_init_81219.1.cls = true := by decide +kernel
abbrev kJ0_length_8abf5 : MT := (yJ0_length_8abf5, cJ0_length_8abf5, 1, (some .int), [])
set_option maxRecDepth 20000 in
theorem ce_J0_length_8abf5 : CE kJ0_length_8abf5 0 := ⟨inTb (tb_2 (List.mem_of_getElem? (i := 141) rfl)) (by decide +kernel), inTb (tb_1 (List.mem_of_getElem? (i := 8) (by decide +kernel))) (by decide +kernel), ⟨by decide +kernel, by decide +kernel⟩, by decide +kernel, by decide +kernel⟩
theorem pl_J0_length_8abf5 : plainName kJ0_length_8abf5.1.cls = true := by decide +kernel
abbrev kJ0_isEmpty_aae02 : MT := (yJ0_isEmpty_aae02, cJ0_isEmpty_aae02, 1, (some .boolean), [])
set_option maxRecDepth 20000 in
theorem ce_J0_isEmpty_aae02 : CE kJ0_isEmpty_aae02 0 := ⟨inTb (tb_6 (List.mem_of_getElem? (i := 143) rfl)) (by decide +kernel), inTb (tb_1 (List.mem_of_getElem? (i := 8) (by decide +kernel))) (by decide +kernel), ⟨by decide +kernel, by decide +kernel⟩, by decide +kernel, by decide +kernel⟩
theorem pl_J0_isEmpty_aae02 : plainName kJ0_isEmpty_aae02.1.cls = true := by decide +kernel
abbrev kJ0_charAt_5068e : MT := (yJ0_charAt_5068e, cJ0_charAt_5068e, 2, (some .char), [])
set_option maxRecDepth 20000 in
theorem ce_J0_charAt_5068e : CE kJ0_charAt_5068e 1 := ⟨inTb (tb_5 (List.mem_of_getElem? (i := 53) rfl)) (by decide +kernel), inTb (tb_1 (List.mem_of_getElem? (i := 8) (by decide +kernel))) (by decide +kernel), ⟨by decide +kernel, by decide +kernel⟩, by decide +kernel, by decide +kernel⟩
theorem pl_J0_charAt_5068e : plainName kJ0_charAt_5068e.1.cls = true := by decide +kernel
abbrev kJ0_substring_37a41 : MT := (yJ0_substring_37a41, cJ0_substring_37a41, 5, (some (.object "java/lang/String")), [])
set_option maxRecDepth 20000 in
theorem ce_J0_substring_37a41 : CE kJ0_substring_37a41 2 := ⟨inTb (tb_6 (List.mem_of_getElem? (i := 68) rfl)) (by decide +kernel), inTb (tb_1 (List.mem_of_getElem? (i := 8) (by decide +kernel))) (by decide +kernel), ⟨by decide +kernel, by decide +kernel⟩, by decide +kernel, by decide +kernel⟩
theorem pl_J0_substring_37a41 : plainName kJ0_substring_37a41.1.cls = true := by decide +kernel
abbrev kJ0_getBytes_840e7 : MT := (yJ0_getBytes_840e7, cJ0_getBytes_840e7, 4, none, [])
set_option maxRecDepth 20000 in
theorem ce_J0_getBytes_840e7 : CE kJ0_getBytes_840e7 3 := ⟨inTb (tb_2 (List.mem_of_getElem? (i := 178) rfl)) (by decide +kernel), inTb (tb_1 (List.mem_of_getElem? (i := 8) (by decide +kernel))) (by decide +kernel), ⟨by decide +kernel, by decide +kernel⟩, by decide +kernel, by decide +kernel⟩
theorem pl_J0_getBytes_840e7 : plainName kJ0_getBytes_840e7.1.cls = true := by decide +kernel
abbrev kJ0_init_db425 : MT := (yJ0_init_db425, cJ0_init_db425, 5, none, [])
set_option maxRecDepth 20000 in
theorem ce_J0_init_db425 : CE kJ0_init_db425 2 := ⟨inTb (tb_2 (List.mem_of_getElem? (i := 217) rfl)) (by decide +kernel), inTb (tb_1 (List.mem_of_getElem? (i := 8) (by decide +kernel))) (by decide +kernel), ⟨by decide +kernel, by decide +kernel⟩, by decide +kernel, by decide +kernel⟩
theorem pl_J0_init_db425 : plainName kJ0_init_db425.1.cls = true := by decide +kernel
abbrev kJ0_init_031fb : MT := (yJ0_init_031fb, cJ0_init_031fb, 3, none, [])
set_option maxRecDepth 20000 in
theorem ce_J0_init_031fb : CE kJ0_init_031fb 2 := ⟨inTb (tb_6 (List.mem_of_getElem? (i := 79) rfl)) (by decide +kernel), inTb (tb_1 (List.mem_of_getElem? (i := 8) (by decide +kernel))) (by decide +kernel), ⟨by decide +kernel, by decide +kernel⟩, by decide +kernel, by decide +kernel⟩
theorem pl_J0_init_031fb : plainName kJ0_init_031fb.1.cls = true := by decide +kernel
abbrev kJ0_coder_7d493 : MT := (yJ0_coder_7d493, cJ0_coder_7d493, 1, (some .byte), [])
set_option maxRecDepth 20000 in
theorem ce_J0_coder_7d493 : CE kJ0_coder_7d493 0 := ⟨inTb (tb_2 (List.mem_of_getElem? (i := 145) rfl)) (by decide +kernel), inTb (tb_1 (List.mem_of_getElem? (i := 8) (by decide +kernel))) (by decide +kernel), ⟨by decide +kernel, by decide +kernel⟩, by decide +kernel, by decide +kernel⟩
theorem pl_J0_coder_7d493 : plainName kJ0_coder_7d493.1.cls = true := by decide +kernel
abbrev kJ0_isLatin1_aae02 : MT := (yJ0_isLatin1_aae02, cJ0_isLatin1_aae02, 1, (some .boolean), [])
set_option maxRecDepth 20000 in
theorem ce_J0_isLatin1_aae02 : CE kJ0_isLatin1_aae02 0 := ⟨inTb (tb_5 (List.mem_of_getElem? (i := 57) rfl)) (by decide +kernel), inTb (tb_1 (List.mem_of_getElem? (i := 8) (by decide +kernel))) (by decide +kernel), ⟨by decide +kernel, by decide +kernel⟩, by decide +kernel, by decide +kernel⟩
theorem pl_J0_isLatin1_aae02 : plainName kJ0_isLatin1_aae02.1.cls = true := by decide +kernel
abbrev kJ0_checkIndex_df160 : MT := (yJ0_checkIndex_df160, cJ0_checkIndex_df160, 2, none, [])
set_option maxRecDepth 20000 in
theorem ce_J0_checkIndex_df160 : CE kJ0_checkIndex_df160 2 := ⟨inTb (tb_4 (List.mem_of_getElem? (i := 140) rfl)) (by decide +kernel), inTb (tb_1 (List.mem_of_getElem? (i := 8) (by decide +kernel))) (by decide +kernel), ⟨by decide +kernel, by decide +kernel⟩, by decide +kernel, by decide +kernel⟩
theorem pl_J0_checkIndex_df160 : plainName kJ0_checkIndex_df160.1.cls = true := by decide +kernel
abbrev kJ0_checkBoundsBeginEnd_23922 : MT := (yJ0_checkBoundsBeginEnd_23922, cJ0_checkBoundsBeginEnd_23922, 3, none, [])
set_option maxRecDepth 20000 in
theorem ce_J0_checkBoundsBeginEnd_23922 : CE kJ0_checkBoundsBeginEnd_23922 3 := ⟨inTb (tb_2 (List.mem_of_getElem? (i := 123) rfl)) (by decide +kernel), inTb (tb_1 (List.mem_of_getElem? (i := 8) (by decide +kernel))) (by decide +kernel), ⟨by decide +kernel, by decide +kernel⟩, by decide +kernel, by decide +kernel⟩
theorem pl_J0_checkBoundsBeginEnd_23922 : plainName kJ0_checkBoundsBeginEnd_23922.1.cls = true := by decide +kernel
abbrev kJ4_init_da8c8 : MT := (yJ4_init_da8c8, cJ4_init_da8c8, 1, none, [])
set_option maxRecDepth 20000 in
theorem ce_J4_init_da8c8 : CE kJ4_init_da8c8 0 := ⟨inTb (tb_1 (List.mem_of_getElem? (i := 129) rfl)) (by decide +kernel), inTb (tb_1 (List.mem_of_getElem? (i := 7) (by decide +kernel))) (by decide +kernel), ⟨by decide +kernel, by decide +kernel⟩, by decide +kernel, by decide +kernel⟩
theorem pl_J4_init_da8c8 : plainName kJ4_init_da8c8.1.cls = true := by decide +kernel
abbrev kJ4_append_15ec4 : MT := (yJ4_append_15ec4, cJ4_append_15ec4, 2, (some (.object "java/lang/StringBuilder")), [])
set_option maxRecDepth 20000 in
theorem ce_J4_append_15ec4 : CE kJ4_append_15ec4 1 := ⟨inTb (tb_2 (List.mem_of_getElem? (i := 64) rfl)) (by decide +kernel), inTb (tb_1 (List.mem_of_getElem? (i := 7) (by decide +kernel))) (by decide +kernel), ⟨by decide +kernel, by decide +kernel⟩, by decide +kernel, by decide +kernel⟩
theorem pl_J4_append_15ec4 : plainName kJ4_append_15ec4.1.cls = true := by decide +kernel
abbrev kJ4_append_cf468 : MT := (yJ4_append_cf468, cJ4_append_cf468, 2, (some (.object "java/lang/StringBuilder")), [])
set_option maxRecDepth 20000 in
theorem ce_J4_append_cf468 : CE kJ4_append_cf468 1 := ⟨inTb (tb_4 (List.mem_of_getElem? (i := 125) rfl)) (by decide +kernel), inTb (tb_1 (List.mem_of_getElem? (i := 7) (by decide +kernel))) (by decide +kernel), ⟨by decide +kernel, by decide +kernel⟩, by decide +kernel, by decide +kernel⟩
theorem pl_J4_append_cf468 : plainName kJ4_append_cf468.1.cls = true := by decide +kernel
abbrev kJ4_append_bf812 : MT := (yJ4_append_bf812, cJ4_append_bf812, 2, (some (.object "java/lang/StringBuilder")), [])
set_option maxRecDepth 20000 in
theorem ce_J4_append_bf812 : CE kJ4_append_bf812 1 := ⟨inTb (tb_2 (List.mem_of_getElem? (i := 184) rfl)) (by decide +kernel), inTb (tb_1 (List.mem_of_getElem? (i := 7) (by decide +kernel))) (by decide +kernel), ⟨by decide +kernel, by decide +kernel⟩, by decide +kernel, by decide +kernel⟩
theorem pl_J4_append_bf812 : plainName kJ4_append_bf812.1.cls = true := by decide +kernel
abbrev kJ4_toString_0e30d : MT := (yJ4_toString_0e30d, cJ4_toString_0e30d, 1, (some (.object "java/lang/String")), [])
set_option maxRecDepth 20000 in
theorem ce_J4_toString_0e30d : CE kJ4_toString_0e30d 0 := ⟨inTb (tb_2 (List.mem_of_getElem? (i := 209) rfl)) (by decide +kernel), inTb (tb_1 (List.mem_of_getElem? (i := 7) (by decide +kernel))) (by decide +kernel), ⟨by decide +kernel, by decide +kernel⟩, by decide +kernel, by decide +kernel⟩
theorem pl_J4_toString_0e30d : plainName kJ4_toString_0e30d.1.cls = true := by decide +kernel
abbrev kJ4_charAt_5068e : MT := (yJ4_charAt_5068e, cJ4_charAt_5068e, 2, (some .char), [])
set_option maxRecDepth 20000 in
theorem ce_J4_charAt_5068e : CE kJ4_charAt_5068e 1 := ⟨inTb (tb_7 (List.mem_of_getElem? (i := 175) rfl)) (by decide +kernel), inTb (tb_1 (List.mem_of_getElem? (i := 7) (by decide +kernel))) (by decide +kernel), ⟨by decide +kernel, by decide +kernel⟩, by decide +kernel, by decide +kernel⟩
theorem pl_J4_charAt_5068e : plainName kJ4_charAt_5068e.1.cls = true := by decide +kernel
abbrev kJ4_setLength_d00df : MT := (yJ4_setLength_d00df, cJ4_setLength_d00df, 2, none, [])
set_option maxRecDepth 20000 in
theorem ce_J4_setLength_d00df : CE kJ4_setLength_d00df 1 := ⟨inTb (tb_2 (List.mem_of_getElem? (i := 49) rfl)) (by decide +kernel), inTb (tb_1 (List.mem_of_getElem? (i := 7) (by decide +kernel))) (by decide +kernel), ⟨by decide +kernel, by decide +kernel⟩, by decide +kernel, by decide +kernel⟩
theorem pl_J4_setLength_d00df : plainName kJ4_setLength_d00df.1.cls = true := by decide +kernel
abbrev kJ4_length_8abf5 : MT := (yJ4_length_8abf5, cJ4_length_8abf5, 1, (some .int), [])
set_option maxRecDepth 20000 in
theorem ce_J4_length_8abf5 : CE kJ4_length_8abf5 0 := ⟨inTb (tb_2 (List.mem_of_getElem? (i := 42) rfl)) (by decide +kernel), inTb (tb_1 (List.mem_of_getElem? (i := 7) (by decide +kernel))) (by decide +kernel), ⟨by decide +kernel, by decide +kernel⟩, by decide +kernel, by decide +kernel⟩
theorem pl_J4_length_8abf5 : plainName kJ4_length_8abf5.1.cls = true := by decide +kernel
abbrev kJ1_charAt_3b067 : MT := (yJ1_charAt_3b067, cJ1_charAt_3b067, 2, (some .char), [])
set_option maxRecDepth 20000 in
theorem ce_J1_charAt_3b067 : CE kJ1_charAt_3b067 2 := ⟨inTb (tb_5 (List.mem_of_getElem? (i := 60) rfl)) (by decide +kernel), inTb (tb_1 (List.mem_of_getElem? (i := 29) (by decide +kernel))) (by decide +kernel), ⟨by decide +kernel, by decide +kernel⟩, by decide +kernel, by decide +kernel⟩
theorem pl_J1_charAt_3b067 : plainName kJ1_charAt_3b067.1.cls = true := by decide +kernel
abbrev kJ1_canEncode_fc78d : MT := (yJ1_canEncode_fc78d, cJ1_canEncode_fc78d, 1, (some .boolean), [])
set_option maxRecDepth 20000 in
theorem ce_J1_canEncode_fc78d : CE kJ1_canEncode_fc78d 1 := ⟨inTb (tb_4 (List.mem_of_getElem? (i := 131) rfl)) (by decide +kernel), inTb (tb_1 (List.mem_of_getElem? (i := 29) (by decide +kernel))) (by decide +kernel), ⟨by decide +kernel, by decide +kernel⟩, by decide +kernel, by decide +kernel⟩
theorem pl_J1_canEncode_fc78d : plainName kJ1_canEncode_fc78d.1.cls = true := by decide +kernel
abbrev kJ1_newString_b4f7a : MT := (yJ1_newString_b4f7a, cJ1_newString_b4f7a, 3, (some (.object "java/lang/String")), [])
set_option maxRecDepth 20000 in
theorem ce_J1_newString_b4f7a : CE kJ1_newString_b4f7a 3 := ⟨inTb (tb_6 (List.mem_of_getElem? (i := 73) rfl)) (by decide +kernel), inTb (tb_1 (List.mem_of_getElem? (i := 29) (by decide +kernel))) (by decide +kernel), ⟨by decide +kernel, by decide +kernel⟩, by decide +kernel, by decide +kernel⟩
theorem pl_J1_newString_b4f7a : plainName kJ1_newString_b4f7a.1.cls = true := by decide +kernel
abbrev kJ1_fillNull_b72d1 : MT := (yJ1_fillNull_b72d1, cJ1_fillNull_b72d1, 3, none, [])
set_option maxRecDepth 20000 in
theorem ce_J1_fillNull_b72d1 : CE kJ1_fillNull_b72d1 3 := ⟨inTb (tb_3 (List.mem_of_getElem? (i := 109) rfl)) (by decide +kernel), inTb (tb_1 (List.mem_of_getElem? (i := 29) (by decide +kernel))) (by decide +kernel), ⟨by decide +kernel, by decide +kernel⟩, by decide +kernel, by decide +kernel⟩
theorem pl_J1_fillNull_b72d1 : plainName kJ1_fillNull_b72d1.1.cls = true := by decide +kernel
abbrev kJxa1e45_init_da8c8 : MT := (yJxa1e45_init_da8c8, cJxa1e45_init_da8c8, 1, none, [])
set_option maxRecDepth 20000 in
theorem ce_Jxa1e45_init_da8c8 : CE kJxa1e45_init_da8c8 0 := ⟨inTb (tb_1 (List.mem_of_getElem? (i := 66) rfl)) (by decide +kernel), inTb (tb_1 (List.mem_of_getElem? (i := 3) (by decide +kernel))) (by decide +kernel), ⟨by decide +kernel, by decide +kernel⟩, by decide +kernel, by decide +kernel⟩
theorem pl_Jxa1e45_init_da8c8 : plainName kJxa1e45_init_da8c8.1.cls = true := by decide +kernel
abbrev kJxc12de_init_da8c8 : MT := (yJxc12de_init_da8c8, cJxc12de_init_da8c8, 1, none, [])
set_option maxRecDepth 20000 in
theorem ce_Jxc12de_init_da8c8 : CE kJxc12de_init_da8c8 0 := ⟨inTb (tb_1 (List.mem_of_getElem? (i := 63) rfl)) (by decide +kernel), inTb (tb_1 (List.mem_of_getElem? (i := 4) (by decide +kernel))) (by decide +kernel), ⟨by decide +kernel, by decide +kernel⟩, by decide +kernel, by decide +kernel⟩
theorem pl_Jxc12de_init_da8c8 : plainName kJxc12de_init_da8c8.1.cls = true := by decide +kernel
abbrev kJx4a65c_init_da8c8 : MT := (yJx4a65c_init_da8c8, cJx4a65c_init_da8c8, 1, none, [])
set_option maxRecDepth 20000 in
theorem ce_Jx4a65c_init_da8c8 : CE kJx4a65c_init_da8c8 0 := ⟨inTb (tb_1 (List.mem_of_getElem? (i := 60) rfl)) (by decide +kernel), inTb (tb_1 (List.mem_of_getElem? (i := 5) (by decide +kernel))) (by decide +kernel), ⟨by decide +kernel, by decide +kernel⟩, by decide +kernel, by decide +kernel⟩
theorem pl_Jx4a65c_init_da8c8 : plainName kJx4a65c_init_da8c8.1.cls = true := by decide +kernel
abbrev kJx4a65c_grow_92f84 : MT := (yJx4a65c_grow_92f84, cJx4a65c_grow_92f84, 4, (some (.array (.object "java/lang/Object"))), [])
set_option maxRecDepth 20000 in
theorem ce_Jx4a65c_grow_92f84 : CE kJx4a65c_grow_92f84 1 := ⟨inTb (tb_3 (List.mem_of_getElem? (i := 223) rfl)) (by decide +kernel), inTb (tb_1 (List.mem_of_getElem? (i := 5) (by decide +kernel))) (by decide +kernel), ⟨by decide +kernel, by decide +kernel⟩, by decide +kernel, by decide +kernel⟩
theorem pl_Jx4a65c_grow_92f84 : plainName kJx4a65c_grow_92f84.1.cls = true := by decide +kernel
abbrev kJx4a65c_grow_d5877 : MT := (yJx4a65c_grow_d5877, cJx4a65c_grow_d5877, 1, (some (.array (.object "java/lang/Object"))), [])
set_option maxRecDepth 20000 in
theorem ce_Jx4a65c_grow_d5877 : CE kJx4a65c_grow_d5877 0 := ⟨inTb (tb_3 (List.mem_of_getElem? (i := 219) rfl)) (by decide +kernel), inTb (tb_1 (List.mem_of_getElem? (i := 5) (by decide +kernel))) (by decide +kernel), ⟨by decide +kernel, by decide +kernel⟩, by decide +kernel, by decide +kernel⟩
theorem pl_Jx4a65c_grow_d5877 : plainName kJx4a65c_grow_d5877.1.cls = true := by decide +kernel
abbrev kJx4a65c_size_8abf5 : MT := (yJx4a65c_size_8abf5, cJx4a65c_size_8abf5, 1, (some .int), [])
set_option maxRecDepth 20000 in
theorem ce_Jx4a65c_size_8abf5 : CE kJx4a65c_size_8abf5 0 := ⟨inTb (tb_3 (List.mem_of_getElem? (i := 165) rfl)) (by decide +kernel), inTb (tb_1 (List.mem_of_getElem? (i := 5) (by decide +kernel))) (by decide +kernel), ⟨by decide +kernel, by decide +kernel⟩, by decide +kernel, by decide +kernel⟩
theorem pl_Jx4a65c_size_8abf5 : plainName kJx4a65c_size_8abf5.1.cls = true := by decide +kernel
abbrev kJx4a65c_isEmpty_aae02 : MT := (yJx4a65c_isEmpty_aae02, cJx4a65c_isEmpty_aae02, 1, (some .boolean), [])
set_option maxRecDepth 20000 in
theorem ce_Jx4a65c_isEmpty_aae02 : CE kJx4a65c_isEmpty_aae02 0 := ⟨inTb (tb_5 (List.mem_of_getElem? (i := 7) rfl)) (by decide +kernel), inTb (tb_1 (List.mem_of_getElem? (i := 5) (by decide +kernel))) (by decide +kernel), ⟨by decide +kernel, by decide +kernel⟩, by decide +kernel, by decide +kernel⟩
theorem pl_Jx4a65c_isEmpty_aae02 : plainName kJx4a65c_isEmpty_aae02.1.cls = true := by decide +kernel
abbrev kJx4a65c_elementData_915e3 : MT := (yJx4a65c_elementData_915e3, cJx4a65c_elementData_915e3, 2, (some (.object "java/lang/Object")), [])
set_option maxRecDepth 20000 in
theorem ce_Jx4a65c_elementData_915e3 : CE kJx4a65c_elementData_915e3 1 := ⟨inTb (tb_3 (List.mem_of_getElem? (i := 206) rfl)) (by decide +kernel), inTb (tb_1 (List.mem_of_getElem? (i := 5) (by decide +kernel))) (by decide +kernel), ⟨by decide +kernel, by decide +kernel⟩, by decide +kernel, by decide +kernel⟩
theorem pl_Jx4a65c_elementData_915e3 : plainName kJx4a65c_elementData_915e3.1.cls = true := by decide +kernel
abbrev kJx4a65c_get_915e3 : MT := (yJx4a65c_get_915e3, cJx4a65c_get_915e3, 2, (some (.object "java/lang/Object")), [])
set_option maxRecDepth 20000 in
theorem ce_Jx4a65c_get_915e3 : CE kJx4a65c_get_915e3 1 := ⟨inTb (tb_3 (List.mem_of_getElem? (i := 196) rfl)) (by decide +kernel), inTb (tb_1 (List.mem_of_getElem? (i := 5) (by decide +kernel))) (by decide +kernel), ⟨by decide +kernel, by decide +kernel⟩, by decide +kernel, by decide +kernel⟩
theorem pl_Jx4a65c_get_915e3 : plainName kJx4a65c_get_915e3.1.cls = true := by decide +kernel
abbrev kJx4a65c_set_bcc79 : MT := (yJx4a65c_set_bcc79, cJx4a65c_set_bcc79, 4, (some (.object "java/lang/Object")), [])
set_option maxRecDepth 20000 in
theorem ce_Jx4a65c_set_bcc79 : CE kJx4a65c_set_bcc79 2 := ⟨inTb (tb_5 (List.mem_of_getElem? (i := 114) rfl)) (by decide +kernel), inTb (tb_1 (List.mem_of_getElem? (i := 5) (by decide +kernel))) (by decide +kernel), ⟨by decide +kernel, by decide +kernel⟩, by decide +kernel, by decide +kernel⟩
theorem pl_Jx4a65c_set_bcc79 : plainName kJx4a65c_set_bcc79.1.cls = true := by decide +kernel
abbrev kJx4a65c_add_72be8 : MT := (yJx4a65c_add_72be8, cJx4a65c_add_72be8, 4, none, [])
set_option maxRecDepth 20000 in
theorem ce_Jx4a65c_add_72be8 : CE kJx4a65c_add_72be8 3 := ⟨inTb (tb_3 (List.mem_of_getElem? (i := 215) rfl)) (by decide +kernel), inTb (tb_1 (List.mem_of_getElem? (i := 5) (by decide +kernel))) (by decide +kernel), ⟨by decide +kernel, by decide +kernel⟩, by decide +kernel, by decide +kernel⟩
theorem pl_Jx4a65c_add_72be8 : plainName kJx4a65c_add_72be8.1.cls = true := by decide +kernel
abbrev kJx4a65c_add_9ea2d : MT := (yJx4a65c_add_9ea2d, cJx4a65c_add_9ea2d, 2, (some .boolean), [])
set_option maxRecDepth 20000 in
theorem ce_Jx4a65c_add_9ea2d : CE kJx4a65c_add_9ea2d 1 := ⟨inTb (tb_3 (List.mem_of_getElem? (i := 211) rfl)) (by decide +kernel), inTb (tb_1 (List.mem_of_getElem? (i := 5) (by decide +kernel))) (by decide +kernel), ⟨by decide +kernel, by decide +kernel⟩, by decide +kernel, by decide +kernel⟩
theorem pl_Jx4a65c_add_9ea2d : plainName kJx4a65c_add_9ea2d.1.cls = true := by decide +kernel
abbrev kJx4a65c_add_7a177 : MT := (yJx4a65c_add_7a177, cJx4a65c_add_7a177, 5, none, [])
set_option maxRecDepth 20000 in
theorem ce_Jx4a65c_add_7a177 : CE kJx4a65c_add_7a177 2 := ⟨inTb (tb_7 (List.mem_of_getElem? (i := 102) rfl)) (by decide +kernel), inTb (tb_1 (List.mem_of_getElem? (i := 5) (by decide +kernel))) (by decide +kernel), ⟨by decide +kernel, by decide +kernel⟩, by decide +kernel, by decide +kernel⟩
theorem pl_Jx4a65c_add_7a177 : plainName kJx4a65c_add_7a177.1.cls = true := by decide +kernel
abbrev kJx4a65c_remove_915e3 : MT := (yJx4a65c_remove_915e3, cJx4a65c_remove_915e3, 4, (some (.object "java/lang/Object")), [])
set_option maxRecDepth 20000 in
theorem ce_Jx4a65c_remove_915e3 : CE kJx4a65c_remove_915e3 1 := ⟨inTb (tb_4 (List.mem_of_getElem? (i := 102) rfl)) (by decide +kernel), inTb (tb_1 (List.mem_of_getElem? (i := 5) (by decide +kernel))) (by decide +kernel), ⟨by decide +kernel, by decide +kernel⟩, by decide +kernel, by decide +kernel⟩
theorem pl_Jx4a65c_remove_915e3 : plainName kJx4a65c_remove_915e3.1.cls = true := by decide +kernel
abbrev kJx4a65c_fastRemove_b59b0 : MT := (yJx4a65c_fastRemove_b59b0, cJx4a65c_fastRemove_b59b0, 4, none, [])
set_option maxRecDepth 20000 in
theorem ce_Jx4a65c_fastRemove_b59b0 : CE kJx4a65c_fastRemove_b59b0 2 := ⟨inTb (tb_4 (List.mem_of_getElem? (i := 106) rfl)) (by decide +kernel), inTb (tb_1 (List.mem_of_getElem? (i := 5) (by decide +kernel))) (by decide +kernel), ⟨by decide +kernel, by decide +kernel⟩, by decide +kernel, by decide +kernel⟩
theorem pl_Jx4a65c_fastRemove_b59b0 : plainName kJx4a65c_fastRemove_b59b0.1.cls = true := by decide +kernel
abbrev kJx4a65c_clear_da8c8 : MT := (yJx4a65c_clear_da8c8, cJx4a65c_clear_da8c8, 4, none, [])
set_option maxRecDepth 20000 in
theorem ce_Jx4a65c_clear_da8c8 : CE kJx4a65c_clear_da8c8 0 := ⟨inTb (tb_6 (List.mem_of_getElem? (i := 194) rfl)) (by decide +kernel), inTb (tb_1 (List.mem_of_getElem? (i := 5) (by decide +kernel))) (by decide +kernel), ⟨by decide +kernel, by decide +kernel⟩, by decide +kernel, by decide +kernel⟩
theorem pl_Jx4a65c_clear_da8c8 : plainName kJx4a65c_clear_da8c8.1.cls = true := by decide +kernel
abbrev kJx4a65c_rangeCheckForAdd_d00df : MT := (yJx4a65c_rangeCheckForAdd_d00df, cJx4a65c_rangeCheckForAdd_d00df, 2, none, [])
set_option maxRecDepth 20000 in
theorem ce_Jx4a65c_rangeCheckForAdd_d00df : CE kJx4a65c_rangeCheckForAdd_d00df 1 := ⟨inTb (tb_7 (List.mem_of_getElem? (i := 106) rfl)) (by decide +kernel), inTb (tb_1 (List.mem_of_getElem? (i := 5) (by decide +kernel))) (by decide +kernel), ⟨by decide +kernel, by decide +kernel⟩, by decide +kernel, by decide +kernel⟩
theorem pl_Jx4a65c_rangeCheckForAdd_d00df : plainName kJx4a65c_rangeCheckForAdd_d00df.1.cls = true := by decide +kernel
abbrev kJ7_rangeCheck_23922 : MT := (yJ7_rangeCheck_23922, cJ7_rangeCheck_23922, 3, none, [])
set_option maxRecDepth 20000 in
theorem ce_J7_rangeCheck_23922 : CE kJ7_rangeCheck_23922 3 := ⟨inTb (tb_3 (List.mem_of_getElem? (i := 115) rfl)) (by decide +kernel), inTb (tb_1 (List.mem_of_getElem? (i := 24) (by decide +kernel))) (by decide +kernel), ⟨by decide +kernel, by decide +kernel⟩, by decide +kernel, by decide +kernel⟩
theorem pl_J7_rangeCheck_23922 : plainName kJ7_rangeCheck_23922.1.cls = true := by decide +kernel
abbrev kJ7_fill_eb02e : MT := (yJ7_fill_eb02e, cJ7_fill_eb02e, 5, none, [])
set_option maxRecDepth 20000 in
theorem ce_J7_fill_eb02e : CE kJ7_fill_eb02e 4 := ⟨inTb (tb_3 (List.mem_of_getElem? (i := 112) rfl)) (by decide +kernel), inTb (tb_1 (List.mem_of_getElem? (i := 24) (by decide +kernel))) (by decide +kernel), ⟨by decide +kernel, by decide +kernel⟩, by decide +kernel, by decide +kernel⟩
theorem pl_J7_fill_eb02e : plainName kJ7_fill_eb02e.1.cls = true := by decide +kernel
abbrev kJ7_copyOf_1904c : MT := (yJ7_copyOf_1904c, cJ7_copyOf_1904c, 2, (some (.array (.object "java/lang/Object"))), [])
set_option maxRecDepth 20000 in
theorem ce_J7_copyOf_1904c : CE kJ7_copyOf_1904c 2 := ⟨inTb (tb_3 (List.mem_of_getElem? (i := 227) rfl)) (by decide +kernel), inTb (tb_1 (List.mem_of_getElem? (i := 24) (by decide +kernel))) (by decide +kernel), ⟨by decide +kernel, by decide +kernel⟩, by decide +kernel, by decide +kernel⟩
theorem pl_J7_copyOf_1904c : plainName kJ7_copyOf_1904c.1.cls = true := by decide +kernel
abbrev kJ7_copyOf_6403c : MT := (yJ7_copyOf_6403c, cJ7_copyOf_6403c, 4, (some (.array (.object "java/lang/Object"))), [])
set_option maxRecDepth 20000 in
theorem ce_J7_copyOf_6403c : CE kJ7_copyOf_6403c 3 := ⟨inTb (tb_4 (List.mem_of_getElem? (i := 17) rfl)) (by decide +kernel), inTb (tb_1 (List.mem_of_getElem? (i := 24) (by decide +kernel))) (by decide +kernel), ⟨by decide +kernel, by decide +kernel⟩, by decide +kernel, by decide +kernel⟩
theorem pl_J7_copyOf_6403c : plainName kJ7_copyOf_6403c.1.cls = true := by decide +kernel
abbrev kJ7_copyOf_9075b : MT := (yJ7_copyOf_9075b, cJ7_copyOf_9075b, 3, (some (.array .byte)), [])
set_option maxRecDepth 20000 in
theorem ce_J7_copyOf_9075b : CE kJ7_copyOf_9075b 2 := ⟨inTb (tb_2 (List.mem_of_getElem? (i := 93) rfl)) (by decide +kernel), inTb (tb_1 (List.mem_of_getElem? (i := 24) (by decide +kernel))) (by decide +kernel), ⟨by decide +kernel, by decide +kernel⟩, by decide +kernel, by decide +kernel⟩
theorem pl_J7_copyOf_9075b : plainName kJ7_copyOf_9075b.1.cls = true := by decide +kernel
abbrev kJ7_checkLength_df160 : MT := (yJ7_checkLength_df160, cJ7_checkLength_df160, 2, none, [])
set_option maxRecDepth 20000 in
theorem ce_J7_checkLength_df160 : CE kJ7_checkLength_df160 2 := ⟨inTb (tb_2 (List.mem_of_getElem? (i := 234) rfl)) (by decide +kernel), inTb (tb_1 (List.mem_of_getElem? (i := 24) (by decide +kernel))) (by decide +kernel), ⟨by decide +kernel, by decide +kernel⟩, by decide +kernel, by decide +kernel⟩
theorem pl_J7_checkLength_df160 : plainName kJ7_checkLength_df160.1.cls = true := by decide +kernel
abbrev kJ7_copyOfRange_39247 : MT := (yJ7_copyOfRange_39247, cJ7_copyOfRange_39247, 3, (some (.array .byte)), [])
set_option maxRecDepth 20000 in
theorem ce_J7_copyOfRange_39247 : CE kJ7_copyOfRange_39247 3 := ⟨inTb (tb_2 (List.mem_of_getElem? (i := 228) rfl)) (by decide +kernel), inTb (tb_1 (List.mem_of_getElem? (i := 24) (by decide +kernel))) (by decide +kernel), ⟨by decide +kernel, by decide +kernel⟩, by decide +kernel, by decide +kernel⟩
theorem pl_J7_copyOfRange_39247 : plainName kJ7_copyOfRange_39247.1.cls = true := by decide +kernel
abbrev kJ7_copyOfRangeByte_39247 : MT := (yJ7_copyOfRangeByte_39247, cJ7_copyOfRangeByte_39247, 5, (some (.array .byte)), [])
set_option maxRecDepth 20000 in
theorem ce_J7_copyOfRangeByte_39247 : CE kJ7_copyOfRangeByte_39247 3 := ⟨inTb (tb_2 (List.mem_of_getElem? (i := 231) rfl)) (by decide +kernel), inTb (tb_1 (List.mem_of_getElem? (i := 24) (by decide +kernel))) (by decide +kernel), ⟨by decide +kernel, by decide +kernel⟩, by decide +kernel, by decide +kernel⟩
theorem pl_J7_copyOfRangeByte_39247 : plainName kJ7_copyOfRangeByte_39247.1.cls = true := by decide +kernel
abbrev kJ15_checkIndex_7cf53 : MT := (yJ15_checkIndex_7cf53, cJ15_checkIndex_7cf53, 2, (some .int), [])
set_option maxRecDepth 20000 in
theorem ce_J15_checkIndex_7cf53 : CE kJ15_checkIndex_7cf53 2 := ⟨inTb (tb_3 (List.mem_of_getElem? (i := 199) rfl)) (by decide +kernel), inTb (tb_1 (List.mem_of_getElem? (i := 19) (by decide +kernel))) (by decide +kernel), ⟨by decide +kernel, by decide +kernel⟩, by decide +kernel, by decide +kernel⟩
theorem pl_J15_checkIndex_7cf53 : plainName kJ15_checkIndex_7cf53.1.cls = true := by decide +kernel
abbrev kJ8_newLength_cabcc : MT := (yJ8_newLength_cabcc, cJ8_newLength_cabcc, 4, (some .int), [])
set_option maxRecDepth 20000 in
theorem ce_J8_newLength_cabcc : CE kJ8_newLength_cabcc 3 := ⟨inTb (tb_2 (List.mem_of_getElem? (i := 82) rfl)) (by decide +kernel), inTb (tb_1 (List.mem_of_getElem? (i := 22) (by decide +kernel))) (by decide +kernel), ⟨by decide +kernel, by decide +kernel⟩, by decide +kernel, by decide +kernel⟩
theorem pl_J8_newLength_cabcc : plainName kJ8_newLength_cabcc.1.cls = true := by decide +kernel
abbrev kJ3_checkIndex_8e157 : MT := (yJ3_checkIndex_8e157, cJ3_checkIndex_8e157, 3, (some .int), [])
set_option maxRecDepth 20000 in
theorem ce_J3_checkIndex_8e157 : CE kJ3_checkIndex_8e157 3 := ⟨inTb (tb_3 (List.mem_of_getElem? (i := 202) rfl)) (by decide +kernel), inTb (tb_1 (List.mem_of_getElem? (i := 20) (by decide +kernel))) (by decide +kernel), ⟨by decide +kernel, by decide +kernel⟩, by decide +kernel, by decide +kernel⟩
theorem pl_J3_checkIndex_8e157 : plainName kJ3_checkIndex_8e157.1.cls = true := by decide +kernel
abbrev kL_at : MT := (yL_at, cL_at, 2, (some .int), [])
set_option maxRecDepth 20000 in
theorem ce_L_at : CE kL_at 2 := ⟨inTb (tb_3 (List.mem_of_getElem? (i := 176) rfl)) (by decide +kernel), inTb (tb_1 (List.mem_of_getElem? (i := 0) (by decide +kernel))) (by decide +kernel), ⟨by decide +kernel, by decide +kernel⟩, by decide +kernel, by decide +kernel⟩
theorem pl_L_at : plainName kL_at.1.cls = true := by decide +kernel
abbrev kL_some : MT := (yL_some, cL_some, 3, (some .int), [])
set_option maxRecDepth 20000 in
theorem ce_L_some : CE kL_some 2 := ⟨inTb (tb_7 (List.mem_of_getElem? (i := 4) rfl)) (by decide +kernel), inTb (tb_1 (List.mem_of_getElem? (i := 0) (by decide +kernel))) (by decide +kernel), ⟨by decide +kernel, by decide +kernel⟩, by decide +kernel, by decide +kernel⟩
theorem pl_L_some : plainName kL_some.1.cls = true := by decide +kernel
abbrev kL_addButton : MT := (yL_addButton, cL_addButton, 2, (some .int), [(0, 4, 5, 13)])
set_option maxRecDepth 20000 in
theorem ce_L_addButton : CE kL_addButton 1 := ⟨inTb (tb_3 (List.mem_of_getElem? (i := 179) rfl)) (by decide +kernel), inTb (tb_1 (List.mem_of_getElem? (i := 0) (by decide +kernel))) (by decide +kernel), ⟨by decide +kernel, by decide +kernel⟩, by decide +kernel, by decide +kernel⟩
theorem pl_L_addButton : plainName kL_addButton.1.cls = true := by decide +kernel
abbrev kL_setBond : MT := (yL_setBond, cL_setBond, 5, (some .int), [(0, 7, 8, 19), (0, 7, 14, 21)])
set_option maxRecDepth 20000 in
theorem ce_L_setBond : CE kL_setBond 4 := ⟨inTb (tb_7 (List.mem_of_getElem? (i := 7) rfl)) (by decide +kernel), inTb (tb_1 (List.mem_of_getElem? (i := 0) (by decide +kernel))) (by decide +kernel), ⟨by decide +kernel, by decide +kernel⟩, by decide +kernel, by decide +kernel⟩
theorem pl_L_setBond : plainName kL_setBond.1.cls = true := by decide +kernel
abbrev kL_cutBond : MT := (yL_cutBond, cL_cutBond, 4, (some .int), [(0, 6, 7, 19), (0, 6, 12, 27)])
set_option maxRecDepth 20000 in
theorem ce_L_cutBond : CE kL_cutBond 3 := ⟨inTb (tb_8 (List.mem_of_getElem? (i := 22) rfl)) (by decide +kernel), inTb (tb_1 (List.mem_of_getElem? (i := 0) (by decide +kernel))) (by decide +kernel), ⟨by decide +kernel, by decide +kernel⟩, by decide +kernel, by decide +kernel⟩
theorem pl_L_cutBond : plainName kL_cutBond.1.cls = true := by decide +kernel
abbrev kL_typeLetter : MT := (yL_typeLetter, cL_typeLetter, 3, (some .int), [(0, 5, 6, 21), (0, 5, 11, 13)])
set_option maxRecDepth 20000 in
theorem ce_L_typeLetter : CE kL_typeLetter 2 := ⟨inTb (tb_4 (List.mem_of_getElem? (i := 111) rfl)) (by decide +kernel), inTb (tb_1 (List.mem_of_getElem? (i := 0) (by decide +kernel))) (by decide +kernel), ⟨by decide +kernel, by decide +kernel⟩, by decide +kernel, by decide +kernel⟩
theorem pl_L_typeLetter : plainName kL_typeLetter.1.cls = true := by decide +kernel
abbrev kL_addPrecedent : MT := (yL_addPrecedent, cL_addPrecedent, 3, (some .int), [(0, 5, 6, 21), (0, 5, 11, 13), (0, 5, 16, 37)])
set_option maxRecDepth 20000 in
theorem ce_L_addPrecedent : CE kL_addPrecedent 2 := ⟨inTb (tb_6 (List.mem_of_getElem? (i := 233) rfl)) (by decide +kernel), inTb (tb_1 (List.mem_of_getElem? (i := 0) (by decide +kernel))) (by decide +kernel), ⟨by decide +kernel, by decide +kernel⟩, by decide +kernel, by decide +kernel⟩
theorem pl_L_addPrecedent : plainName kL_addPrecedent.1.cls = true := by decide +kernel
abbrev kL_fileCase : MT := (yL_fileCase, cL_fileCase, 7, (some .int), [(0, 11, 12, 19), (0, 11, 18, 21), (0, 11, 24, 13), (0, 11, 30, 37)])
set_option maxRecDepth 20000 in
theorem ce_L_fileCase : CE kL_fileCase 6 := ⟨inTb (tb_6 (List.mem_of_getElem? (i := 222) rfl)) (by decide +kernel), inTb (tb_1 (List.mem_of_getElem? (i := 0) (by decide +kernel))) (by decide +kernel), ⟨by decide +kernel, by decide +kernel⟩, by decide +kernel, by decide +kernel⟩
theorem pl_L_fileCase : plainName kL_fileCase.1.cls = true := by decide +kernel
abbrev kL_hear : MT := (yL_hear, cL_hear, 3, (some .int), [(0, 5, 6, 27), (0, 5, 11, 13), (0, 5, 16, 37)])
set_option maxRecDepth 20000 in
theorem ce_L_hear : CE kL_hear 2 := ⟨inTb (tb_4 (List.mem_of_getElem? (i := 144) rfl)) (by decide +kernel), inTb (tb_1 (List.mem_of_getElem? (i := 0) (by decide +kernel))) (by decide +kernel), ⟨by decide +kernel, by decide +kernel⟩, by decide +kernel, by decide +kernel⟩
theorem pl_L_hear : plainName kL_hear.1.cls = true := by decide +kernel
abbrev kL_appeal : MT := (yL_appeal, cL_appeal, 3, (some .int), [(0, 5, 6, 27), (0, 5, 11, 13), (0, 5, 16, 37)])
set_option maxRecDepth 20000 in
theorem ce_L_appeal : CE kL_appeal 2 := ⟨inTb (tb_5 (List.mem_of_getElem? (i := 132) rfl)) (by decide +kernel), inTb (tb_1 (List.mem_of_getElem? (i := 0) (by decide +kernel))) (by decide +kernel), ⟨by decide +kernel, by decide +kernel⟩, by decide +kernel, by decide +kernel⟩
theorem pl_L_appeal : plainName kL_appeal.1.cls = true := by decide +kernel
abbrev kL_withdraw : MT := (yL_withdraw, cL_withdraw, 3, (some .int), [(0, 5, 6, 27), (0, 5, 11, 13)])
set_option maxRecDepth 20000 in
theorem ce_L_withdraw : CE kL_withdraw 2 := ⟨inTb (tb_5 (List.mem_of_getElem? (i := 143) rfl)) (by decide +kernel), inTb (tb_1 (List.mem_of_getElem? (i := 0) (by decide +kernel))) (by decide +kernel), ⟨by decide +kernel, by decide +kernel⟩, by decide +kernel, by decide +kernel⟩
theorem pl_L_withdraw : plainName kL_withdraw.1.cls = true := by decide +kernel
abbrev kL_close : MT := (yL_close, cL_close, 3, (some .int), [(0, 5, 6, 27), (0, 5, 11, 13)])
set_option maxRecDepth 20000 in
theorem ce_L_close : CE kL_close 2 := ⟨inTb (tb_8 (List.mem_of_getElem? (i := 30) rfl)) (by decide +kernel), inTb (tb_1 (List.mem_of_getElem? (i := 0) (by decide +kernel))) (by decide +kernel), ⟨by decide +kernel, by decide +kernel⟩, by decide +kernel, by decide +kernel⟩
theorem pl_L_close : plainName kL_close.1.cls = true := by decide +kernel
abbrev kL_give : MT := (yL_give, cL_give, 5, (some .int), [(0, 7, 8, 19), (0, 7, 14, 21), (0, 7, 20, 13)])
set_option maxRecDepth 20000 in
theorem ce_L_give : CE kL_give 4 := ⟨inTb (tb_8 (List.mem_of_getElem? (i := 38) rfl)) (by decide +kernel), inTb (tb_1 (List.mem_of_getElem? (i := 0) (by decide +kernel))) (by decide +kernel), ⟨by decide +kernel, by decide +kernel⟩, by decide +kernel, by decide +kernel⟩
theorem pl_L_give : plainName kL_give.1.cls = true := by decide +kernel
abbrev kL_passDays : MT := (yL_passDays, cL_passDays, 3, (some .int), [(0, 5, 6, 21)])
set_option maxRecDepth 20000 in
theorem ce_L_passDays : CE kL_passDays 2 := ⟨inTb (tb_5 (List.mem_of_getElem? (i := 155) rfl)) (by decide +kernel), inTb (tb_1 (List.mem_of_getElem? (i := 0) (by decide +kernel))) (by decide +kernel), ⟨by decide +kernel, by decide +kernel⟩, by decide +kernel, by decide +kernel⟩
theorem pl_L_passDays : plainName kL_passDays.1.cls = true := by decide +kernel
abbrev kL_tension : MT := (yL_tension, cL_tension, 4, (some .int), [(0, 6, 7, 19), (0, 6, 12, 27)])
set_option maxRecDepth 20000 in
theorem ce_L_tension : CE kL_tension 3 := ⟨inTb (tb_8 (List.mem_of_getElem? (i := 116) rfl)) (by decide +kernel), inTb (tb_1 (List.mem_of_getElem? (i := 0) (by decide +kernel))) (by decide +kernel), ⟨by decide +kernel, by decide +kernel⟩, by decide +kernel, by decide +kernel⟩
theorem pl_L_tension : plainName kL_tension.1.cls = true := by decide +kernel
abbrev kL_strain : MT := (yL_strain, cL_strain, 4, (some .int), [(0, 6, 7, 19), (0, 6, 12, 21)])
set_option maxRecDepth 20000 in
theorem ce_L_strain : CE kL_strain 3 := ⟨inTb (tb_8 (List.mem_of_getElem? (i := 124) rfl)) (by decide +kernel), inTb (tb_1 (List.mem_of_getElem? (i := 0) (by decide +kernel))) (by decide +kernel), ⟨by decide +kernel, by decide +kernel⟩, by decide +kernel, by decide +kernel⟩
theorem pl_L_strain : plainName kL_strain.1.cls = true := by decide +kernel
abbrev kL_strainByTable : MT := (yL_strainByTable, cL_strainByTable, 4, (some .int), [(0, 6, 7, 19), (0, 6, 12, 21)])
set_option maxRecDepth 20000 in
theorem ce_L_strainByTable : CE kL_strainByTable 3 := ⟨inTb (tb_8 (List.mem_of_getElem? (i := 137) rfl)) (by decide +kernel), inTb (tb_1 (List.mem_of_getElem? (i := 0) (by decide +kernel))) (by decide +kernel), ⟨by decide +kernel, by decide +kernel⟩, by decide +kernel, by decide +kernel⟩
theorem pl_L_strainByTable : plainName kL_strainByTable.1.cls = true := by decide +kernel
abbrev kL_caseAt : MT := (yL_caseAt, cL_caseAt, 3, (some .int), [(0, 5, 6, 19)])
set_option maxRecDepth 20000 in
theorem ce_L_caseAt : CE kL_caseAt 2 := ⟨inTb (tb_7 (List.mem_of_getElem? (i := 219) rfl)) (by decide +kernel), inTb (tb_1 (List.mem_of_getElem? (i := 0) (by decide +kernel))) (by decide +kernel), ⟨by decide +kernel, by decide +kernel⟩, by decide +kernel, by decide +kernel⟩
theorem pl_L_caseAt : plainName kL_caseAt.1.cls = true := by decide +kernel
abbrev kL_plaintiff : MT := (yL_plaintiff, cL_plaintiff, 3, (some .int), [(0, 5, 6, 27)])
set_option maxRecDepth 20000 in
theorem ce_L_plaintiff : CE kL_plaintiff 2 := ⟨inTb (tb_8 (List.mem_of_getElem? (i := 154) rfl)) (by decide +kernel), inTb (tb_1 (List.mem_of_getElem? (i := 0) (by decide +kernel))) (by decide +kernel), ⟨by decide +kernel, by decide +kernel⟩, by decide +kernel, by decide +kernel⟩
theorem pl_L_plaintiff : plainName kL_plaintiff.1.cls = true := by decide +kernel
abbrev kL_defendant : MT := (yL_defendant, cL_defendant, 3, (some .int), [(0, 5, 6, 27)])
set_option maxRecDepth 20000 in
theorem ce_L_defendant : CE kL_defendant 2 := ⟨inTb (tb_8 (List.mem_of_getElem? (i := 161) rfl)) (by decide +kernel), inTb (tb_1 (List.mem_of_getElem? (i := 0) (by decide +kernel))) (by decide +kernel), ⟨by decide +kernel, by decide +kernel⟩, by decide +kernel, by decide +kernel⟩
theorem pl_L_defendant : plainName kL_defendant.1.cls = true := by decide +kernel
abbrev kL_claim : MT := (yL_claim, cL_claim, 3, (some .int), [(0, 5, 6, 27)])
set_option maxRecDepth 20000 in
theorem ce_L_claim : CE kL_claim 2 := ⟨inTb (tb_5 (List.mem_of_getElem? (i := 169) rfl)) (by decide +kernel), inTb (tb_1 (List.mem_of_getElem? (i := 0) (by decide +kernel))) (by decide +kernel), ⟨by decide +kernel, by decide +kernel⟩, by decide +kernel, by decide +kernel⟩
theorem pl_L_claim : plainName kL_claim.1.cls = true := by decide +kernel
abbrev kL_duration : MT := (yL_duration, cL_duration, 3, (some .int), [(0, 5, 6, 27)])
set_option maxRecDepth 20000 in
theorem ce_L_duration : CE kL_duration 2 := ⟨inTb (tb_8 (List.mem_of_getElem? (i := 102) rfl)) (by decide +kernel), inTb (tb_1 (List.mem_of_getElem? (i := 0) (by decide +kernel))) (by decide +kernel), ⟨by decide +kernel, by decide +kernel⟩, by decide +kernel, by decide +kernel⟩
theorem pl_L_duration : plainName kL_duration.1.cls = true := by decide +kernel
abbrev kL_deadline : MT := (yL_deadline, cL_deadline, 3, (some .int), [(0, 5, 6, 27)])

set_option maxRecDepth 20000 in
theorem ce_L_deadline : CE kL_deadline 2 := ⟨inTb (tb_8 (List.mem_of_getElem? (i := 109) rfl)) (by decide +kernel), inTb (tb_1 (List.mem_of_getElem? (i := 0) (by decide +kernel))) (by decide +kernel), ⟨by decide +kernel, by decide +kernel⟩, by decide +kernel, by decide +kernel⟩
theorem pl_L_deadline : plainName kL_deadline.1.cls = true := by decide +kernel
abbrev kL_state : MT := (yL_state, cL_state, 3, (some .int), [(0, 5, 6, 27)])
set_option maxRecDepth 20000 in
theorem ce_L_state : CE kL_state 2 := ⟨inTb (tb_5 (List.mem_of_getElem? (i := 184) rfl)) (by decide +kernel), inTb (tb_1 (List.mem_of_getElem? (i := 0) (by decide +kernel))) (by decide +kernel), ⟨by decide +kernel, by decide +kernel⟩, by decide +kernel, by decide +kernel⟩
theorem pl_L_state : plainName kL_state.1.cls = true := by decide +kernel
abbrev kL_matterLength : MT := (yL_matterLength, cL_matterLength, 3, (some .int), [(0, 5, 6, 27)])
set_option maxRecDepth 20000 in
theorem ce_L_matterLength : CE kL_matterLength 2 := ⟨inTb (tb_8 (List.mem_of_getElem? (i := 73) rfl)) (by decide +kernel), inTb (tb_1 (List.mem_of_getElem? (i := 0) (by decide +kernel))) (by decide +kernel), ⟨by decide +kernel, by decide +kernel⟩, by decide +kernel, by decide +kernel⟩
theorem pl_L_matterLength : plainName kL_matterLength.1.cls = true := by decide +kernel
abbrev kL_matterLetter : MT := (yL_matterLetter, cL_matterLetter, 4, (some .int), [(0, 6, 7, 27), (0, 6, 12, 19)])
set_option maxRecDepth 20000 in
theorem ce_L_matterLetter : CE kL_matterLetter 3 := ⟨inTb (tb_8 (List.mem_of_getElem? (i := 64) rfl)) (by decide +kernel), inTb (tb_1 (List.mem_of_getElem? (i := 0) (by decide +kernel))) (by decide +kernel), ⟨by decide +kernel, by decide +kernel⟩, by decide +kernel, by decide +kernel⟩
theorem pl_L_matterLetter : plainName kL_matterLetter.1.cls = true := by decide +kernel
abbrev kL_percentage : MT := (yL_percentage, cL_percentage, 3, (some .int), [(0, 5, 6, 27), (0, 5, 11, 13)])
set_option maxRecDepth 20000 in
theorem ce_L_percentage : CE kL_percentage 2 := ⟨inTb (tb_5 (List.mem_of_getElem? (i := 191) rfl)) (by decide +kernel), inTb (tb_1 (List.mem_of_getElem? (i := 0) (by decide +kernel))) (by decide +kernel), ⟨by decide +kernel, by decide +kernel⟩, by decide +kernel, by decide +kernel⟩
theorem pl_L_percentage : plainName kL_percentage.1.cls = true := by decide +kernel
abbrev kL_award : MT := (yL_award, cL_award, 3, (some .int), [(0, 5, 6, 27), (0, 5, 11, 13)])
set_option maxRecDepth 20000 in
theorem ce_L_award : CE kL_award 2 := ⟨inTb (tb_8 (List.mem_of_getElem? (i := 57) rfl)) (by decide +kernel), inTb (tb_1 (List.mem_of_getElem? (i := 0) (by decide +kernel))) (by decide +kernel), ⟨by decide +kernel, by decide +kernel⟩, by decide +kernel, by decide +kernel⟩
theorem pl_L_award : plainName kL_award.1.cls = true := by decide +kernel
abbrev kL_cost : MT := (yL_cost, cL_cost, 3, (some .int), [(0, 5, 6, 27), (0, 5, 11, 13)])
set_option maxRecDepth 20000 in
theorem ce_L_cost : CE kL_cost 2 := ⟨inTb (tb_5 (List.mem_of_getElem? (i := 203) rfl)) (by decide +kernel), inTb (tb_1 (List.mem_of_getElem? (i := 0) (by decide +kernel))) (by decide +kernel), ⟨by decide +kernel, by decide +kernel⟩, by decide +kernel, by decide +kernel⟩
theorem pl_L_cost : plainName kL_cost.1.cls = true := by decide +kernel
abbrev kL_nearest : MT := (yL_nearest, cL_nearest, 3, (some .int), [(0, 5, 6, 27), (0, 5, 11, 37)])
set_option maxRecDepth 20000 in
theorem ce_L_nearest : CE kL_nearest 2 := ⟨inTb (tb_8 (List.mem_of_getElem? (i := 10) rfl)) (by decide +kernel), inTb (tb_1 (List.mem_of_getElem? (i := 0) (by decide +kernel))) (by decide +kernel), ⟨by decide +kernel, by decide +kernel⟩, by decide +kernel, by decide +kernel⟩
theorem pl_L_nearest : plainName kL_nearest.1.cls = true := by decide +kernel
abbrev kL_percent : MT := (yL_percent, cL_percent, 3, (some .int), [(0, 5, 6, 19)])
set_option maxRecDepth 20000 in
theorem ce_L_percent : CE kL_percent 2 := ⟨inTb (tb_7 (List.mem_of_getElem? (i := 206) rfl)) (by decide +kernel), inTb (tb_1 (List.mem_of_getElem? (i := 0) (by decide +kernel))) (by decide +kernel), ⟨by decide +kernel, by decide +kernel⟩, by decide +kernel, by decide +kernel⟩
theorem pl_L_percent : plainName kL_percent.1.cls = true := by decide +kernel
abbrev kL_distance : MT := (yL_distance, cL_distance, 4, (some .int), [(0, 6, 7, 27), (0, 6, 12, 19)])
set_option maxRecDepth 20000 in
theorem ce_L_distance : CE kL_distance 3 := ⟨inTb (tb_8 (List.mem_of_getElem? (i := 80) rfl)) (by decide +kernel), inTb (tb_1 (List.mem_of_getElem? (i := 0) (by decide +kernel))) (by decide +kernel), ⟨by decide +kernel, by decide +kernel⟩, by decide +kernel, by decide +kernel⟩
theorem pl_L_distance : plainName kL_distance.1.cls = true := by decide +kernel
abbrev kL_byEnds : MT := (yL_byEnds, cL_byEnds, 4, (some .int), [(0, 6, 7, 27), (0, 6, 12, 19)])
set_option maxRecDepth 20000 in
theorem ce_L_byEnds : CE kL_byEnds 3 := ⟨inTb (tb_8 (List.mem_of_getElem? (i := 88) rfl)) (by decide +kernel), inTb (tb_1 (List.mem_of_getElem? (i := 0) (by decide +kernel))) (by decide +kernel), ⟨by decide +kernel, by decide +kernel⟩, by decide +kernel, by decide +kernel⟩
theorem pl_L_byEnds : plainName kL_byEnds.1.cls = true := by decide +kernel
abbrev kL_byClaim : MT := (yL_byClaim, cL_byClaim, 3, (some .int), [(0, 5, 6, 27)])
set_option maxRecDepth 20000 in
theorem ce_L_byClaim : CE kL_byClaim 2 := ⟨inTb (tb_7 (List.mem_of_getElem? (i := 235) rfl)) (by decide +kernel), inTb (tb_1 (List.mem_of_getElem? (i := 0) (by decide +kernel))) (by decide +kernel), ⟨by decide +kernel, by decide +kernel⟩, by decide +kernel, by decide +kernel⟩
theorem pl_L_byClaim : plainName kL_byClaim.1.cls = true := by decide +kernel
abbrev kL_byBalance : MT := (yL_byBalance, cL_byBalance, 3, (some .int), [(0, 5, 6, 27)])
set_option maxRecDepth 20000 in
theorem ce_L_byBalance : CE kL_byBalance 2 := ⟨inTb (tb_7 (List.mem_of_getElem? (i := 184) rfl)) (by decide +kernel), inTb (tb_1 (List.mem_of_getElem? (i := 0) (by decide +kernel))) (by decide +kernel), ⟨by decide +kernel, by decide +kernel⟩, by decide +kernel, by decide +kernel⟩
theorem pl_L_byBalance : plainName kL_byBalance.1.cls = true := by decide +kernel
abbrev kL_meanClaim : MT := (yL_meanClaim, cL_meanClaim, 2, (some .double), [(0, 4, 5, 130)])
set_option maxRecDepth 20000 in
theorem ce_L_meanClaim : CE kL_meanClaim 1 := ⟨inTb (tb_7 (List.mem_of_getElem? (i := 28) rfl)) (by decide +kernel), inTb (tb_1 (List.mem_of_getElem? (i := 0) (by decide +kernel))) (by decide +kernel), ⟨by decide +kernel, by decide +kernel⟩, by decide +kernel, by decide +kernel⟩
theorem pl_L_meanClaim : plainName kL_meanClaim.1.cls = true := by decide +kernel
abbrev kL_ruledShare : MT := (yL_ruledShare, cL_ruledShare, 2, (some .float), [(0, 4, 5, 130)])
set_option maxRecDepth 20000 in
theorem ce_L_ruledShare : CE kL_ruledShare 1 := ⟨inTb (tb_7 (List.mem_of_getElem? (i := 63) rfl)) (by decide +kernel), inTb (tb_1 (List.mem_of_getElem? (i := 0) (by decide +kernel))) (by decide +kernel), ⟨by decide +kernel, by decide +kernel⟩, by decide +kernel, by decide +kernel⟩
theorem pl_L_ruledShare : plainName kL_ruledShare.1.cls = true := by decide +kernel
abbrev kL_renderCase : MT := (yL_renderCase, cL_renderCase, 3, (some .int), [(0, 5, 6, 27)])
set_option maxRecDepth 20000 in
theorem ce_L_renderCase : CE kL_renderCase 2 := ⟨inTb (tb_7 (List.mem_of_getElem? (i := 227) rfl)) (by decide +kernel), inTb (tb_1 (List.mem_of_getElem? (i := 0) (by decide +kernel))) (by decide +kernel), ⟨by decide +kernel, by decide +kernel⟩, by decide +kernel, by decide +kernel⟩
theorem pl_L_renderCase : plainName kL_renderCase.1.cls = true := by decide +kernel
abbrev kL_renderBonds : MT := (yL_renderBonds, cL_renderBonds, 3, (some .int), [(0, 5, 6, 19)])
set_option maxRecDepth 20000 in
theorem ce_L_renderBonds : CE kL_renderBonds 2 := ⟨inTb (tb_7 (List.mem_of_getElem? (i := 157) rfl)) (by decide +kernel), inTb (tb_1 (List.mem_of_getElem? (i := 0) (by decide +kernel))) (by decide +kernel), ⟨by decide +kernel, by decide +kernel⟩, by decide +kernel, by decide +kernel⟩
theorem pl_L_renderBonds : plainName kL_renderBonds.1.cls = true := by decide +kernel
abbrev kL_outputAt : MT := (yL_outputAt, cL_outputAt, 3, (some .int), [(0, 5, 6, 19)])
set_option maxRecDepth 20000 in
theorem ce_L_outputAt : CE kL_outputAt 2 := ⟨inTb (tb_7 (List.mem_of_getElem? (i := 166) rfl)) (by decide +kernel), inTb (tb_1 (List.mem_of_getElem? (i := 0) (by decide +kernel))) (by decide +kernel), ⟨by decide +kernel, by decide +kernel⟩, by decide +kernel, by decide +kernel⟩
theorem pl_L_outputAt : plainName kL_outputAt.1.cls = true := by decide +kernel
abbrev kL_type : MT := (yL_type, cL_type, 3, (some .int), [(0, 5, 6, 21), (0, 5, 11, 13)])
set_option maxRecDepth 20000 in
theorem ce_L_type : CE kL_type 2 := ⟨inTb (tb_5 (List.mem_of_getElem? (i := 210) rfl)) (by decide +kernel), inTb (tb_1 (List.mem_of_getElem? (i := 0) (by decide +kernel))) (by decide +kernel), ⟨by decide +kernel, by decide +kernel⟩, by decide +kernel, by decide +kernel⟩
theorem pl_L_type : plainName kL_type.1.cls = true := by decide +kernel
abbrev kL_run : MT := (yL_run, cL_run, 2, (some .int), [(0, 4, 5, 21), (0, 4, 10, 13)])
set_option maxRecDepth 20000 in
theorem ce_L_run : CE kL_run 1 := ⟨inTb (tb_5 (List.mem_of_getElem? (i := 219) rfl)) (by decide +kernel), inTb (tb_1 (List.mem_of_getElem? (i := 0) (by decide +kernel))) (by decide +kernel), ⟨by decide +kernel, by decide +kernel⟩, by decide +kernel, by decide +kernel⟩
theorem pl_L_run : plainName kL_run.1.cls = true := by decide +kernel
abbrev kL_errorPosition : MT := (yL_errorPosition, cL_errorPosition, 2, (some .int), [(0, 4, 5, 27)])
set_option maxRecDepth 20000 in
theorem ce_L_errorPosition : CE kL_errorPosition 1 := ⟨inTb (tb_6 (List.mem_of_getElem? (i := 168) rfl)) (by decide +kernel), inTb (tb_1 (List.mem_of_getElem? (i := 0) (by decide +kernel))) (by decide +kernel), ⟨by decide +kernel, by decide +kernel⟩, by decide +kernel, by decide +kernel⟩
theorem pl_L_errorPosition : plainName kL_errorPosition.1.cls = true := by decide +kernel
abbrev kL_failedCommand : MT := (yL_failedCommand, cL_failedCommand, 2, (some .int), [(0, 4, 5, 27)])
set_option maxRecDepth 20000 in
theorem ce_L_failedCommand : CE kL_failedCommand 1 := ⟨inTb (tb_8 (List.mem_of_getElem? (i := 170) rfl)) (by decide +kernel), inTb (tb_1 (List.mem_of_getElem? (i := 0) (by decide +kernel))) (by decide +kernel), ⟨by decide +kernel, by decide +kernel⟩, by decide +kernel, by decide +kernel⟩
theorem pl_L_failedCommand : plainName kL_failedCommand.1.cls = true := by decide +kernel
abbrev kL_undo : MT := (yL_undo, cL_undo, 2, (some .int), [(0, 4, 5, 13)])
set_option maxRecDepth 20000 in
theorem ce_L_undo : CE kL_undo 1 := ⟨inTb (tb_6 (List.mem_of_getElem? (i := 176) rfl)) (by decide +kernel), inTb (tb_1 (List.mem_of_getElem? (i := 0) (by decide +kernel))) (by decide +kernel), ⟨by decide +kernel, by decide +kernel⟩, by decide +kernel, by decide +kernel⟩
theorem pl_L_undo : plainName kL_undo.1.cls = true := by decide +kernel
abbrev kL_restore : MT := (yL_restore, cL_restore, 2, (some .int), [(0, 4, 5, 13)])
set_option maxRecDepth 20000 in
theorem ce_L_restore : CE kL_restore 1 := ⟨inTb (tb_6 (List.mem_of_getElem? (i := 185) rfl)) (by decide +kernel), inTb (tb_1 (List.mem_of_getElem? (i := 0) (by decide +kernel))) (by decide +kernel), ⟨by decide +kernel, by decide +kernel⟩, by decide +kernel, by decide +kernel⟩
theorem pl_L_restore : plainName kL_restore.1.cls = true := by decide +kernel
abbrev kL_balance : MT := (yL_balance, cL_balance, 3, (some .int), [(0, 5, 6, 19)])
set_option maxRecDepth 20000 in
theorem ce_L_balance : CE kL_balance 2 := ⟨inTb (tb_6 (List.mem_of_getElem? (i := 197) rfl)) (by decide +kernel), inTb (tb_1 (List.mem_of_getElem? (i := 0) (by decide +kernel))) (by decide +kernel), ⟨by decide +kernel, by decide +kernel⟩, by decide +kernel, by decide +kernel⟩
theorem pl_L_balance : plainName kL_balance.1.cls = true := by decide +kernel
abbrev kL_types : MT := (yL_types, cL_types, 3, (some .boolean), [])
set_option maxRecDepth 20000 in
theorem ce_L_types : CE kL_types 2 := ⟨inTb (tb_6 (List.mem_of_getElem? (i := 217) rfl)) (by decide +kernel), inTb (tb_1 (List.mem_of_getElem? (i := 0) (by decide +kernel))) (by decide +kernel), ⟨by decide +kernel, by decide +kernel⟩, by decide +kernel, by decide +kernel⟩
theorem pl_L_types : plainName kL_types.1.cls = true := by decide +kernel
abbrev kL_files : MT := (yL_files, cL_files, 7, (some .int), [])
set_option maxRecDepth 20000 in
theorem ce_L_files : CE kL_files 7 := ⟨inTb (tb_6 (List.mem_of_getElem? (i := 214) rfl)) (by decide +kernel), inTb (tb_1 (List.mem_of_getElem? (i := 0) (by decide +kernel))) (by decide +kernel), ⟨by decide +kernel, by decide +kernel⟩, by decide +kernel, by decide +kernel⟩
theorem pl_L_files : plainName kL_files.1.cls = true := by decide +kernel
abbrev kL_rules : MT := (yL_rules, cL_rules, 3, (some .int), [])
set_option maxRecDepth 20000 in
theorem ce_L_rules : CE kL_rules 3 := ⟨inTb (tb_6 (List.mem_of_getElem? (i := 230) rfl)) (by decide +kernel), inTb (tb_1 (List.mem_of_getElem? (i := 0) (by decide +kernel))) (by decide +kernel), ⟨by decide +kernel, by decide +kernel⟩, by decide +kernel, by decide +kernel⟩
theorem pl_L_rules : plainName kL_rules.1.cls = true := by decide +kernel
abbrev kL_runs : MT := (yL_runs, cL_runs, 3, (some .int), [])
set_option maxRecDepth 20000 in
theorem ce_L_runs : CE kL_runs 2 := ⟨inTb (tb_8 (List.mem_of_getElem? (i := 49) rfl)) (by decide +kernel), inTb (tb_1 (List.mem_of_getElem? (i := 0) (by decide +kernel))) (by decide +kernel), ⟨by decide +kernel, by decide +kernel⟩, by decide +kernel, by decide +kernel⟩
theorem pl_L_runs : plainName kL_runs.1.cls = true := by decide +kernel
abbrev kL_word : MT := (yL_word, cL_word, 4, (some (.object "java/lang/String")), [])
set_option maxRecDepth 20000 in
theorem ce_L_word : CE kL_word 1 := ⟨inTb (tb_7 (List.mem_of_getElem? (i := 15) rfl)) (by decide +kernel), inTb (tb_1 (List.mem_of_getElem? (i := 0) (by decide +kernel))) (by decide +kernel), ⟨by decide +kernel, by decide +kernel⟩, by decide +kernel, by decide +kernel⟩
theorem pl_L_word : plainName kL_word.1.cls = true := by decide +kernel
abbrev kL_makes : MT := (yL_makes, cL_makes, 8, (some .boolean), [])
set_option maxRecDepth 20000 in
theorem ce_L_makes : CE kL_makes 2 := ⟨inTb (tb_7 (List.mem_of_getElem? (i := 1) rfl)) (by decide +kernel), inTb (tb_1 (List.mem_of_getElem? (i := 0) (by decide +kernel))) (by decide +kernel), ⟨by decide +kernel, by decide +kernel⟩, by decide +kernel, by decide +kernel⟩
theorem pl_L_makes : plainName kL_makes.1.cls = true := by decide +kernel
abbrev kL_asks : MT := (yL_asks, cL_asks, 8, (some .long), [])
set_option maxRecDepth 20000 in
theorem ce_L_asks : CE kL_asks 1 := ⟨inTb (tb_7 (List.mem_of_getElem? (i := 24) rfl)) (by decide +kernel), inTb (tb_1 (List.mem_of_getElem? (i := 0) (by decide +kernel))) (by decide +kernel), ⟨by decide +kernel, by decide +kernel⟩, by decide +kernel, by decide +kernel⟩
theorem pl_L_asks : plainName kL_asks.1.cls = true := by decide +kernel
abbrev kL_changes : MT := (yL_changes, cL_changes, 5, (some .boolean), [])
set_option maxRecDepth 20000 in
theorem ce_L_changes : CE kL_changes 2 := ⟨inTb (tb_8 (List.mem_of_getElem? (i := 19) rfl)) (by decide +kernel), inTb (tb_1 (List.mem_of_getElem? (i := 0) (by decide +kernel))) (by decide +kernel), ⟨by decide +kernel, by decide +kernel⟩, by decide +kernel, by decide +kernel⟩
theorem pl_L_changes : plainName kL_changes.1.cls = true := by decide +kernel
abbrev kL_thrown : MT := (yL_thrown, cL_thrown, 10, (some .boolean), [])
set_option maxRecDepth 20000 in
theorem ce_L_thrown : CE kL_thrown 1 := ⟨inTb (tb_8 (List.mem_of_getElem? (i := 52) rfl)) (by decide +kernel), inTb (tb_1 (List.mem_of_getElem? (i := 0) (by decide +kernel))) (by decide +kernel), ⟨by decide +kernel, by decide +kernel⟩, by decide +kernel, by decide +kernel⟩
theorem pl_L_thrown : plainName kL_thrown.1.cls = true := by decide +kernel
theorem uw_0 : ∀ w ∈ u_ws RJ0 TJ0 4, w ∈ Tb := fun w h => inTb (inJ0 w h) (List.all_eq_true.mp (by decide +kernel : (u_ws RJ0 TJ0 4).all goodWord = true) w h)
theorem uw_1 : ∀ w ∈ u_ws RJ4 TJ4 4, w ∈ Tb := fun w h => inTb (inJ4 w h) (List.all_eq_true.mp (by decide +kernel : (u_ws RJ4 TJ4 4).all goodWord = true) w h)
theorem uw_2 : ∀ w ∈ u_ws RJx00060 TJx00060 6, w ∈ Tb := fun w h => inTb (inJx00060 w h) (List.all_eq_true.mp (by decide +kernel : (u_ws RJx00060 TJx00060 6).all goodWord = true) w h)
theorem uw_3 : ∀ w ∈ u_ws RJx7c733 TJx7c733 6, w ∈ Tb := fun w h => inTb (inJx7c733 w h) (List.all_eq_true.mp (by decide +kernel : (u_ws RJx7c733 TJx7c733 6).all goodWord = true) w h)
theorem uw_4 : ∀ w ∈ u_ws RJx4a65c TJx4a65c 3, w ∈ Tb := fun w h => inTb (inJx4a65c w h) (List.all_eq_true.mp (by decide +kernel : (u_ws RJx4a65c TJx4a65c 3).all goodWord = true) w h)
theorem uw_5 : ∀ w ∈ u_ws RX1 TX1 14, w ∈ Tb := fun w h => inTb (inX1 w h) (List.all_eq_true.mp (by decide +kernel : (u_ws RX1 TX1 14).all goodWord = true) w h)
theorem uw_6 : ∀ w ∈ u_ws RX2 TX2 2, w ∈ Tb := fun w h => inTb (inX2 w h) (List.all_eq_true.mp (by decide +kernel : (u_ws RX2 TX2 2).all goodWord = true) w h)
theorem uw_7 : ∀ w ∈ u_ws RX3 TX3 2, w ∈ Tb := fun w h => inTb (inX3 w h) (List.all_eq_true.mp (by decide +kernel : (u_ws RX3 TX3 2).all goodWord = true) w h)
theorem uw_8 : ∀ w ∈ u_ws RX4 TX4 4, w ∈ Tb := fun w h => inTb (inX4 w h) (List.all_eq_true.mp (by decide +kernel : (u_ws RX4 TX4 4).all goodWord = true) w h)
theorem uw_9 : ∀ w ∈ u_ws RX5 TX5 2, w ∈ Tb := fun w h => inTb (inX5 w h) (List.all_eq_true.mp (by decide +kernel : (u_ws RX5 TX5 2).all goodWord = true) w h)
theorem uw_10 : ∀ w ∈ u_ws RX6 TX6 3, w ∈ Tb := fun w h => inTb (inX6 w h) (List.all_eq_true.mp (by decide +kernel : (u_ws RX6 TX6 3).all goodWord = true) w h)
theorem uw_11 : ∀ w ∈ u_ws RX7 TX7 3, w ∈ Tb := fun w h => inTb (inX7 w h) (List.all_eq_true.mp (by decide +kernel : (u_ws RX7 TX7 3).all goodWord = true) w h)
theorem uw_12 : ∀ w ∈ u_ws RX8 TX8 3, w ∈ Tb := fun w h => inTb (inX8 w h) (List.all_eq_true.mp (by decide +kernel : (u_ws RX8 TX8 3).all goodWord = true) w h)
theorem uw_13 : ∀ w ∈ u_ws RX9 TX9 8, w ∈ Tb := fun w h => inTb (inX9 w h) (List.all_eq_true.mp (by decide +kernel : (u_ws RX9 TX9 8).all goodWord = true) w h)
theorem uw_14 : ∀ w ∈ u_ws RX10 TX10 3, w ∈ Tb := fun w h => inTb (inX10 w h) (List.all_eq_true.mp (by decide +kernel : (u_ws RX10 TX10 3).all goodWord = true) w h)
theorem uw_15 : ∀ w ∈ u_ws RX12 TX12 12, w ∈ Tb := fun w h => inTb (inX12 w h) (List.all_eq_true.mp (by decide +kernel : (u_ws RX12 TX12 12).all goodWord = true) w h)
theorem ml_J0_492 : Cond.methodLink "java/lang/String" 492 yJ0_isLatin1_aae02 ∈ Tb := inTb (tb_5 (List.mem_of_getElem? (i := 54) (by decide +kernel))) (by decide +kernel)
theorem im_J0_isLatin1_aae02 : Cond.instanceMethod yJ0_isLatin1_aae02 ∈ Tb := inTb (tb_5 (List.mem_of_getElem? (i := 55) (by decide +kernel))) (by decide +kernel)
theorem se_J0_isLatin1_aae02 : Cond.selects "java/lang/String" yJ0_isLatin1_aae02 yJ0_isLatin1_aae02 ∈ Tb := inTb (tb_5 (List.mem_of_getElem? (i := 56) (by decide +kernel))) (by decide +kernel)
theorem fk_J0_9 : Cond.fieldLink "java/lang/String" 9 "java/lang/String" "value" "[B" ∈ Tb := inTb (tb_3 (List.mem_of_getElem? (i := 85) (by decide +kernel))) (by decide +kernel)
theorem fl_J0_9 : FL "java/lang/String" 9 0 0 := ⟨_, _, rfl, by decide, fk_J0_9, uw_0, Or.inl rfl⟩
theorem ml_J0_495 : Cond.methodLink "java/lang/String" 495 yJ1_charAt_3b067 ∈ Tb := inTb (tb_5 (List.mem_of_getElem? (i := 58) (by decide +kernel))) (by decide +kernel)
theorem st_J1_charAt_3b067 : Cond.static yJ1_charAt_3b067 ∈ Tb := inTb (tb_5 (List.mem_of_getElem? (i := 59) (by decide +kernel))) (by decide +kernel)
theorem ml_J0_498 : Cond.methodLink "java/lang/String" 498 yJ2_charAt_3b067 ∈ Tb := inTb (tb_5 (List.mem_of_getElem? (i := 62) (by decide +kernel))) (by decide +kernel)
theorem fs_J0_1053 : Cond.fieldLink "java/lang/String" 1053 "jdk/internal/util/Preconditions" "SIOOBE_FORMATTER" "Ljava/util/function/BiFunction;" ∈ Tb := inTb (tb_2 (List.mem_of_getElem? (i := 124) (by decide +kernel))) (by decide +kernel)
theorem ml_J0_1062 : Cond.methodLink "java/lang/String" 1062 yJ3_checkFromToIndex_8c36e ∈ Tb := inTb (tb_2 (List.mem_of_getElem? (i := 126) (by decide +kernel))) (by decide +kernel)
theorem ml_J0_1059 : Cond.methodLink "java/lang/String" 1059 yJ3_checkIndex_8e157 ∈ Tb := inTb (tb_4 (List.mem_of_getElem? (i := 141) (by decide +kernel))) (by decide +kernel)
theorem st_J3_checkIndex_8e157 : Cond.static yJ3_checkIndex_8e157 ∈ Tb := inTb (tb_3 (List.mem_of_getElem? (i := 201) (by decide +kernel))) (by decide +kernel)
theorem fs_J0_38 : Cond.fieldLink "java/lang/String" 38 "java/lang/String" "COMPACT_STRINGS" "Z" ∈ Tb := inTb (tb_2 (List.mem_of_getElem? (i := 146) (by decide +kernel))) (by decide +kernel)
theorem fk_J0_15 : Cond.fieldLink "java/lang/String" 15 "java/lang/String" "coder" "B" ∈ Tb := inTb (tb_3 (List.mem_of_getElem? (i := 86) (by decide +kernel))) (by decide +kernel)
theorem fl_J0_15 : FL "java/lang/String" 15 0 1 := ⟨_, _, rfl, by decide, fk_J0_15, uw_0, Or.inl rfl⟩
theorem ml_J0_335 : Cond.methodLink "java/lang/String" 335 yJ0_coder_7d493 ∈ Tb := inTb (tb_2 (List.mem_of_getElem? (i := 142) (by decide +kernel))) (by decide +kernel)
theorem im_J0_coder_7d493 : Cond.instanceMethod yJ0_coder_7d493 ∈ Tb := inTb (tb_2 (List.mem_of_getElem? (i := 143) (by decide +kernel))) (by decide +kernel)
theorem se_J0_coder_7d493 : Cond.selects "java/lang/String" yJ0_coder_7d493 yJ0_coder_7d493 ∈ Tb := inTb (tb_2 (List.mem_of_getElem? (i := 144) (by decide +kernel))) (by decide +kernel)
theorem ml_J0_212 : Cond.methodLink "java/lang/String" 212 ⟨"java/lang/System", "arraycopy", "(Ljava/lang/Object;ILjava/lang/Object;II)V"⟩ ∈ Tb := inTb (tb_2 (List.mem_of_getElem? (i := 179) (by decide +kernel))) (by decide +kernel)
theorem ml_J0_106 : Cond.methodLink "java/lang/String" 106 yJ1_inflate_0e8fd ∈ Tb := inTb (tb_2 (List.mem_of_getElem? (i := 180) (by decide +kernel))) (by decide +kernel)
theorem ml_J0_1 : Cond.methodLink "java/lang/String" 1 ⟨"java/lang/Object", "<init>", "()V"⟩ ∈ Tb := inTb (tb_2 (List.mem_of_getElem? (i := 218) (by decide +kernel))) (by decide +kernel)
theorem fp_J0_init_031fb_9 : FP kJ0_init_031fb.1 9 0 0 (.array .byte) true := ⟨_, _, tyJ0, rfl, by decide, fk_J0_9, uw_0, Or.inl rfl, tyJ0_ok, nmJ0, rfl, rfl, fun _ => ⟨rfl, rfl⟩⟩
theorem fp_J0_init_031fb_15 : FP kJ0_init_031fb.1 15 0 1 (.byte) true := ⟨_, _, tyJ0, rfl, by decide, fk_J0_15, uw_0, Or.inl rfl, tyJ0_ok, nmJ0, rfl, rfl, fun _ => ⟨rfl, rfl⟩⟩
theorem ml_J0_489 : Cond.methodLink "java/lang/String" 489 yJ0_init_db425 ∈ Tb := inTb (tb_2 (List.mem_of_getElem? (i := 215) (by decide +kernel))) (by decide +kernel)
theorem im_J0_init_db425 : Cond.instanceMethod yJ0_init_db425 ∈ Tb := inTb (tb_2 (List.mem_of_getElem? (i := 216) (by decide +kernel))) (by decide +kernel)
theorem ml_J0_552 : Cond.methodLink "java/lang/String" 552 yJ5_getValue_6d5f1 ∈ Tb := inTb (tb_2 (List.mem_of_getElem? (i := 219) (by decide +kernel))) (by decide +kernel)
theorem im_J5_getValue_6d5f1 : Cond.instanceMethod yJ5_getValue_6d5f1 ∈ Tb := inTb (tb_2 (List.mem_of_getElem? (i := 220) (by decide +kernel))) (by decide +kernel)
theorem se_J5_getValue_6d5f1 : Cond.selects "java/lang/StringBuilder" yJ5_getValue_6d5f1 yJ5_getValue_6d5f1 ∈ Tb := inTb (tb_2 (List.mem_of_getElem? (i := 222) (by decide +kernel))) (by decide +kernel)
theorem ml_J0_549 : Cond.methodLink "java/lang/String" 549 yJ5_length_8abf5 ∈ Tb := inTb (tb_2 (List.mem_of_getElem? (i := 224) (by decide +kernel))) (by decide +kernel)
theorem im_J5_length_8abf5 : Cond.instanceMethod yJ5_length_8abf5 ∈ Tb := inTb (tb_2 (List.mem_of_getElem? (i := 44) (by decide +kernel))) (by decide +kernel)
theorem ml_J0_1047 : Cond.methodLink "java/lang/String" 1047 yJ5_isLatin1_aae02 ∈ Tb := inTb (tb_2 (List.mem_of_getElem? (i := 225) (by decide +kernel))) (by decide +kernel)
theorem im_J5_isLatin1_aae02 : Cond.instanceMethod yJ5_isLatin1_aae02 ∈ Tb := inTb (tb_2 (List.mem_of_getElem? (i := 108) (by decide +kernel))) (by decide +kernel)
theorem se_J5_isLatin1_aae02 : Cond.selects "java/lang/StringBuilder" yJ5_isLatin1_aae02 yJ5_isLatin1_aae02 ∈ Tb := inTb (tb_2 (List.mem_of_getElem? (i := 110) (by decide +kernel))) (by decide +kernel)
theorem fp_J0_init_db425_15 : FP kJ0_init_db425.1 15 0 1 (.byte) true := ⟨_, _, tyJ0, rfl, by decide, fk_J0_15, uw_0, Or.inl rfl, tyJ0_ok, nmJ0, rfl, rfl, fun _ => ⟨rfl, rfl⟩⟩
theorem ml_J0_54 : Cond.methodLink "java/lang/String" 54 yJ7_copyOfRange_39247 ∈ Tb := inTb (tb_2 (List.mem_of_getElem? (i := 226) (by decide +kernel))) (by decide +kernel)
theorem st_J7_copyOfRange_39247 : Cond.static yJ7_copyOfRange_39247 ∈ Tb := inTb (tb_2 (List.mem_of_getElem? (i := 227) (by decide +kernel))) (by decide +kernel)
theorem fp_J0_init_db425_9 : FP kJ0_init_db425.1 9 0 0 (.array .byte) true := ⟨_, _, tyJ0, rfl, by decide, fk_J0_9, uw_0, Or.inl rfl, tyJ0_ok, nmJ0, rfl, rfl, fun _ => ⟨rfl, rfl⟩⟩
theorem fk_J0_1048 : Cond.fieldLink "java/lang/String" 1048 "java/lang/AbstractStringBuilder" "maybeLatin1" "Z" ∈ Tb := inTb (tb_1 (List.mem_of_getElem? (i := 146) (by decide +kernel))) (by decide +kernel)
theorem fl_J0_1048 : FL "java/lang/String" 1048 1 2 := ⟨_, _, rfl, by decide, fk_J0_1048, uw_1, Or.inl rfl⟩
theorem ml_J0_1051 : Cond.methodLink "java/lang/String" 1051 yJ2_compress_39247 ∈ Tb := inTb (tb_3 (List.mem_of_getElem? (i := 72) (by decide +kernel))) (by decide +kernel)
theorem ml_J0_47 : Cond.methodLink "java/lang/String" 47 yJ2_coderFromArrayLen_85cad ∈ Tb := inTb (tb_3 (List.mem_of_getElem? (i := 82) (by decide +kernel))) (by decide +kernel)
theorem ml_J0_505 : Cond.methodLink "java/lang/String" 505 yJ0_length_8abf5 ∈ Tb := inTb (tb_6 (List.mem_of_getElem? (i := 69) (by decide +kernel))) (by decide +kernel)
theorem im_J0_length_8abf5 : Cond.instanceMethod yJ0_length_8abf5 ∈ Tb := inTb (tb_2 (List.mem_of_getElem? (i := 139) (by decide +kernel))) (by decide +kernel)
theorem se_J0_length_8abf5 : Cond.selects "java/lang/String" yJ0_length_8abf5 yJ0_length_8abf5 ∈ Tb := inTb (tb_2 (List.mem_of_getElem? (i := 140) (by decide +kernel))) (by decide +kernel)
theorem ml_J0_521 : Cond.methodLink "java/lang/String" 521 yJ0_checkBoundsBeginEnd_23922 ∈ Tb := inTb (tb_6 (List.mem_of_getElem? (i := 70) (by decide +kernel))) (by decide +kernel)
theorem st_J0_checkBoundsBeginEnd_23922 : Cond.static yJ0_checkBoundsBeginEnd_23922 ∈ Tb := inTb (tb_2 (List.mem_of_getElem? (i := 122) (by decide +kernel))) (by decide +kernel)
theorem ml_J0_685 : Cond.methodLink "java/lang/String" 685 yJ1_newString_b4f7a ∈ Tb := inTb (tb_6 (List.mem_of_getElem? (i := 71) (by decide +kernel))) (by decide +kernel)
theorem st_J1_newString_b4f7a : Cond.static yJ1_newString_b4f7a ∈ Tb := inTb (tb_6 (List.mem_of_getElem? (i := 72) (by decide +kernel))) (by decide +kernel)
theorem ml_J0_689 : Cond.methodLink "java/lang/String" 689 yJ2_newString_b4f7a ∈ Tb := inTb (tb_6 (List.mem_of_getElem? (i := 80) (by decide +kernel))) (by decide +kernel)
theorem ml_J15_105 : Cond.methodLink "java/util/Objects" 105 yJ3_checkIndex_8e157 ∈ Tb := inTb (tb_3 (List.mem_of_getElem? (i := 200) (by decide +kernel))) (by decide +kernel)
theorem ml_J1_9 : Cond.methodLink "java/lang/StringLatin1" 9 yJ0_checkIndex_df160 ∈ Tb := inTb (tb_5 (List.mem_of_getElem? (i := 61) (by decide +kernel))) (by decide +kernel)
theorem st_J0_checkIndex_df160 : Cond.static yJ0_checkIndex_df160 ∈ Tb := inTb (tb_4 (List.mem_of_getElem? (i := 139) (by decide +kernel))) (by decide +kernel)
theorem ml_J1_236 : Cond.methodLink "java/lang/StringLatin1" 236 yJ7_fill_eb02e ∈ Tb := inTb (tb_3 (List.mem_of_getElem? (i := 110) (by decide +kernel))) (by decide +kernel)
theorem st_J7_fill_eb02e : Cond.static yJ7_fill_eb02e ∈ Tb := inTb (tb_3 (List.mem_of_getElem? (i := 111) (by decide +kernel))) (by decide +kernel)
theorem ck_J1_1 : Cond.classLink "java/lang/StringLatin1" 1 "java/lang/String" ∈ Tb := inTb (tb_6 (List.mem_of_getElem? (i := 75) (by decide +kernel))) (by decide +kernel)
theorem ins_0 : Cond.instantiable "java/lang/String" 4 ∈ Tb := inTb (tb_2 (List.mem_of_getElem? (i := 211) (by decide +kernel))) (by decide +kernel)
theorem ini_0 : Cond.initialized "java/lang/String" ∈ Tb := inTb (tb_1 (List.mem_of_getElem? (i := 8) (by decide +kernel))) (by decide +kernel)
theorem nw_J1_1 : NW "java/lang/StringLatin1" 1 0 [.null, .int 0, .int 0, .int 0] := ⟨_, tyJ0, rfl, ck_J1_1, ins_0, ini_0, uw_0, tyJ0_ok, fun j hj => by
  have hj : j < 4 := hj
  match j, hj with
  | 0, _ => rfl
  | 1, _ => rfl
  | 2, _ => rfl
  | 3, _ => rfl
  | j + 4, h => exact absurd h (by omega), rfl⟩
theorem ml_J1_232 : Cond.methodLink "java/lang/StringLatin1" 232 yJ7_copyOfRange_39247 ∈ Tb := inTb (tb_6 (List.mem_of_getElem? (i := 76) (by decide +kernel))) (by decide +kernel)
theorem ml_J1_112 : Cond.methodLink "java/lang/StringLatin1" 112 yJ0_init_031fb ∈ Tb := inTb (tb_6 (List.mem_of_getElem? (i := 77) (by decide +kernel))) (by decide +kernel)
theorem im_J0_init_031fb : Cond.instanceMethod yJ0_init_031fb ∈ Tb := inTb (tb_6 (List.mem_of_getElem? (i := 78) (by decide +kernel))) (by decide +kernel)
theorem ml_J4_29 : Cond.methodLink "java/lang/StringBuilder" 29 yJ5_append_cf1ce ∈ Tb := inTb (tb_2 (List.mem_of_getElem? (i := 65) (by decide +kernel))) (by decide +kernel)
theorem im_J5_append_cf1ce : Cond.instanceMethod yJ5_append_cf1ce ∈ Tb := inTb (tb_2 (List.mem_of_getElem? (i := 66) (by decide +kernel))) (by decide +kernel)
theorem sm_J5_append_cf1ce : Cond.sameMethod "java/lang/AbstractStringBuilder" "java/lang/AbstractStringBuilder" "append" "(Ljava/lang/String;)Ljava/lang/AbstractStringBuilder;" ∈ Tb := inTb (tb_8 (List.mem_of_getElem? (i := 182) (by decide +kernel))) (by decide +kernel)
theorem su_J4_J5 : Cond.superclass "java/lang/StringBuilder" "java/lang/AbstractStringBuilder" ∈ Tb := inTb (tb_1 (List.mem_of_getElem? (i := 156) (by decide +kernel))) (by decide +kernel)
theorem ml_J4_53 : Cond.methodLink "java/lang/StringBuilder" 53 yJ5_append_c97b9 ∈ Tb := inTb (tb_2 (List.mem_of_getElem? (i := 185) (by decide +kernel))) (by decide +kernel)
theorem im_J5_append_c97b9 : Cond.instanceMethod yJ5_append_c97b9 ∈ Tb := inTb (tb_2 (List.mem_of_getElem? (i := 186) (by decide +kernel))) (by decide +kernel)
theorem sm_J5_append_c97b9 : Cond.sameMethod "java/lang/AbstractStringBuilder" "java/lang/AbstractStringBuilder" "append" "(I)Ljava/lang/AbstractStringBuilder;" ∈ Tb := inTb (tb_8 (List.mem_of_getElem? (i := 189) (by decide +kernel))) (by decide +kernel)
theorem ml_J4_50 : Cond.methodLink "java/lang/StringBuilder" 50 yJ5_append_3fe6f ∈ Tb := inTb (tb_4 (List.mem_of_getElem? (i := 126) (by decide +kernel))) (by decide +kernel)
theorem im_J5_append_3fe6f : Cond.instanceMethod yJ5_append_3fe6f ∈ Tb := inTb (tb_4 (List.mem_of_getElem? (i := 127) (by decide +kernel))) (by decide +kernel)
theorem sm_J5_append_3fe6f : Cond.sameMethod "java/lang/AbstractStringBuilder" "java/lang/AbstractStringBuilder" "append" "(C)Ljava/lang/AbstractStringBuilder;" ∈ Tb := inTb (tb_8 (List.mem_of_getElem? (i := 192) (by decide +kernel))) (by decide +kernel)
theorem ml_J4_329 : Cond.methodLink "java/lang/StringBuilder" 329 yJ5_charAt_5068e ∈ Tb := inTb (tb_7 (List.mem_of_getElem? (i := 176) (by decide +kernel))) (by decide +kernel)
theorem im_J5_charAt_5068e : Cond.instanceMethod yJ5_charAt_5068e ∈ Tb := inTb (tb_7 (List.mem_of_getElem? (i := 177) (by decide +kernel))) (by decide +kernel)
theorem sm_J5_charAt_5068e : Cond.sameMethod "java/lang/AbstractStringBuilder" "java/lang/AbstractStringBuilder" "charAt" "(I)C" ∈ Tb := inTb (tb_8 (List.mem_of_getElem? (i := 193) (by decide +kernel))) (by decide +kernel)
theorem ml_J4_1 : Cond.methodLink "java/lang/StringBuilder" 1 yJ5_init_d00df ∈ Tb := inTb (tb_1 (List.mem_of_getElem? (i := 130) (by decide +kernel))) (by decide +kernel)
theorem im_J5_init_d00df : Cond.instanceMethod yJ5_init_d00df ∈ Tb := inTb (tb_1 (List.mem_of_getElem? (i := 131) (by decide +kernel))) (by decide +kernel)
theorem ml_J4_343 : Cond.methodLink "java/lang/StringBuilder" 343 yJ5_length_8abf5 ∈ Tb := inTb (tb_2 (List.mem_of_getElem? (i := 43) (by decide +kernel))) (by decide +kernel)
theorem sm_J5_length_8abf5 : Cond.sameMethod "java/lang/AbstractStringBuilder" "java/lang/AbstractStringBuilder" "length" "()I" ∈ Tb := inTb (tb_8 (List.mem_of_getElem? (i := 180) (by decide +kernel))) (by decide +kernel)
theorem ml_J4_333 : Cond.methodLink "java/lang/StringBuilder" 333 yJ5_setLength_d00df ∈ Tb := inTb (tb_2 (List.mem_of_getElem? (i := 50) (by decide +kernel))) (by decide +kernel)
theorem im_J5_setLength_d00df : Cond.instanceMethod yJ5_setLength_d00df ∈ Tb := inTb (tb_2 (List.mem_of_getElem? (i := 51) (by decide +kernel))) (by decide +kernel)
theorem sm_J5_setLength_d00df : Cond.sameMethod "java/lang/AbstractStringBuilder" "java/lang/AbstractStringBuilder" "setLength" "(I)V" ∈ Tb := inTb (tb_8 (List.mem_of_getElem? (i := 181) (by decide +kernel))) (by decide +kernel)
theorem ck_J4_18 : Cond.classLink "java/lang/StringBuilder" 18 "java/lang/String" ∈ Tb := inTb (tb_2 (List.mem_of_getElem? (i := 210) (by decide +kernel))) (by decide +kernel)
theorem nw_J4_18 : NW "java/lang/StringBuilder" 18 0 [.null, .int 0, .int 0, .int 0] := ⟨_, tyJ0, rfl, ck_J4_18, ins_0, ini_0, uw_0, tyJ0_ok, fun j hj => by
  have hj : j < 4 := hj
  match j, hj with
  | 0, _ => rfl
  | 1, _ => rfl
  | 2, _ => rfl
  | 3, _ => rfl
  | j + 4, h => exact absurd h (by omega), rfl⟩
theorem ml_J4_137 : Cond.methodLink "java/lang/StringBuilder" 137 yJ0_init_81219 ∈ Tb := inTb (tb_2 (List.mem_of_getElem? (i := 212) (by decide +kernel))) (by decide +kernel)
theorem im_J0_init_81219 : Cond.instanceMethod yJ0_init_81219 ∈ Tb := inTb (tb_2 (List.mem_of_getElem? (i := 213) (by decide +kernel))) (by decide +kernel)
theorem fk_J5_79 : Cond.fieldLink "java/lang/AbstractStringBuilder" 79 "java/lang/AbstractStringBuilder" "count" "I" ∈ Tb := inTb (tb_1 (List.mem_of_getElem? (i := 147) (by decide +kernel))) (by decide +kernel)
theorem fl_J5_79 : FL "java/lang/AbstractStringBuilder" 79 1 3 := ⟨_, _, rfl, by decide, fk_J5_79, uw_1, Or.inl rfl⟩
theorem ml_J5_100 : Cond.methodLink "java/lang/AbstractStringBuilder" 100 yJ5_ensureCapacityInternal_d00df ∈ Tb := inTb (tb_2 (List.mem_of_getElem? (i := 72) (by decide +kernel))) (by decide +kernel)
theorem im_J5_ensureCapacityInternal_d00df : Cond.instanceMethod yJ5_ensureCapacityInternal_d00df ∈ Tb := inTb (tb_2 (List.mem_of_getElem? (i := 74) (by decide +kernel))) (by decide +kernel)
theorem ml_J5_83 : Cond.methodLink "java/lang/AbstractStringBuilder" 83 yJ5_isLatin1_aae02 ∈ Tb := inTb (tb_2 (List.mem_of_getElem? (i := 107) (by decide +kernel))) (by decide +kernel)
theorem ml_J5_191 : Cond.methodLink "java/lang/AbstractStringBuilder" 191 yJ1_canEncode_fc78d ∈ Tb := inTb (tb_4 (List.mem_of_getElem? (i := 129) (by decide +kernel))) (by decide +kernel)
theorem st_J1_canEncode_fc78d : Cond.static yJ1_canEncode_fc78d ∈ Tb := inTb (tb_4 (List.mem_of_getElem? (i := 130) (by decide +kernel))) (by decide +kernel)
theorem fk_J5_15 : Cond.fieldLink "java/lang/AbstractStringBuilder" 15 "java/lang/AbstractStringBuilder" "value" "[B" ∈ Tb := inTb (tb_1 (List.mem_of_getElem? (i := 143) (by decide +kernel))) (by decide +kernel)
theorem fl_J5_15 : FL "java/lang/AbstractStringBuilder" 15 1 0 := ⟨_, _, rfl, by decide, fk_J5_15, uw_1, Or.inl rfl⟩
theorem fp_J5_append_3fe6f_79 : FP kJ5_append_3fe6f.1 79 1 3 (.int) false := ⟨_, _, tyJ4, rfl, by decide, fk_J5_79, uw_1, Or.inl rfl, tyJ4_ok, nmJ4, rfl, rfl, fun h => by cases h⟩
theorem ml_J5_195 : Cond.methodLink "java/lang/AbstractStringBuilder" 195 yJ5_inflate_da8c8 ∈ Tb := inTb (tb_2 (List.mem_of_getElem? (i := 156) (by decide +kernel))) (by decide +kernel)
theorem ml_J5_197 : Cond.methodLink "java/lang/AbstractStringBuilder" 197 yJ2_putCharSB_b72d1 ∈ Tb := inTb (tb_4 (List.mem_of_getElem? (i := 132) (by decide +kernel))) (by decide +kernel)
theorem ml_J5_245 : Cond.methodLink "java/lang/AbstractStringBuilder" 245 yJ6_stringSize_0f7a4 ∈ Tb := inTb (tb_2 (List.mem_of_getElem? (i := 188) (by decide +kernel))) (by decide +kernel)
theorem st_J6_stringSize_0f7a4 : Cond.static yJ6_stringSize_0f7a4 ∈ Tb := inTb (tb_2 (List.mem_of_getElem? (i := 189) (by decide +kernel))) (by decide +kernel)
theorem ml_J5_248 : Cond.methodLink "java/lang/AbstractStringBuilder" 248 yJ6_getChars_ba4f3 ∈ Tb := inTb (tb_2 (List.mem_of_getElem? (i := 191) (by decide +kernel))) (by decide +kernel)
theorem st_J6_getChars_ba4f3 : Cond.static yJ6_getChars_ba4f3 ∈ Tb := inTb (tb_2 (List.mem_of_getElem? (i := 192) (by decide +kernel))) (by decide +kernel)
theorem ml_J5_251 : Cond.methodLink "java/lang/AbstractStringBuilder" 251 yJ2_getChars_46870 ∈ Tb := inTb (tb_2 (List.mem_of_getElem? (i := 198) (by decide +kernel))) (by decide +kernel)
theorem fp_J5_append_c97b9_79 : FP kJ5_append_c97b9.1 79 1 3 (.int) false := ⟨_, _, tyJ4, rfl, by decide, fk_J5_79, uw_1, Or.inl rfl, tyJ4_ok, nmJ4, rfl, rfl, fun h => by cases h⟩
theorem ml_J5_204 : Cond.methodLink "java/lang/AbstractStringBuilder" 204 yJ5_appendNull_278bc ∈ Tb := inTb (tb_2 (List.mem_of_getElem? (i := 68) (by decide +kernel))) (by decide +kernel)
theorem ml_J5_32 : Cond.methodLink "java/lang/AbstractStringBuilder" 32 yJ0_length_8abf5 ∈ Tb := inTb (tb_2 (List.mem_of_getElem? (i := 138) (by decide +kernel))) (by decide +kernel)
theorem ml_J5_208 : Cond.methodLink "java/lang/AbstractStringBuilder" 208 yJ5_putStringAt_47b60 ∈ Tb := inTb (tb_2 (List.mem_of_getElem? (i := 147) (by decide +kernel))) (by decide +kernel)
theorem im_J5_putStringAt_47b60 : Cond.instanceMethod yJ5_putStringAt_47b60 ∈ Tb := inTb (tb_2 (List.mem_of_getElem? (i := 149) (by decide +kernel))) (by decide +kernel)
theorem fp_J5_append_cf1ce_79 : FP kJ5_append_cf1ce.1 79 1 3 (.int) false := ⟨_, _, tyJ4, rfl, by decide, fk_J5_79, uw_1, Or.inl rfl, tyJ4_ok, nmJ4, rfl, rfl, fun h => by cases h⟩
theorem fk_J5_22 : Cond.fieldLink "java/lang/AbstractStringBuilder" 22 "java/lang/AbstractStringBuilder" "coder" "B" ∈ Tb := inTb (tb_1 (List.mem_of_getElem? (i := 144) (by decide +kernel))) (by decide +kernel)
theorem fl_J5_22 : FL "java/lang/AbstractStringBuilder" 22 1 1 := ⟨_, _, rfl, by decide, fk_J5_22, uw_1, Or.inl rfl⟩
theorem ml_J5_138 : Cond.methodLink "java/lang/AbstractStringBuilder" 138 yJ9_min_7cf53 ∈ Tb := inTb (tb_7 (List.mem_of_getElem? (i := 179) (by decide +kernel))) (by decide +kernel)
theorem st_J9_min_7cf53 : Cond.static yJ9_min_7cf53 ∈ Tb := inTb (tb_2 (List.mem_of_getElem? (i := 102) (by decide +kernel))) (by decide +kernel)
theorem ml_J5_144 : Cond.methodLink "java/lang/AbstractStringBuilder" 144 yJ0_checkIndex_df160 ∈ Tb := inTb (tb_7 (List.mem_of_getElem? (i := 180) (by decide +kernel))) (by decide +kernel)
theorem ml_J5_148 : Cond.methodLink "java/lang/AbstractStringBuilder" 148 yJ2_getChar_3b067 ∈ Tb := inTb (tb_7 (List.mem_of_getElem? (i := 181) (by decide +kernel))) (by decide +kernel)
theorem ml_J5_104 : Cond.methodLink "java/lang/AbstractStringBuilder" 104 yJ5_newCapacity_0f7a4 ∈ Tb := inTb (tb_2 (List.mem_of_getElem? (i := 76) (by decide +kernel))) (by decide +kernel)
theorem im_J5_newCapacity_0f7a4 : Cond.instanceMethod yJ5_newCapacity_0f7a4 ∈ Tb := inTb (tb_2 (List.mem_of_getElem? (i := 78) (by decide +kernel))) (by decide +kernel)
theorem ml_J5_108 : Cond.methodLink "java/lang/AbstractStringBuilder" 108 yJ7_copyOf_9075b ∈ Tb := inTb (tb_2 (List.mem_of_getElem? (i := 91) (by decide +kernel))) (by decide +kernel)
theorem st_J7_copyOf_9075b : Cond.static yJ7_copyOf_9075b ∈ Tb := inTb (tb_2 (List.mem_of_getElem? (i := 92) (by decide +kernel))) (by decide +kernel)
theorem fp_J5_ensureCapacityInternal_d00df_15 : FP kJ5_ensureCapacityInternal_d00df.1 15 1 0 (.array .byte) false := ⟨_, _, tyJ4, rfl, by decide, fk_J5_15, uw_1, Or.inl rfl, tyJ4_ok, nmJ4, rfl, rfl, fun h => by cases h⟩
theorem ml_J5_3 : Cond.methodLink "java/lang/AbstractStringBuilder" 3 ⟨"java/lang/Object", "<init>", "()V"⟩ ∈ Tb := inTb (tb_1 (List.mem_of_getElem? (i := 133) (by decide +kernel))) (by decide +kernel)
theorem fs_J5_18 : Cond.fieldLink "java/lang/AbstractStringBuilder" 18 "java/lang/String" "COMPACT_STRINGS" "Z" ∈ Tb := inTb (tb_1 (List.mem_of_getElem? (i := 134) (by decide +kernel))) (by decide +kernel)
theorem fp_J5_init_d00df_15 : FP kJ5_init_d00df.1 15 1 0 (.array .byte) false := ⟨_, _, tyJ4, rfl, by decide, fk_J5_15, uw_1, Or.inl rfl, tyJ4_ok, nmJ4, rfl, rfl, fun h => by cases h⟩
theorem fp_J5_init_d00df_22 : FP kJ5_init_d00df.1 22 1 1 (.byte) false := ⟨_, _, tyJ4, rfl, by decide, fk_J5_22, uw_1, Or.inl rfl, tyJ4_ok, nmJ4, rfl, rfl, fun h => by cases h⟩
theorem ml_J5_26 : Cond.methodLink "java/lang/AbstractStringBuilder" 26 yJ2_newBytesFor_77867 ∈ Tb := inTb (tb_1 (List.mem_of_getElem? (i := 136) (by decide +kernel))) (by decide +kernel)
theorem ml_J5_114 : Cond.methodLink "java/lang/AbstractStringBuilder" 114 yJ8_newLength_cabcc ∈ Tb := inTb (tb_2 (List.mem_of_getElem? (i := 80) (by decide +kernel))) (by decide +kernel)
theorem st_J8_newLength_cabcc : Cond.static yJ8_newLength_cabcc ∈ Tb := inTb (tb_2 (List.mem_of_getElem? (i := 81) (by decide +kernel))) (by decide +kernel)
theorem cn_J5_39 : Cond.constant "java/lang/AbstractStringBuilder" 39 (2147483647 : Int32) ∈ Tb := inTb (tb_2 (List.mem_of_getElem? (i := 90) (by decide +kernel))) (by decide +kernel)
theorem ml_J5_397 : Cond.methodLink "java/lang/AbstractStringBuilder" 397 yJ5_inflateIfNeededFor_a7421 ∈ Tb := inTb (tb_2 (List.mem_of_getElem? (i := 151) (by decide +kernel))) (by decide +kernel)
theorem ml_J5_399 : Cond.methodLink "java/lang/AbstractStringBuilder" 399 yJ0_getBytes_840e7 ∈ Tb := inTb (tb_2 (List.mem_of_getElem? (i := 175) (by decide +kernel))) (by decide +kernel)
theorem im_J0_getBytes_840e7 : Cond.instanceMethod yJ0_getBytes_840e7 ∈ Tb := inTb (tb_2 (List.mem_of_getElem? (i := 176) (by decide +kernel))) (by decide +kernel)
theorem se_J0_getBytes_840e7 : Cond.selects "java/lang/String" yJ0_getBytes_840e7 yJ0_getBytes_840e7 ∈ Tb := inTb (tb_2 (List.mem_of_getElem? (i := 177) (by decide +kernel))) (by decide +kernel)
theorem ck_J5_129 : Cond.classLink "java/lang/AbstractStringBuilder" 129 "java/lang/StringIndexOutOfBoundsException" ∈ Tb := inTb (tb_2 (List.mem_of_getElem? (i := 53) (by decide +kernel))) (by decide +kernel)
theorem ins_3 : Cond.instantiable "java/lang/StringIndexOutOfBoundsException" 6 ∈ Tb := inTb (tb_2 (List.mem_of_getElem? (i := 54) (by decide +kernel))) (by decide +kernel)
theorem ini_3 : Cond.initialized "java/lang/StringIndexOutOfBoundsException" ∈ Tb := inTb (tb_1 (List.mem_of_getElem? (i := 33) (by decide +kernel))) (by decide +kernel)
theorem nw_J5_129 : NW "java/lang/AbstractStringBuilder" 129 3 [.null, .null, .null, .null, .int 0, .null] := ⟨_, tyJx7c733, rfl, ck_J5_129, ins_3, ini_3, uw_3, tyJx7c733_ok, fun j hj => by
  have hj : j < 6 := hj
  match j, hj with
  | 0, _ => rfl
  | 1, _ => rfl
  | 2, _ => rfl
  | 3, _ => rfl
  | 4, _ => rfl
  | 5, _ => rfl
  | j + 6, h => exact absurd h (by omega), rfl⟩
theorem ml_J5_131 : Cond.methodLink "java/lang/AbstractStringBuilder" 131 yJx7c733_init_d00df ∈ Tb := inTb (tb_2 (List.mem_of_getElem? (i := 55) (by decide +kernel))) (by decide +kernel)
theorem ml_J5_133 : Cond.methodLink "java/lang/AbstractStringBuilder" 133 yJ1_fillNull_b72d1 ∈ Tb := inTb (tb_3 (List.mem_of_getElem? (i := 107) (by decide +kernel))) (by decide +kernel)
theorem st_J1_fillNull_b72d1 : Cond.static yJ1_fillNull_b72d1 ∈ Tb := inTb (tb_3 (List.mem_of_getElem? (i := 108) (by decide +kernel))) (by decide +kernel)
theorem ml_J5_137 : Cond.methodLink "java/lang/AbstractStringBuilder" 137 yJ2_fillNull_b72d1 ∈ Tb := inTb (tb_3 (List.mem_of_getElem? (i := 142) (by decide +kernel))) (by decide +kernel)
theorem fk_J5_73 : Cond.fieldLink "java/lang/AbstractStringBuilder" 73 "java/lang/AbstractStringBuilder" "maybeLatin1" "Z" ∈ Tb := inTb (tb_1 (List.mem_of_getElem? (i := 145) (by decide +kernel))) (by decide +kernel)
theorem fp_J5_setLength_d00df_73 : FP kJ5_setLength_d00df.1 73 1 2 (.boolean) false := ⟨_, _, tyJ4, rfl, by decide, fk_J5_73, uw_1, Or.inl rfl, tyJ4_ok, nmJ4, rfl, rfl, fun h => by cases h⟩
theorem fp_J5_setLength_d00df_79 : FP kJ5_setLength_d00df.1 79 1 3 (.int) false := ⟨_, _, tyJ4, rfl, by decide, fk_J5_79, uw_1, Or.inl rfl, tyJ4_ok, nmJ4, rfl, rfl, fun h => by cases h⟩
theorem fs_J6_83 : Cond.fieldLink "java/lang/Integer" 83 "java/lang/Integer" "DigitOnes" "[B" ∈ Tb := inTb (tb_2 (List.mem_of_getElem? (i := 194) (by decide +kernel))) (by decide +kernel)
theorem fs_J6_87 : Cond.fieldLink "java/lang/Integer" 87 "java/lang/Integer" "DigitTens" "[B" ∈ Tb := inTb (tb_2 (List.mem_of_getElem? (i := 196) (by decide +kernel))) (by decide +kernel)
theorem ck_J7_43 : Cond.classLink "java/util/Arrays" 43 "java/lang/IllegalArgumentException" ∈ Tb := inTb (tb_2 (List.mem_of_getElem? (i := 235) (by decide +kernel))) (by decide +kernel)
theorem ck_J7_45 : Cond.classLink "java/util/Arrays" 45 "java/lang/StringBuilder" ∈ Tb := inTb (tb_3 (List.mem_of_getElem? (i := 41) (by decide +kernel))) (by decide +kernel)
theorem ins_1 : Cond.instantiable "java/lang/StringBuilder" 4 ∈ Tb := inTb (tb_1 (List.mem_of_getElem? (i := 126) (by decide +kernel))) (by decide +kernel)
theorem ini_1 : Cond.initialized "java/lang/StringBuilder" ∈ Tb := inTb (tb_1 (List.mem_of_getElem? (i := 7) (by decide +kernel))) (by decide +kernel)
theorem nw_J7_45 : NW "java/util/Arrays" 45 1 [.null, .int 0, .int 0, .int 0] := ⟨_, tyJ4, rfl, ck_J7_45, ins_1, ini_1, uw_1, tyJ4_ok, fun j hj => by
  have hj : j < 4 := hj
  match j, hj with
  | 0, _ => rfl
  | 1, _ => rfl
  | 2, _ => rfl
  | 3, _ => rfl
  | j + 4, h => exact absurd h (by omega), rfl⟩
theorem ml_J7_47 : Cond.methodLink "java/util/Arrays" 47 yJ4_init_da8c8 ∈ Tb := inTb (tb_3 (List.mem_of_getElem? (i := 42) (by decide +kernel))) (by decide +kernel)
theorem im_J4_init_da8c8 : Cond.instanceMethod yJ4_init_da8c8 ∈ Tb := inTb (tb_1 (List.mem_of_getElem? (i := 128) (by decide +kernel))) (by decide +kernel)
theorem ml_J7_54 : Cond.methodLink "java/util/Arrays" 54 yJ4_append_bf812 ∈ Tb := inTb (tb_3 (List.mem_of_getElem? (i := 43) (by decide +kernel))) (by decide +kernel)
theorem im_J4_append_bf812 : Cond.instanceMethod yJ4_append_bf812 ∈ Tb := inTb (tb_2 (List.mem_of_getElem? (i := 182) (by decide +kernel))) (by decide +kernel)
theorem se_J4_append_bf812 : Cond.selects "java/lang/StringBuilder" yJ4_append_bf812 yJ4_append_bf812 ∈ Tb := inTb (tb_2 (List.mem_of_getElem? (i := 183) (by decide +kernel))) (by decide +kernel)
theorem ml_J7_50 : Cond.methodLink "java/util/Arrays" 50 yJ4_append_15ec4 ∈ Tb := inTb (tb_3 (List.mem_of_getElem? (i := 45) (by decide +kernel))) (by decide +kernel)
theorem im_J4_append_15ec4 : Cond.instanceMethod yJ4_append_15ec4 ∈ Tb := inTb (tb_2 (List.mem_of_getElem? (i := 62) (by decide +kernel))) (by decide +kernel)
theorem se_J4_append_15ec4 : Cond.selects "java/lang/StringBuilder" yJ4_append_15ec4 yJ4_append_15ec4 ∈ Tb := inTb (tb_2 (List.mem_of_getElem? (i := 63) (by decide +kernel))) (by decide +kernel)
theorem ml_J7_61 : Cond.methodLink "java/util/Arrays" 61 yJ4_toString_0e30d ∈ Tb := inTb (tb_3 (List.mem_of_getElem? (i := 46) (by decide +kernel))) (by decide +kernel)
theorem im_J4_toString_0e30d : Cond.instanceMethod yJ4_toString_0e30d ∈ Tb := inTb (tb_2 (List.mem_of_getElem? (i := 207) (by decide +kernel))) (by decide +kernel)
theorem se_J4_toString_0e30d : Cond.selects "java/lang/StringBuilder" yJ4_toString_0e30d yJ4_toString_0e30d ∈ Tb := inTb (tb_2 (List.mem_of_getElem? (i := 208) (by decide +kernel))) (by decide +kernel)
theorem ml_J7_65 : Cond.methodLink "java/util/Arrays" 65 ⟨"java/lang/IllegalArgumentException", "<init>", "(Ljava/lang/String;)V"⟩ ∈ Tb := inTb (tb_3 (List.mem_of_getElem? (i := 47) (by decide +kernel))) (by decide +kernel)
theorem ml_J7_343 : Cond.methodLink "java/util/Arrays" 343 yJ7_checkLength_df160 ∈ Tb := inTb (tb_2 (List.mem_of_getElem? (i := 232) (by decide +kernel))) (by decide +kernel)
theorem st_J7_checkLength_df160 : Cond.static yJ7_checkLength_df160 ∈ Tb := inTb (tb_2 (List.mem_of_getElem? (i := 233) (by decide +kernel))) (by decide +kernel)
theorem ml_J7_304 : Cond.methodLink "java/util/Arrays" 304 yJ9_min_7cf53 ∈ Tb := inTb (tb_2 (List.mem_of_getElem? (i := 101) (by decide +kernel))) (by decide +kernel)
theorem ml_J7_150 : Cond.methodLink "java/util/Arrays" 150 ⟨"java/lang/System", "arraycopy", "(Ljava/lang/Object;ILjava/lang/Object;II)V"⟩ ∈ Tb := inTb (tb_2 (List.mem_of_getElem? (i := 104) (by decide +kernel))) (by decide +kernel)
theorem ml_J7_339 : Cond.methodLink "java/util/Arrays" 339 yJ7_copyOfRangeByte_39247 ∈ Tb := inTb (tb_2 (List.mem_of_getElem? (i := 229) (by decide +kernel))) (by decide +kernel)
theorem st_J7_copyOfRangeByte_39247 : Cond.static yJ7_copyOfRangeByte_39247 ∈ Tb := inTb (tb_2 (List.mem_of_getElem? (i := 230) (by decide +kernel))) (by decide +kernel)
theorem ml_J7_310 : Cond.methodLink "java/util/Arrays" 310 ⟨"[B", "clone", "()Ljava/lang/Object;"⟩ ∈ Tb := inTb (tb_2 (List.mem_of_getElem? (i := 94) (by decide +kernel))) (by decide +kernel)
theorem ck_J7_311 : Cond.classLink "java/util/Arrays" 311 "[B" ∈ Tb := inTb (tb_2 (List.mem_of_getElem? (i := 100) (by decide +kernel))) (by decide +kernel)
theorem ml_J7_86 : Cond.methodLink "java/util/Arrays" 86 ⟨"java/lang/Object", "getClass", "()Ljava/lang/Class;"⟩ ∈ Tb := inTb (tb_3 (List.mem_of_getElem? (i := 228) (by decide +kernel))) (by decide +kernel)
theorem ml_J7_300 : Cond.methodLink "java/util/Arrays" 300 yJ7_copyOf_6403c ∈ Tb := inTb (tb_4 (List.mem_of_getElem? (i := 15) (by decide +kernel))) (by decide +kernel)
theorem st_J7_copyOf_6403c : Cond.static yJ7_copyOf_6403c ∈ Tb := inTb (tb_4 (List.mem_of_getElem? (i := 16) (by decide +kernel))) (by decide +kernel)
theorem ck_J7_110 : Cond.classLink "java/util/Arrays" 110 "[Ljava/lang/Object;" ∈ Tb := inTb (tb_4 (List.mem_of_getElem? (i := 18) (by decide +kernel))) (by decide +kernel)
theorem ck_J7_2 : Cond.classLink "java/util/Arrays" 2 "java/lang/Object" ∈ Tb := inTb (tb_4 (List.mem_of_getElem? (i := 20) (by decide +kernel))) (by decide +kernel)
theorem ml_J7_13 : Cond.methodLink "java/util/Arrays" 13 yJ7_rangeCheck_23922 ∈ Tb := inTb (tb_3 (List.mem_of_getElem? (i := 113) (by decide +kernel))) (by decide +kernel)
theorem st_J7_rangeCheck_23922 : Cond.static yJ7_rangeCheck_23922 ∈ Tb := inTb (tb_3 (List.mem_of_getElem? (i := 114) (by decide +kernel))) (by decide +kernel)
theorem ck_J7_68 : Cond.classLink "java/util/Arrays" 68 "java/lang/ArrayIndexOutOfBoundsException" ∈ Tb := inTb (tb_3 (List.mem_of_getElem? (i := 119) (by decide +kernel))) (by decide +kernel)
theorem ins_2 : Cond.instantiable "java/lang/ArrayIndexOutOfBoundsException" 6 ∈ Tb := inTb (tb_3 (List.mem_of_getElem? (i := 120) (by decide +kernel))) (by decide +kernel)
theorem ini_2 : Cond.initialized "java/lang/ArrayIndexOutOfBoundsException" ∈ Tb := inTb (tb_1 (List.mem_of_getElem? (i := 34) (by decide +kernel))) (by decide +kernel)
theorem nw_J7_68 : NW "java/util/Arrays" 68 2 [.null, .null, .null, .null, .null, .int 0] := ⟨_, tyJx00060, rfl, ck_J7_68, ins_2, ini_2, uw_2, tyJx00060_ok, fun j hj => by
  have hj : j < 6 := hj
  match j, hj with
  | 0, _ => rfl
  | 1, _ => rfl
  | 2, _ => rfl
  | 3, _ => rfl
  | 4, _ => rfl
  | 5, _ => rfl
  | j + 6, h => exact absurd h (by omega), rfl⟩
theorem ml_J7_70 : Cond.methodLink "java/util/Arrays" 70 yJx00060_init_d00df ∈ Tb := inTb (tb_3 (List.mem_of_getElem? (i := 130) (by decide +kernel))) (by decide +kernel)
theorem ml_J8_194 : Cond.methodLink "jdk/internal/util/ArraysSupport" 194 yJ9_max_7cf53 ∈ Tb := inTb (tb_2 (List.mem_of_getElem? (i := 83) (by decide +kernel))) (by decide +kernel)
theorem st_J9_max_7cf53 : Cond.static yJ9_max_7cf53 ∈ Tb := inTb (tb_2 (List.mem_of_getElem? (i := 84) (by decide +kernel))) (by decide +kernel)
theorem cn_J8_200 : Cond.constant "jdk/internal/util/ArraysSupport" 200 (2147483639 : Int32) ∈ Tb := inTb (tb_2 (List.mem_of_getElem? (i := 86) (by decide +kernel))) (by decide +kernel)
theorem ml_J8_201 : Cond.methodLink "jdk/internal/util/ArraysSupport" 201 yJ8_hugeLength_7cf53 ∈ Tb := inTb (tb_2 (List.mem_of_getElem? (i := 87) (by decide +kernel))) (by decide +kernel)
theorem ml_Jx4a65c_129 : Cond.methodLink "java/util/ArrayList" 129 yJx4a65c_grow_d5877 ∈ Tb := inTb (tb_3 (List.mem_of_getElem? (i := 216) (by decide +kernel))) (by decide +kernel)
theorem im_Jx4a65c_grow_d5877 : Cond.instanceMethod yJx4a65c_grow_d5877 ∈ Tb := inTb (tb_3 (List.mem_of_getElem? (i := 218) (by decide +kernel))) (by decide +kernel)
theorem se_Jx4a65c_grow_d5877 : Cond.selects "java/util/ArrayList" yJx4a65c_grow_d5877 yJx4a65c_grow_d5877 ∈ Tb := inTb (List.mem_of_getElem? (i := 2) (by decide +kernel)) (by decide +kernel)
theorem fk_Jx4a65c_48 : Cond.fieldLink "java/util/ArrayList" 48 "java/util/ArrayList" "size" "I" ∈ Tb := inTb (tb_1 (List.mem_of_getElem? (i := 71) (by decide +kernel))) (by decide +kernel)
theorem fp_Jx4a65c_add_72be8_48 : FP kJx4a65c_add_72be8.1 48 4 2 (.int) false := ⟨_, _, tyJx4a65c, rfl, by decide, fk_Jx4a65c_48, uw_4, Or.inl rfl, tyJx4a65c_ok, nmJx4a65c, rfl, rfl, fun h => by cases h⟩
theorem ml_Jx4a65c_135 : Cond.methodLink "java/util/ArrayList" 135 yJx4a65c_rangeCheckForAdd_d00df ∈ Tb := inTb (tb_7 (List.mem_of_getElem? (i := 103) (by decide +kernel))) (by decide +kernel)
theorem im_Jx4a65c_rangeCheckForAdd_d00df : Cond.instanceMethod yJx4a65c_rangeCheckForAdd_d00df ∈ Tb := inTb (tb_7 (List.mem_of_getElem? (i := 105) (by decide +kernel))) (by decide +kernel)
theorem se_Jx4a65c_rangeCheckForAdd_d00df : Cond.selects "java/util/ArrayList" yJx4a65c_rangeCheckForAdd_d00df yJx4a65c_rangeCheckForAdd_d00df ∈ Tb := inTb (List.mem_of_getElem? (i := 27) (by decide +kernel)) (by decide +kernel)
theorem fk_Jx4a65c_63 : Cond.fieldLink "java/util/ArrayList" 63 "java/util/ArrayList" "modCount" "I" ∈ Tb := inTb (tb_1 (List.mem_of_getElem? (i := 73) (by decide +kernel))) (by decide +kernel)
theorem sf_Jx4a65c_modCount : Cond.sameField "java/util/ArrayList" "java/util/AbstractList" "modCount" "I" ∈ Tb := inTb (tb_1 (List.mem_of_getElem? (i := 74) (by decide +kernel))) (by decide +kernel)
theorem fl_Jx4a65c_63 : FL "java/util/ArrayList" 63 4 0 := ⟨_, _, rfl, by decide, fk_Jx4a65c_63, uw_4, Or.inr sf_Jx4a65c_modCount⟩
theorem fp_Jx4a65c_add_7a177_63 : FP kJx4a65c_add_7a177.1 63 4 0 (.int) false := ⟨_, _, tyJx4a65c, rfl, by decide, fk_Jx4a65c_63, uw_4, Or.inr sf_Jx4a65c_modCount, tyJx4a65c_ok, nmJx4a65c, rfl, rfl, fun h => by cases h⟩
theorem fl_Jx4a65c_48 : FL "java/util/ArrayList" 48 4 2 := ⟨_, _, rfl, by decide, fk_Jx4a65c_48, uw_4, Or.inl rfl⟩
theorem fk_Jx4a65c_9 : Cond.fieldLink "java/util/ArrayList" 9 "java/util/ArrayList" "elementData" "[Ljava/lang/Object;" ∈ Tb := inTb (tb_1 (List.mem_of_getElem? (i := 70) (by decide +kernel))) (by decide +kernel)
theorem fl_Jx4a65c_9 : FL "java/util/ArrayList" 9 4 1 := ⟨_, _, rfl, by decide, fk_Jx4a65c_9, uw_4, Or.inl rfl⟩
theorem ml_Jx4a65c_112 : Cond.methodLink "java/util/ArrayList" 112 ⟨"java/lang/System", "arraycopy", "(Ljava/lang/Object;ILjava/lang/Object;II)V"⟩ ∈ Tb := inTb (tb_4 (List.mem_of_getElem? (i := 107) (by decide +kernel))) (by decide +kernel)
theorem fp_Jx4a65c_add_7a177_48 : FP kJx4a65c_add_7a177.1 48 4 2 (.int) false := ⟨_, _, tyJx4a65c, rfl, by decide, fk_Jx4a65c_48, uw_4, Or.inl rfl, tyJx4a65c_ok, nmJx4a65c, rfl, rfl, fun h => by cases h⟩
theorem fp_Jx4a65c_add_9ea2d_63 : FP kJx4a65c_add_9ea2d.1 63 4 0 (.int) false := ⟨_, _, tyJx4a65c, rfl, by decide, fk_Jx4a65c_63, uw_4, Or.inr sf_Jx4a65c_modCount, tyJx4a65c_ok, nmJx4a65c, rfl, rfl, fun h => by cases h⟩
theorem ml_Jx4a65c_131 : Cond.methodLink "java/util/ArrayList" 131 yJx4a65c_add_72be8 ∈ Tb := inTb (tb_3 (List.mem_of_getElem? (i := 212) (by decide +kernel))) (by decide +kernel)
theorem im_Jx4a65c_add_72be8 : Cond.instanceMethod yJx4a65c_add_72be8 ∈ Tb := inTb (tb_3 (List.mem_of_getElem? (i := 214) (by decide +kernel))) (by decide +kernel)
theorem se_Jx4a65c_add_72be8 : Cond.selects "java/util/ArrayList" yJx4a65c_add_72be8 yJx4a65c_add_72be8 ∈ Tb := inTb (List.mem_of_getElem? (i := 1) (by decide +kernel)) (by decide +kernel)
theorem fp_Jx4a65c_clear_da8c8_63 : FP kJx4a65c_clear_da8c8.1 63 4 0 (.int) false := ⟨_, _, tyJx4a65c, rfl, by decide, fk_Jx4a65c_63, uw_4, Or.inr sf_Jx4a65c_modCount, tyJx4a65c_ok, nmJx4a65c, rfl, rfl, fun h => by cases h⟩
theorem fp_Jx4a65c_clear_da8c8_48 : FP kJx4a65c_clear_da8c8.1 48 4 2 (.int) false := ⟨_, _, tyJx4a65c, rfl, by decide, fk_Jx4a65c_48, uw_4, Or.inl rfl, tyJx4a65c_ok, nmJx4a65c, rfl, rfl, fun h => by cases h⟩
theorem fp_Jx4a65c_fastRemove_b59b0_63 : FP kJx4a65c_fastRemove_b59b0.1 63 4 0 (.int) false := ⟨_, _, tyJx4a65c, rfl, by decide, fk_Jx4a65c_63, uw_4, Or.inr sf_Jx4a65c_modCount, tyJx4a65c_ok, nmJx4a65c, rfl, rfl, fun h => by cases h⟩
theorem fp_Jx4a65c_fastRemove_b59b0_48 : FP kJx4a65c_fastRemove_b59b0.1 48 4 2 (.int) false := ⟨_, _, tyJx4a65c, rfl, by decide, fk_Jx4a65c_48, uw_4, Or.inl rfl, tyJx4a65c_ok, nmJx4a65c, rfl, rfl, fun h => by cases h⟩
theorem ml_Jx4a65c_118 : Cond.methodLink "java/util/ArrayList" 118 yJ15_checkIndex_7cf53 ∈ Tb := inTb (tb_3 (List.mem_of_getElem? (i := 197) (by decide +kernel))) (by decide +kernel)
theorem st_J15_checkIndex_7cf53 : Cond.static yJ15_checkIndex_7cf53 ∈ Tb := inTb (tb_3 (List.mem_of_getElem? (i := 198) (by decide +kernel))) (by decide +kernel)
theorem ml_Jx4a65c_123 : Cond.methodLink "java/util/ArrayList" 123 yJx4a65c_elementData_915e3 ∈ Tb := inTb (tb_3 (List.mem_of_getElem? (i := 203) (by decide +kernel))) (by decide +kernel)
theorem im_Jx4a65c_elementData_915e3 : Cond.instanceMethod yJx4a65c_elementData_915e3 ∈ Tb := inTb (tb_3 (List.mem_of_getElem? (i := 204) (by decide +kernel))) (by decide +kernel)
theorem se_Jx4a65c_elementData_915e3 : Cond.selects "java/util/ArrayList" yJx4a65c_elementData_915e3 yJx4a65c_elementData_915e3 ∈ Tb := inTb (tb_3 (List.mem_of_getElem? (i := 205) (by decide +kernel))) (by decide +kernel)
theorem fs_Jx4a65c_39 : Cond.fieldLink "java/util/ArrayList" 39 "java/util/ArrayList" "DEFAULTCAPACITY_EMPTY_ELEMENTDATA" "[Ljava/lang/Object;" ∈ Tb := inTb (tb_1 (List.mem_of_getElem? (i := 68) (by decide +kernel))) (by decide +kernel)
theorem ml_Jx4a65c_73 : Cond.methodLink "java/util/ArrayList" 73 yJ8_newLength_cabcc ∈ Tb := inTb (tb_3 (List.mem_of_getElem? (i := 224) (by decide +kernel))) (by decide +kernel)
theorem ml_Jx4a65c_66 : Cond.methodLink "java/util/ArrayList" 66 yJ7_copyOf_1904c ∈ Tb := inTb (tb_3 (List.mem_of_getElem? (i := 225) (by decide +kernel))) (by decide +kernel)
theorem st_J7_copyOf_1904c : Cond.static yJ7_copyOf_1904c ∈ Tb := inTb (tb_3 (List.mem_of_getElem? (i := 226) (by decide +kernel))) (by decide +kernel)
theorem fp_Jx4a65c_grow_92f84_9 : FP kJx4a65c_grow_92f84.1 9 4 1 (.array (.object "java/lang/Object")) false := ⟨_, _, tyJx4a65c, rfl, by decide, fk_Jx4a65c_9, uw_4, Or.inl rfl, tyJx4a65c_ok, nmJx4a65c, rfl, rfl, fun h => by cases h⟩
theorem ml_Jx4a65c_79 : Cond.methodLink "java/util/ArrayList" 79 yJ9_max_7cf53 ∈ Tb := inTb (tb_4 (List.mem_of_getElem? (i := 21) (by decide +kernel))) (by decide +kernel)
theorem ck_Jx4a65c_7 : Cond.classLink "java/util/ArrayList" 7 "java/lang/Object" ∈ Tb := inTb (tb_4 (List.mem_of_getElem? (i := 22) (by decide +kernel))) (by decide +kernel)
theorem ml_Jx4a65c_69 : Cond.methodLink "java/util/ArrayList" 69 yJx4a65c_grow_92f84 ∈ Tb := inTb (tb_3 (List.mem_of_getElem? (i := 220) (by decide +kernel))) (by decide +kernel)
theorem im_Jx4a65c_grow_92f84 : Cond.instanceMethod yJx4a65c_grow_92f84 ∈ Tb := inTb (tb_3 (List.mem_of_getElem? (i := 222) (by decide +kernel))) (by decide +kernel)
theorem se_Jx4a65c_grow_92f84 : Cond.selects "java/util/ArrayList" yJx4a65c_grow_92f84 yJx4a65c_grow_92f84 ∈ Tb := inTb (List.mem_of_getElem? (i := 3) (by decide +kernel)) (by decide +kernel)
theorem ml_Jx4a65c_1 : Cond.methodLink "java/util/ArrayList" 1 yJxc12de_init_da8c8 ∈ Tb := inTb (tb_1 (List.mem_of_getElem? (i := 61) (by decide +kernel))) (by decide +kernel)
theorem im_Jxc12de_init_da8c8 : Cond.instanceMethod yJxc12de_init_da8c8 ∈ Tb := inTb (tb_1 (List.mem_of_getElem? (i := 62) (by decide +kernel))) (by decide +kernel)
theorem fp_Jx4a65c_init_da8c8_9 : FP kJx4a65c_init_da8c8.1 9 4 1 (.array (.object "java/lang/Object")) false := ⟨_, _, tyJx4a65c, rfl, by decide, fk_Jx4a65c_9, uw_4, Or.inl rfl, tyJx4a65c_ok, nmJx4a65c, rfl, rfl, fun h => by cases h⟩
theorem ck_Jx4a65c_187 : Cond.classLink "java/util/ArrayList" 187 "java/lang/IndexOutOfBoundsException" ∈ Tb := inTb (tb_7 (List.mem_of_getElem? (i := 107) (by decide +kernel))) (by decide +kernel)
theorem ml_Jx4a65c_198 : Cond.methodLink "java/util/ArrayList" 198 yJx4a65c_outOfBoundsMsg_b52d3 ∈ Tb := inTb (tb_7 (List.mem_of_getElem? (i := 108) (by decide +kernel))) (by decide +kernel)
theorem ml_Jx4a65c_193 : Cond.methodLink "java/util/ArrayList" 193 ⟨"java/lang/IndexOutOfBoundsException", "<init>", "(Ljava/lang/String;)V"⟩ ∈ Tb := inTb (tb_7 (List.mem_of_getElem? (i := 119) (by decide +kernel))) (by decide +kernel)
theorem ml_Jx4a65c_144 : Cond.methodLink "java/util/ArrayList" 144 yJx4a65c_fastRemove_b59b0 ∈ Tb := inTb (tb_4 (List.mem_of_getElem? (i := 103) (by decide +kernel))) (by decide +kernel)
theorem im_Jx4a65c_fastRemove_b59b0 : Cond.instanceMethod yJx4a65c_fastRemove_b59b0 ∈ Tb := inTb (tb_4 (List.mem_of_getElem? (i := 105) (by decide +kernel))) (by decide +kernel)
theorem se_Jx4a65c_fastRemove_b59b0 : Cond.selects "java/util/ArrayList" yJx4a65c_fastRemove_b59b0 yJx4a65c_fastRemove_b59b0 ∈ Tb := inTb (List.mem_of_getElem? (i := 5) (by decide +kernel)) (by decide +kernel)
theorem ml_Jxa1e45_1 : Cond.methodLink "java/util/AbstractCollection" 1 ⟨"java/lang/Object", "<init>", "()V"⟩ ∈ Tb := inTb (tb_1 (List.mem_of_getElem? (i := 67) (by decide +kernel))) (by decide +kernel)
theorem ml_Jxc12de_1 : Cond.methodLink "java/util/AbstractList" 1 yJxa1e45_init_da8c8 ∈ Tb := inTb (tb_1 (List.mem_of_getElem? (i := 64) (by decide +kernel))) (by decide +kernel)
theorem im_Jxa1e45_init_da8c8 : Cond.instanceMethod yJxa1e45_init_da8c8 ∈ Tb := inTb (tb_1 (List.mem_of_getElem? (i := 65) (by decide +kernel))) (by decide +kernel)
theorem fk_Jxc12de_7 : Cond.fieldLink "java/util/AbstractList" 7 "java/util/AbstractList" "modCount" "I" ∈ Tb := inTb (tb_1 (List.mem_of_getElem? (i := 72) (by decide +kernel))) (by decide +kernel)
theorem fp_Jxc12de_init_da8c8_7 : FP kJxc12de_init_da8c8.1 7 4 0 (.int) false := ⟨_, _, tyJx4a65c, rfl, by decide, fk_Jxc12de_7, uw_4, Or.inl rfl, tyJx4a65c_ok, nmJx4a65c, rfl, rfl, fun h => by cases h⟩
theorem ml_Jxe99ae_122 : Cond.methodLink "java/lang/Double" 122 yJxe99ae_isNaN_b9ae7 ∈ Tb := inTb (tb_7 (List.mem_of_getElem? (i := 54) (by decide +kernel))) (by decide +kernel)
theorem st_Jxe99ae_isNaN_b9ae7 : Cond.static yJxe99ae_isNaN_b9ae7 ∈ Tb := inTb (tb_7 (List.mem_of_getElem? (i := 55) (by decide +kernel))) (by decide +kernel)
theorem ml_Jxe99ae_134 : Cond.methodLink "java/lang/Double" 134 ⟨"java/lang/Double", "doubleToRawLongBits", "(D)J"⟩ ∈ Tb := inTb (tb_7 (List.mem_of_getElem? (i := 57) (by decide +kernel))) (by decide +kernel)
theorem cn_Jxe99ae_137 : Cond.constantLong "java/lang/Double" 137 (9221120237041090560 : Int64) ∈ Tb := inTb (tb_7 (List.mem_of_getElem? (i := 60) (by decide +kernel))) (by decide +kernel)
theorem ml_Jxf58ca_59 : Cond.methodLink "java/lang/Float" 59 yJxf58ca_isNaN_12338 ∈ Tb := inTb (tb_7 (List.mem_of_getElem? (i := 72) (by decide +kernel))) (by decide +kernel)
theorem st_Jxf58ca_isNaN_12338 : Cond.static yJxf58ca_isNaN_12338 ∈ Tb := inTb (tb_7 (List.mem_of_getElem? (i := 73) (by decide +kernel))) (by decide +kernel)
theorem ml_Jxf58ca_74 : Cond.methodLink "java/lang/Float" 74 ⟨"java/lang/Float", "floatToRawIntBits", "(F)I"⟩ ∈ Tb := inTb (tb_7 (List.mem_of_getElem? (i := 75) (by decide +kernel))) (by decide +kernel)
theorem cn_Jxf58ca_77 : Cond.constant "java/lang/Float" 77 (2143289344 : Int32) ∈ Tb := inTb (tb_7 (List.mem_of_getElem? (i := 78) (by decide +kernel))) (by decide +kernel)
theorem ml_L_7 : Cond.methodLink "ButtonRegistryLaw" 7 yX12_addButton ∈ Tb := inTb (tb_3 (List.mem_of_getElem? (i := 181) (by decide +kernel))) (by decide +kernel)
theorem im_X12_addButton : Cond.instanceMethod yX12_addButton ∈ Tb := inTb (tb_3 (List.mem_of_getElem? (i := 182) (by decide +kernel))) (by decide +kernel)
theorem se_X12_addButton : Cond.selects "ButtonRegistry" yX12_addButton yX12_addButton ∈ Tb := inTb (tb_3 (List.mem_of_getElem? (i := 183) (by decide +kernel))) (by decide +kernel)
theorem ml_L_33 : Cond.methodLink "ButtonRegistryLaw" 33 yX12_addPrecedent ∈ Tb := inTb (tb_6 (List.mem_of_getElem? (i := 234) (by decide +kernel))) (by decide +kernel)
theorem im_X12_addPrecedent : Cond.instanceMethod yX12_addPrecedent ∈ Tb := inTb (tb_6 (List.mem_of_getElem? (i := 235) (by decide +kernel))) (by decide +kernel)
theorem se_X12_addPrecedent : Cond.selects "ButtonRegistry" yX12_addPrecedent yX12_addPrecedent ∈ Tb := inTb (tb_6 (List.mem_of_getElem? (i := 236) (by decide +kernel))) (by decide +kernel)
theorem ml_L_46 : Cond.methodLink "ButtonRegistryLaw" 46 yX12_appeal ∈ Tb := inTb (tb_5 (List.mem_of_getElem? (i := 133) (by decide +kernel))) (by decide +kernel)
theorem im_X12_appeal : Cond.instanceMethod yX12_appeal ∈ Tb := inTb (tb_5 (List.mem_of_getElem? (i := 134) (by decide +kernel))) (by decide +kernel)
theorem se_X12_appeal : Cond.selects "ButtonRegistry" yX12_appeal yX12_appeal ∈ Tb := inTb (tb_5 (List.mem_of_getElem? (i := 135) (by decide +kernel))) (by decide +kernel)
theorem ml_L_246 : Cond.methodLink "ButtonRegistryLaw" 246 yX12_buttonCount ∈ Tb := inTb (tb_3 (List.mem_of_getElem? (i := 150) (by decide +kernel))) (by decide +kernel)
theorem im_X12_buttonCount : Cond.instanceMethod yX12_buttonCount ∈ Tb := inTb (tb_3 (List.mem_of_getElem? (i := 151) (by decide +kernel))) (by decide +kernel)
theorem se_X12_buttonCount : Cond.selects "ButtonRegistry" yX12_buttonCount yX12_buttonCount ∈ Tb := inTb (tb_3 (List.mem_of_getElem? (i := 152) (by decide +kernel))) (by decide +kernel)
theorem cn_L_249 : Cond.constantLong "ButtonRegistryLaw" 249 (31 : Int64) ∈ Tb := inTb (tb_7 (List.mem_of_getElem? (i := 25) (by decide +kernel))) (by decide +kernel)
theorem ml_L_251 : Cond.methodLink "ButtonRegistryLaw" 251 yL_meanClaim ∈ Tb := inTb (tb_7 (List.mem_of_getElem? (i := 26) (by decide +kernel))) (by decide +kernel)
theorem st_L_meanClaim : Cond.static yL_meanClaim ∈ Tb := inTb (tb_7 (List.mem_of_getElem? (i := 27) (by decide +kernel))) (by decide +kernel)
theorem ml_L_254 : Cond.methodLink "ButtonRegistryLaw" 254 yJxe99ae_doubleToLongBits_ccdee ∈ Tb := inTb (tb_7 (List.mem_of_getElem? (i := 51) (by decide +kernel))) (by decide +kernel)
theorem st_Jxe99ae_doubleToLongBits_ccdee : Cond.static yJxe99ae_doubleToLongBits_ccdee ∈ Tb := inTb (tb_7 (List.mem_of_getElem? (i := 52) (by decide +kernel))) (by decide +kernel)
theorem ml_L_260 : Cond.methodLink "ButtonRegistryLaw" 260 yL_ruledShare ∈ Tb := inTb (tb_7 (List.mem_of_getElem? (i := 61) (by decide +kernel))) (by decide +kernel)
theorem st_L_ruledShare : Cond.static yL_ruledShare ∈ Tb := inTb (tb_7 (List.mem_of_getElem? (i := 62) (by decide +kernel))) (by decide +kernel)
theorem ml_L_263 : Cond.methodLink "ButtonRegistryLaw" 263 yJxf58ca_floatToIntBits_5c35a ∈ Tb := inTb (tb_7 (List.mem_of_getElem? (i := 69) (by decide +kernel))) (by decide +kernel)
theorem st_Jxf58ca_floatToIntBits_5c35a : Cond.static yJxf58ca_floatToIntBits_5c35a ∈ Tb := inTb (tb_7 (List.mem_of_getElem? (i := 70) (by decide +kernel))) (by decide +kernel)
theorem ml_L_269 : Cond.methodLink "ButtonRegistryLaw" 269 yX12_chest ∈ Tb := inTb (tb_3 (List.mem_of_getElem? (i := 154) (by decide +kernel))) (by decide +kernel)
theorem im_X12_chest : Cond.instanceMethod yX12_chest ∈ Tb := inTb (tb_3 (List.mem_of_getElem? (i := 155) (by decide +kernel))) (by decide +kernel)
theorem se_X12_chest : Cond.selects "ButtonRegistry" yX12_chest yX12_chest ∈ Tb := inTb (tb_3 (List.mem_of_getElem? (i := 156) (by decide +kernel))) (by decide +kernel)
theorem ml_L_272 : Cond.methodLink "ButtonRegistryLaw" 272 yX12_day ∈ Tb := inTb (tb_3 (List.mem_of_getElem? (i := 146) (by decide +kernel))) (by decide +kernel)
theorem im_X12_day : Cond.instanceMethod yX12_day ∈ Tb := inTb (tb_3 (List.mem_of_getElem? (i := 147) (by decide +kernel))) (by decide +kernel)
theorem se_X12_day : Cond.selects "ButtonRegistry" yX12_day yX12_day ∈ Tb := inTb (tb_3 (List.mem_of_getElem? (i := 148) (by decide +kernel))) (by decide +kernel)
theorem ml_L_275 : Cond.methodLink "ButtonRegistryLaw" 275 yX12_precedentCount ∈ Tb := inTb (tb_3 (List.mem_of_getElem? (i := 166) (by decide +kernel))) (by decide +kernel)
theorem im_X12_precedentCount : Cond.instanceMethod yX12_precedentCount ∈ Tb := inTb (tb_3 (List.mem_of_getElem? (i := 167) (by decide +kernel))) (by decide +kernel)
theorem se_X12_precedentCount : Cond.selects "ButtonRegistry" yX12_precedentCount yX12_precedentCount ∈ Tb := inTb (tb_3 (List.mem_of_getElem? (i := 168) (by decide +kernel))) (by decide +kernel)
theorem ml_L_278 : Cond.methodLink "ButtonRegistryLaw" 278 yX12_bestDocket ∈ Tb := inTb (tb_7 (List.mem_of_getElem? (i := 79) (by decide +kernel))) (by decide +kernel)
theorem im_X12_bestDocket : Cond.instanceMethod yX12_bestDocket ∈ Tb := inTb (tb_7 (List.mem_of_getElem? (i := 80) (by decide +kernel))) (by decide +kernel)
theorem se_X12_bestDocket : Cond.selects "ButtonRegistry" yX12_bestDocket yX12_bestDocket ∈ Tb := inTb (tb_7 (List.mem_of_getElem? (i := 81) (by decide +kernel))) (by decide +kernel)
theorem ml_L_281 : Cond.methodLink "ButtonRegistryLaw" 281 yX12_forestTension ∈ Tb := inTb (tb_7 (List.mem_of_getElem? (i := 125) (by decide +kernel))) (by decide +kernel)
theorem im_X12_forestTension : Cond.instanceMethod yX12_forestTension ∈ Tb := inTb (tb_7 (List.mem_of_getElem? (i := 126) (by decide +kernel))) (by decide +kernel)
theorem se_X12_forestTension : Cond.selects "ButtonRegistry" yX12_forestTension yX12_forestTension ∈ Tb := inTb (tb_7 (List.mem_of_getElem? (i := 127) (by decide +kernel))) (by decide +kernel)
theorem ml_L_284 : Cond.methodLink "ButtonRegistryLaw" 284 yX12_fewestTransfers ∈ Tb := inTb (tb_7 (List.mem_of_getElem? (i := 133) (by decide +kernel))) (by decide +kernel)
theorem im_X12_fewestTransfers : Cond.instanceMethod yX12_fewestTransfers ∈ Tb := inTb (tb_7 (List.mem_of_getElem? (i := 134) (by decide +kernel))) (by decide +kernel)
theorem se_X12_fewestTransfers : Cond.selects "ButtonRegistry" yX12_fewestTransfers yX12_fewestTransfers ∈ Tb := inTb (tb_7 (List.mem_of_getElem? (i := 135) (by decide +kernel))) (by decide +kernel)
theorem ml_L_287 : Cond.methodLink "ButtonRegistryLaw" 287 yL_renderBonds ∈ Tb := inTb (tb_7 (List.mem_of_getElem? (i := 155) (by decide +kernel))) (by decide +kernel)
theorem st_L_renderBonds : Cond.static yL_renderBonds ∈ Tb := inTb (tb_7 (List.mem_of_getElem? (i := 156) (by decide +kernel))) (by decide +kernel)
theorem ml_L_202 : Cond.methodLink "ButtonRegistryLaw" 202 yL_outputAt ∈ Tb := inTb (tb_7 (List.mem_of_getElem? (i := 164) (by decide +kernel))) (by decide +kernel)
theorem st_L_outputAt : Cond.static yL_outputAt ∈ Tb := inTb (tb_7 (List.mem_of_getElem? (i := 165) (by decide +kernel))) (by decide +kernel)
theorem ml_L_289 : Cond.methodLink "ButtonRegistryLaw" 289 yL_byBalance ∈ Tb := inTb (tb_7 (List.mem_of_getElem? (i := 182) (by decide +kernel))) (by decide +kernel)
theorem st_L_byBalance : Cond.static yL_byBalance ∈ Tb := inTb (tb_7 (List.mem_of_getElem? (i := 183) (by decide +kernel))) (by decide +kernel)
theorem ml_L_292 : Cond.methodLink "ButtonRegistryLaw" 292 yL_percent ∈ Tb := inTb (tb_7 (List.mem_of_getElem? (i := 204) (by decide +kernel))) (by decide +kernel)
theorem st_L_percent : Cond.static yL_percent ∈ Tb := inTb (tb_7 (List.mem_of_getElem? (i := 205) (by decide +kernel))) (by decide +kernel)
theorem ml_L_295 : Cond.methodLink "ButtonRegistryLaw" 295 yX12_caseCount ∈ Tb := inTb (tb_3 (List.mem_of_getElem? (i := 158) (by decide +kernel))) (by decide +kernel)
theorem im_X12_caseCount : Cond.instanceMethod yX12_caseCount ∈ Tb := inTb (tb_3 (List.mem_of_getElem? (i := 159) (by decide +kernel))) (by decide +kernel)
theorem se_X12_caseCount : Cond.selects "ButtonRegistry" yX12_caseCount yX12_caseCount ∈ Tb := inTb (tb_3 (List.mem_of_getElem? (i := 160) (by decide +kernel))) (by decide +kernel)
theorem ml_L_298 : Cond.methodLink "ButtonRegistryLaw" 298 yL_caseAt ∈ Tb := inTb (tb_7 (List.mem_of_getElem? (i := 217) (by decide +kernel))) (by decide +kernel)
theorem st_L_caseAt : Cond.static yL_caseAt ∈ Tb := inTb (tb_7 (List.mem_of_getElem? (i := 218) (by decide +kernel))) (by decide +kernel)
theorem ml_L_300 : Cond.methodLink "ButtonRegistryLaw" 300 yL_renderCase ∈ Tb := inTb (tb_7 (List.mem_of_getElem? (i := 225) (by decide +kernel))) (by decide +kernel)
theorem st_L_renderCase : Cond.static yL_renderCase ∈ Tb := inTb (tb_7 (List.mem_of_getElem? (i := 226) (by decide +kernel))) (by decide +kernel)
theorem ml_L_302 : Cond.methodLink "ButtonRegistryLaw" 302 yL_byClaim ∈ Tb := inTb (tb_7 (List.mem_of_getElem? (i := 233) (by decide +kernel))) (by decide +kernel)
theorem st_L_byClaim : Cond.static yL_byClaim ∈ Tb := inTb (tb_7 (List.mem_of_getElem? (i := 234) (by decide +kernel))) (by decide +kernel)
theorem ml_L_305 : Cond.methodLink "ButtonRegistryLaw" 305 yL_nearest ∈ Tb := inTb (tb_8 (List.mem_of_getElem? (i := 8) (by decide +kernel))) (by decide +kernel)
theorem st_L_nearest : Cond.static yL_nearest ∈ Tb := inTb (tb_8 (List.mem_of_getElem? (i := 9) (by decide +kernel))) (by decide +kernel)
theorem ml_L_308 : Cond.methodLink "ButtonRegistryLaw" 308 yL_cost ∈ Tb := inTb (tb_5 (List.mem_of_getElem? (i := 201) (by decide +kernel))) (by decide +kernel)
theorem st_L_cost : Cond.static yL_cost ∈ Tb := inTb (tb_5 (List.mem_of_getElem? (i := 202) (by decide +kernel))) (by decide +kernel)
theorem ml_L_310 : Cond.methodLink "ButtonRegistryLaw" 310 yL_percentage ∈ Tb := inTb (tb_5 (List.mem_of_getElem? (i := 189) (by decide +kernel))) (by decide +kernel)
theorem st_L_percentage : Cond.static yL_percentage ∈ Tb := inTb (tb_5 (List.mem_of_getElem? (i := 190) (by decide +kernel))) (by decide +kernel)
theorem ml_L_102 : Cond.methodLink "ButtonRegistryLaw" 102 yX12_award ∈ Tb := inTb (tb_8 (List.mem_of_getElem? (i := 58) (by decide +kernel))) (by decide +kernel)
theorem im_X12_award : Cond.instanceMethod yX12_award ∈ Tb := inTb (tb_8 (List.mem_of_getElem? (i := 59) (by decide +kernel))) (by decide +kernel)
theorem se_X12_award : Cond.selects "ButtonRegistry" yX12_award yX12_award ∈ Tb := inTb (tb_8 (List.mem_of_getElem? (i := 60) (by decide +kernel))) (by decide +kernel)
theorem ml_L_166 : Cond.methodLink "ButtonRegistryLaw" 166 yX12_balance ∈ Tb := inTb (tb_6 (List.mem_of_getElem? (i := 201) (by decide +kernel))) (by decide +kernel)
theorem im_X12_balance : Cond.instanceMethod yX12_balance ∈ Tb := inTb (tb_6 (List.mem_of_getElem? (i := 202) (by decide +kernel))) (by decide +kernel)
theorem se_X12_balance : Cond.selects "ButtonRegistry" yX12_balance yX12_balance ∈ Tb := inTb (tb_6 (List.mem_of_getElem? (i := 203) (by decide +kernel))) (by decide +kernel)
theorem cn_L_169 : Cond.constant "ButtonRegistryLaw" 169 (1000000 : Int32) ∈ Tb := inTb (tb_6 (List.mem_of_getElem? (i := 211) (by decide +kernel))) (by decide +kernel)
theorem ml_L_123 : Cond.methodLink "ButtonRegistryLaw" 123 yX12_buttonByBalance ∈ Tb := inTb (tb_7 (List.mem_of_getElem? (i := 185) (by decide +kernel))) (by decide +kernel)
theorem im_X12_buttonByBalance : Cond.instanceMethod yX12_buttonByBalance ∈ Tb := inTb (tb_7 (List.mem_of_getElem? (i := 186) (by decide +kernel))) (by decide +kernel)
theorem se_X12_buttonByBalance : Cond.selects "ButtonRegistry" yX12_buttonByBalance yX12_buttonByBalance ∈ Tb := inTb (tb_7 (List.mem_of_getElem? (i := 187) (by decide +kernel))) (by decide +kernel)
theorem ml_L_120 : Cond.methodLink "ButtonRegistryLaw" 120 yX12_caseByClaim ∈ Tb := inTb (tb_7 (List.mem_of_getElem? (i := 236) (by decide +kernel))) (by decide +kernel)
theorem im_X12_caseByClaim : Cond.instanceMethod yX12_caseByClaim ∈ Tb := inTb (tb_7 (List.mem_of_getElem? (i := 237) (by decide +kernel))) (by decide +kernel)
theorem se_X12_caseByClaim : Cond.selects "ButtonRegistry" yX12_caseByClaim yX12_caseByClaim ∈ Tb := inTb (tb_7 (List.mem_of_getElem? (i := 238) (by decide +kernel))) (by decide +kernel)
theorem ml_L_117 : Cond.methodLink "ButtonRegistryLaw" 117 yX12_distanceByEnds ∈ Tb := inTb (tb_8 (List.mem_of_getElem? (i := 89) (by decide +kernel))) (by decide +kernel)
theorem im_X12_distanceByEnds : Cond.instanceMethod yX12_distanceByEnds ∈ Tb := inTb (tb_8 (List.mem_of_getElem? (i := 90) (by decide +kernel))) (by decide +kernel)
theorem se_X12_distanceByEnds : Cond.selects "ButtonRegistry" yX12_distanceByEnds yX12_distanceByEnds ∈ Tb := inTb (tb_8 (List.mem_of_getElem? (i := 91) (by decide +kernel))) (by decide +kernel)
theorem ml_L_70 : Cond.methodLink "ButtonRegistryLaw" 70 yX12_caseAt ∈ Tb := inTb (tb_7 (List.mem_of_getElem? (i := 220) (by decide +kernel))) (by decide +kernel)
theorem im_X12_caseAt : Cond.instanceMethod yX12_caseAt ∈ Tb := inTb (tb_7 (List.mem_of_getElem? (i := 221) (by decide +kernel))) (by decide +kernel)
theorem se_X12_caseAt : Cond.selects "ButtonRegistry" yX12_caseAt yX12_caseAt ∈ Tb := inTb (tb_7 (List.mem_of_getElem? (i := 222) (by decide +kernel))) (by decide +kernel)
theorem ml_L_206 : Cond.methodLink "ButtonRegistryLaw" 206 yL_some ∈ Tb := inTb (tb_7 (List.mem_of_getElem? (i := 2) (by decide +kernel))) (by decide +kernel)
theorem st_L_some : Cond.static yL_some ∈ Tb := inTb (tb_7 (List.mem_of_getElem? (i := 3) (by decide +kernel))) (by decide +kernel)
theorem ml_L_227 : Cond.methodLink "ButtonRegistryLaw" 227 yL_addButton ∈ Tb := inTb (tb_3 (List.mem_of_getElem? (i := 177) (by decide +kernel))) (by decide +kernel)
theorem st_L_addButton : Cond.static yL_addButton ∈ Tb := inTb (tb_3 (List.mem_of_getElem? (i := 178) (by decide +kernel))) (by decide +kernel)
theorem ml_L_229 : Cond.methodLink "ButtonRegistryLaw" 229 yL_setBond ∈ Tb := inTb (tb_7 (List.mem_of_getElem? (i := 5) (by decide +kernel))) (by decide +kernel)
theorem st_L_setBond : Cond.static yL_setBond ∈ Tb := inTb (tb_7 (List.mem_of_getElem? (i := 6) (by decide +kernel))) (by decide +kernel)
theorem ml_L_312 : Cond.methodLink "ButtonRegistryLaw" 312 yL_cutBond ∈ Tb := inTb (tb_8 (List.mem_of_getElem? (i := 20) (by decide +kernel))) (by decide +kernel)
theorem st_L_cutBond : Cond.static yL_cutBond ∈ Tb := inTb (tb_8 (List.mem_of_getElem? (i := 21) (by decide +kernel))) (by decide +kernel)
theorem ml_L_232 : Cond.methodLink "ButtonRegistryLaw" 232 yL_word ∈ Tb := inTb (tb_7 (List.mem_of_getElem? (i := 13) (by decide +kernel))) (by decide +kernel)
theorem st_L_word : Cond.static yL_word ∈ Tb := inTb (tb_7 (List.mem_of_getElem? (i := 14) (by decide +kernel))) (by decide +kernel)
theorem ml_L_236 : Cond.methodLink "ButtonRegistryLaw" 236 yL_rules ∈ Tb := inTb (tb_6 (List.mem_of_getElem? (i := 228) (by decide +kernel))) (by decide +kernel)
theorem st_L_rules : Cond.static yL_rules ∈ Tb := inTb (tb_6 (List.mem_of_getElem? (i := 229) (by decide +kernel))) (by decide +kernel)
theorem ml_L_240 : Cond.methodLink "ButtonRegistryLaw" 240 yL_files ∈ Tb := inTb (tb_6 (List.mem_of_getElem? (i := 212) (by decide +kernel))) (by decide +kernel)
theorem st_L_files : Cond.static yL_files ∈ Tb := inTb (tb_6 (List.mem_of_getElem? (i := 213) (by decide +kernel))) (by decide +kernel)
theorem ml_L_244 : Cond.methodLink "ButtonRegistryLaw" 244 yL_hear ∈ Tb := inTb (tb_4 (List.mem_of_getElem? (i := 142) (by decide +kernel))) (by decide +kernel)
theorem st_L_hear : Cond.static yL_hear ∈ Tb := inTb (tb_4 (List.mem_of_getElem? (i := 143) (by decide +kernel))) (by decide +kernel)
theorem ml_L_315 : Cond.methodLink "ButtonRegistryLaw" 315 yL_appeal ∈ Tb := inTb (tb_5 (List.mem_of_getElem? (i := 130) (by decide +kernel))) (by decide +kernel)
theorem st_L_appeal : Cond.static yL_appeal ∈ Tb := inTb (tb_5 (List.mem_of_getElem? (i := 131) (by decide +kernel))) (by decide +kernel)
theorem ml_L_317 : Cond.methodLink "ButtonRegistryLaw" 317 yL_withdraw ∈ Tb := inTb (tb_5 (List.mem_of_getElem? (i := 141) (by decide +kernel))) (by decide +kernel)
theorem st_L_withdraw : Cond.static yL_withdraw ∈ Tb := inTb (tb_5 (List.mem_of_getElem? (i := 142) (by decide +kernel))) (by decide +kernel)
theorem ml_L_319 : Cond.methodLink "ButtonRegistryLaw" 319 yL_close ∈ Tb := inTb (tb_8 (List.mem_of_getElem? (i := 28) (by decide +kernel))) (by decide +kernel)
theorem st_L_close : Cond.static yL_close ∈ Tb := inTb (tb_8 (List.mem_of_getElem? (i := 29) (by decide +kernel))) (by decide +kernel)
theorem ml_L_321 : Cond.methodLink "ButtonRegistryLaw" 321 yL_give ∈ Tb := inTb (tb_8 (List.mem_of_getElem? (i := 36) (by decide +kernel))) (by decide +kernel)
theorem st_L_give : Cond.static yL_give ∈ Tb := inTb (tb_8 (List.mem_of_getElem? (i := 37) (by decide +kernel))) (by decide +kernel)
theorem ck_L_209 : Cond.classLink "ButtonRegistryLaw" 209 "java/lang/StringBuilder" ∈ Tb := inTb (tb_7 (List.mem_of_getElem? (i := 17) (by decide +kernel))) (by decide +kernel)
theorem nw_L_209 : NW "ButtonRegistryLaw" 209 1 [.null, .int 0, .int 0, .int 0] := ⟨_, tyJ4, rfl, ck_L_209, ins_1, ini_1, uw_1, tyJ4_ok, fun j hj => by
  have hj : j < 4 := hj
  match j, hj with
  | 0, _ => rfl
  | 1, _ => rfl
  | 2, _ => rfl
  | 3, _ => rfl
  | j + 4, h => exact absurd h (by omega), rfl⟩
theorem ml_L_211 : Cond.methodLink "ButtonRegistryLaw" 211 yJ4_init_da8c8 ∈ Tb := inTb (tb_7 (List.mem_of_getElem? (i := 18) (by decide +kernel))) (by decide +kernel)
theorem ml_L_212 : Cond.methodLink "ButtonRegistryLaw" 212 yJ4_append_15ec4 ∈ Tb := inTb (tb_7 (List.mem_of_getElem? (i := 19) (by decide +kernel))) (by decide +kernel)
theorem ml_L_325 : Cond.methodLink "ButtonRegistryLaw" 325 yJ4_append_bf812 ∈ Tb := inTb (tb_8 (List.mem_of_getElem? (i := 45) (by decide +kernel))) (by decide +kernel)
theorem ml_L_219 : Cond.methodLink "ButtonRegistryLaw" 219 yJ4_toString_0e30d ∈ Tb := inTb (tb_7 (List.mem_of_getElem? (i := 21) (by decide +kernel))) (by decide +kernel)
theorem ml_L_330 : Cond.methodLink "ButtonRegistryLaw" 330 yL_runs ∈ Tb := inTb (tb_8 (List.mem_of_getElem? (i := 47) (by decide +kernel))) (by decide +kernel)
theorem st_L_runs : Cond.static yL_runs ∈ Tb := inTb (tb_8 (List.mem_of_getElem? (i := 48) (by decide +kernel))) (by decide +kernel)
theorem ml_L_334 : Cond.methodLink "ButtonRegistryLaw" 334 yL_passDays ∈ Tb := inTb (tb_5 (List.mem_of_getElem? (i := 153) (by decide +kernel))) (by decide +kernel)
theorem st_L_passDays : Cond.static yL_passDays ∈ Tb := inTb (tb_5 (List.mem_of_getElem? (i := 154) (by decide +kernel))) (by decide +kernel)
theorem ml_L_79 : Cond.methodLink "ButtonRegistryLaw" 79 yX12_claim ∈ Tb := inTb (tb_5 (List.mem_of_getElem? (i := 170) (by decide +kernel))) (by decide +kernel)
theorem im_X12_claim : Cond.instanceMethod yX12_claim ∈ Tb := inTb (tb_5 (List.mem_of_getElem? (i := 171) (by decide +kernel))) (by decide +kernel)
theorem se_X12_claim : Cond.selects "ButtonRegistry" yX12_claim yX12_claim ∈ Tb := inTb (tb_5 (List.mem_of_getElem? (i := 172) (by decide +kernel))) (by decide +kernel)
theorem ml_L_52 : Cond.methodLink "ButtonRegistryLaw" 52 yX12_close ∈ Tb := inTb (tb_8 (List.mem_of_getElem? (i := 31) (by decide +kernel))) (by decide +kernel)
theorem im_X12_close : Cond.instanceMethod yX12_close ∈ Tb := inTb (tb_8 (List.mem_of_getElem? (i := 32) (by decide +kernel))) (by decide +kernel)
theorem se_X12_close : Cond.selects "ButtonRegistry" yX12_close yX12_close ∈ Tb := inTb (tb_8 (List.mem_of_getElem? (i := 33) (by decide +kernel))) (by decide +kernel)
theorem ml_L_105 : Cond.methodLink "ButtonRegistryLaw" 105 yX12_cost ∈ Tb := inTb (tb_5 (List.mem_of_getElem? (i := 204) (by decide +kernel))) (by decide +kernel)
theorem im_X12_cost : Cond.instanceMethod yX12_cost ∈ Tb := inTb (tb_5 (List.mem_of_getElem? (i := 205) (by decide +kernel))) (by decide +kernel)
theorem se_X12_cost : Cond.selects "ButtonRegistry" yX12_cost yX12_cost ∈ Tb := inTb (tb_5 (List.mem_of_getElem? (i := 206) (by decide +kernel))) (by decide +kernel)
theorem ml_L_23 : Cond.methodLink "ButtonRegistryLaw" 23 yX12_cutBond ∈ Tb := inTb (tb_8 (List.mem_of_getElem? (i := 23) (by decide +kernel))) (by decide +kernel)
theorem im_X12_cutBond : Cond.instanceMethod yX12_cutBond ∈ Tb := inTb (tb_8 (List.mem_of_getElem? (i := 24) (by decide +kernel))) (by decide +kernel)
theorem se_X12_cutBond : Cond.selects "ButtonRegistry" yX12_cutBond yX12_cutBond ∈ Tb := inTb (tb_8 (List.mem_of_getElem? (i := 25) (by decide +kernel))) (by decide +kernel)
theorem ml_L_85 : Cond.methodLink "ButtonRegistryLaw" 85 yX12_deadline ∈ Tb := inTb (tb_8 (List.mem_of_getElem? (i := 110) (by decide +kernel))) (by decide +kernel)
theorem im_X12_deadline : Cond.instanceMethod yX12_deadline ∈ Tb := inTb (tb_8 (List.mem_of_getElem? (i := 111) (by decide +kernel))) (by decide +kernel)
theorem se_X12_deadline : Cond.selects "ButtonRegistry" yX12_deadline yX12_deadline ∈ Tb := inTb (tb_8 (List.mem_of_getElem? (i := 112) (by decide +kernel))) (by decide +kernel)
theorem ml_L_76 : Cond.methodLink "ButtonRegistryLaw" 76 yX12_defendant ∈ Tb := inTb (tb_8 (List.mem_of_getElem? (i := 162) (by decide +kernel))) (by decide +kernel)
theorem im_X12_defendant : Cond.instanceMethod yX12_defendant ∈ Tb := inTb (tb_8 (List.mem_of_getElem? (i := 163) (by decide +kernel))) (by decide +kernel)
theorem se_X12_defendant : Cond.selects "ButtonRegistry" yX12_defendant yX12_defendant ∈ Tb := inTb (tb_8 (List.mem_of_getElem? (i := 164) (by decide +kernel))) (by decide +kernel)
theorem ml_L_114 : Cond.methodLink "ButtonRegistryLaw" 114 yX12_distance ∈ Tb := inTb (tb_8 (List.mem_of_getElem? (i := 81) (by decide +kernel))) (by decide +kernel)
theorem im_X12_distance : Cond.instanceMethod yX12_distance ∈ Tb := inTb (tb_8 (List.mem_of_getElem? (i := 82) (by decide +kernel))) (by decide +kernel)
theorem se_X12_distance : Cond.selects "ButtonRegistry" yX12_distance yX12_distance ∈ Tb := inTb (tb_8 (List.mem_of_getElem? (i := 83) (by decide +kernel))) (by decide +kernel)
theorem ml_L_82 : Cond.methodLink "ButtonRegistryLaw" 82 yX12_duration ∈ Tb := inTb (tb_8 (List.mem_of_getElem? (i := 103) (by decide +kernel))) (by decide +kernel)
theorem im_X12_duration : Cond.instanceMethod yX12_duration ∈ Tb := inTb (tb_8 (List.mem_of_getElem? (i := 104) (by decide +kernel))) (by decide +kernel)
theorem se_X12_duration : Cond.selects "ButtonRegistry" yX12_duration yX12_duration ∈ Tb := inTb (tb_8 (List.mem_of_getElem? (i := 105) (by decide +kernel))) (by decide +kernel)
theorem ml_L_154 : Cond.methodLink "ButtonRegistryLaw" 154 yX12_errorPosition ∈ Tb := inTb (tb_6 (List.mem_of_getElem? (i := 169) (by decide +kernel))) (by decide +kernel)
theorem im_X12_errorPosition : Cond.instanceMethod yX12_errorPosition ∈ Tb := inTb (tb_6 (List.mem_of_getElem? (i := 170) (by decide +kernel))) (by decide +kernel)
theorem se_X12_errorPosition : Cond.selects "ButtonRegistry" yX12_errorPosition yX12_errorPosition ∈ Tb := inTb (tb_6 (List.mem_of_getElem? (i := 171) (by decide +kernel))) (by decide +kernel)
theorem ml_L_157 : Cond.methodLink "ButtonRegistryLaw" 157 yX12_failedCommand ∈ Tb := inTb (tb_8 (List.mem_of_getElem? (i := 171) (by decide +kernel))) (by decide +kernel)
theorem im_X12_failedCommand : Cond.instanceMethod yX12_failedCommand ∈ Tb := inTb (tb_8 (List.mem_of_getElem? (i := 172) (by decide +kernel))) (by decide +kernel)
theorem se_X12_failedCommand : Cond.selects "ButtonRegistry" yX12_failedCommand yX12_failedCommand ∈ Tb := inTb (tb_8 (List.mem_of_getElem? (i := 173) (by decide +kernel))) (by decide +kernel)
theorem ml_L_39 : Cond.methodLink "ButtonRegistryLaw" 39 yX12_fileCase ∈ Tb := inTb (tb_6 (List.mem_of_getElem? (i := 223) (by decide +kernel))) (by decide +kernel)
theorem im_X12_fileCase : Cond.instanceMethod yX12_fileCase ∈ Tb := inTb (tb_6 (List.mem_of_getElem? (i := 224) (by decide +kernel))) (by decide +kernel)
theorem se_X12_fileCase : Cond.selects "ButtonRegistry" yX12_fileCase yX12_fileCase ∈ Tb := inTb (tb_6 (List.mem_of_getElem? (i := 225) (by decide +kernel))) (by decide +kernel)
theorem ml_L_186 : Cond.methodLink "ButtonRegistryLaw" 186 yL_types ∈ Tb := inTb (tb_6 (List.mem_of_getElem? (i := 215) (by decide +kernel))) (by decide +kernel)
theorem st_L_types : Cond.static yL_types ∈ Tb := inTb (tb_6 (List.mem_of_getElem? (i := 216) (by decide +kernel))) (by decide +kernel)
theorem ml_L_190 : Cond.methodLink "ButtonRegistryLaw" 190 yL_fileCase ∈ Tb := inTb (tb_6 (List.mem_of_getElem? (i := 220) (by decide +kernel))) (by decide +kernel)
theorem st_L_fileCase : Cond.static yL_fileCase ∈ Tb := inTb (tb_6 (List.mem_of_getElem? (i := 221) (by decide +kernel))) (by decide +kernel)
theorem ml_L_55 : Cond.methodLink "ButtonRegistryLaw" 55 yX12_give ∈ Tb := inTb (tb_8 (List.mem_of_getElem? (i := 39) (by decide +kernel))) (by decide +kernel)
theorem im_X12_give : Cond.instanceMethod yX12_give ∈ Tb := inTb (tb_8 (List.mem_of_getElem? (i := 40) (by decide +kernel))) (by decide +kernel)
theorem se_X12_give : Cond.selects "ButtonRegistry" yX12_give yX12_give ∈ Tb := inTb (tb_8 (List.mem_of_getElem? (i := 41) (by decide +kernel))) (by decide +kernel)
theorem ml_L_43 : Cond.methodLink "ButtonRegistryLaw" 43 yX12_hear ∈ Tb := inTb (tb_4 (List.mem_of_getElem? (i := 147) (by decide +kernel))) (by decide +kernel)
theorem im_X12_hear : Cond.instanceMethod yX12_hear ∈ Tb := inTb (tb_4 (List.mem_of_getElem? (i := 148) (by decide +kernel))) (by decide +kernel)
theorem se_X12_hear : Cond.selects "ButtonRegistry" yX12_hear yX12_hear ∈ Tb := inTb (tb_4 (List.mem_of_getElem? (i := 149) (by decide +kernel))) (by decide +kernel)
theorem ml_L_223 : Cond.methodLink "ButtonRegistryLaw" 223 yL_at ∈ Tb := inTb (tb_3 (List.mem_of_getElem? (i := 174) (by decide +kernel))) (by decide +kernel)
theorem st_L_at : Cond.static yL_at ∈ Tb := inTb (tb_3 (List.mem_of_getElem? (i := 175) (by decide +kernel))) (by decide +kernel)
theorem ml_L_92 : Cond.methodLink "ButtonRegistryLaw" 92 yX12_matterLength ∈ Tb := inTb (tb_8 (List.mem_of_getElem? (i := 74) (by decide +kernel))) (by decide +kernel)
theorem im_X12_matterLength : Cond.instanceMethod yX12_matterLength ∈ Tb := inTb (tb_8 (List.mem_of_getElem? (i := 75) (by decide +kernel))) (by decide +kernel)
theorem se_X12_matterLength : Cond.selects "ButtonRegistry" yX12_matterLength yX12_matterLength ∈ Tb := inTb (tb_8 (List.mem_of_getElem? (i := 76) (by decide +kernel))) (by decide +kernel)
theorem ml_L_95 : Cond.methodLink "ButtonRegistryLaw" 95 yX12_matterLetter ∈ Tb := inTb (tb_8 (List.mem_of_getElem? (i := 65) (by decide +kernel))) (by decide +kernel)
theorem im_X12_matterLetter : Cond.instanceMethod yX12_matterLetter ∈ Tb := inTb (tb_8 (List.mem_of_getElem? (i := 66) (by decide +kernel))) (by decide +kernel)
theorem se_X12_matterLetter : Cond.selects "ButtonRegistry" yX12_matterLetter yX12_matterLetter ∈ Tb := inTb (tb_8 (List.mem_of_getElem? (i := 67) (by decide +kernel))) (by decide +kernel)
theorem ml_L_126 : Cond.methodLink "ButtonRegistryLaw" 126 yX12_meanClaim ∈ Tb := inTb (tb_7 (List.mem_of_getElem? (i := 43) (by decide +kernel))) (by decide +kernel)
theorem im_X12_meanClaim : Cond.instanceMethod yX12_meanClaim ∈ Tb := inTb (tb_7 (List.mem_of_getElem? (i := 44) (by decide +kernel))) (by decide +kernel)
theorem se_X12_meanClaim : Cond.selects "ButtonRegistry" yX12_meanClaim yX12_meanClaim ∈ Tb := inTb (tb_7 (List.mem_of_getElem? (i := 45) (by decide +kernel))) (by decide +kernel)
theorem cn_L_132 : Cond.constantDouble "ButtonRegistryLaw" 132 (13875388141788987392 : UInt64) ∈ Tb := inTb (tb_7 (List.mem_of_getElem? (i := 50) (by decide +kernel))) (by decide +kernel)
theorem ml_L_108 : Cond.methodLink "ButtonRegistryLaw" 108 yX12_nearestPrecedent ∈ Tb := inTb (tb_8 (List.mem_of_getElem? (i := 11) (by decide +kernel))) (by decide +kernel)
theorem im_X12_nearestPrecedent : Cond.instanceMethod yX12_nearestPrecedent ∈ Tb := inTb (tb_8 (List.mem_of_getElem? (i := 12) (by decide +kernel))) (by decide +kernel)
theorem se_X12_nearestPrecedent : Cond.selects "ButtonRegistry" yX12_nearestPrecedent yX12_nearestPrecedent ∈ Tb := inTb (tb_8 (List.mem_of_getElem? (i := 13) (by decide +kernel))) (by decide +kernel)
theorem ml_L_145 : Cond.methodLink "ButtonRegistryLaw" 145 yX12_outputAt ∈ Tb := inTb (tb_7 (List.mem_of_getElem? (i := 167) (by decide +kernel))) (by decide +kernel)
theorem im_X12_outputAt : Cond.instanceMethod yX12_outputAt ∈ Tb := inTb (tb_7 (List.mem_of_getElem? (i := 168) (by decide +kernel))) (by decide +kernel)
theorem se_X12_outputAt : Cond.selects "ButtonRegistry" yX12_outputAt yX12_outputAt ∈ Tb := inTb (tb_7 (List.mem_of_getElem? (i := 169) (by decide +kernel))) (by decide +kernel)
theorem ml_L_58 : Cond.methodLink "ButtonRegistryLaw" 58 yX12_passDays ∈ Tb := inTb (tb_5 (List.mem_of_getElem? (i := 156) (by decide +kernel))) (by decide +kernel)
theorem im_X12_passDays : Cond.instanceMethod yX12_passDays ∈ Tb := inTb (tb_5 (List.mem_of_getElem? (i := 157) (by decide +kernel))) (by decide +kernel)
theorem se_X12_passDays : Cond.selects "ButtonRegistry" yX12_passDays yX12_passDays ∈ Tb := inTb (tb_5 (List.mem_of_getElem? (i := 158) (by decide +kernel))) (by decide +kernel)
theorem ml_L_111 : Cond.methodLink "ButtonRegistryLaw" 111 yX12_precedentPercentage ∈ Tb := inTb (tb_7 (List.mem_of_getElem? (i := 207) (by decide +kernel))) (by decide +kernel)
theorem im_X12_precedentPercentage : Cond.instanceMethod yX12_precedentPercentage ∈ Tb := inTb (tb_7 (List.mem_of_getElem? (i := 208) (by decide +kernel))) (by decide +kernel)
theorem se_X12_precedentPercentage : Cond.selects "ButtonRegistry" yX12_precedentPercentage yX12_precedentPercentage ∈ Tb := inTb (tb_7 (List.mem_of_getElem? (i := 209) (by decide +kernel))) (by decide +kernel)
theorem ml_L_99 : Cond.methodLink "ButtonRegistryLaw" 99 yX12_percentage ∈ Tb := inTb (tb_5 (List.mem_of_getElem? (i := 192) (by decide +kernel))) (by decide +kernel)
theorem im_X12_percentage : Cond.instanceMethod yX12_percentage ∈ Tb := inTb (tb_5 (List.mem_of_getElem? (i := 193) (by decide +kernel))) (by decide +kernel)
theorem se_X12_percentage : Cond.selects "ButtonRegistry" yX12_percentage yX12_percentage ∈ Tb := inTb (tb_5 (List.mem_of_getElem? (i := 194) (by decide +kernel))) (by decide +kernel)
theorem ml_L_73 : Cond.methodLink "ButtonRegistryLaw" 73 yX12_plaintiff ∈ Tb := inTb (tb_8 (List.mem_of_getElem? (i := 155) (by decide +kernel))) (by decide +kernel)
theorem im_X12_plaintiff : Cond.instanceMethod yX12_plaintiff ∈ Tb := inTb (tb_8 (List.mem_of_getElem? (i := 156) (by decide +kernel))) (by decide +kernel)
theorem se_X12_plaintiff : Cond.selects "ButtonRegistry" yX12_plaintiff yX12_plaintiff ∈ Tb := inTb (tb_8 (List.mem_of_getElem? (i := 157) (by decide +kernel))) (by decide +kernel)
theorem ml_L_142 : Cond.methodLink "ButtonRegistryLaw" 142 yX12_renderBonds ∈ Tb := inTb (tb_7 (List.mem_of_getElem? (i := 158) (by decide +kernel))) (by decide +kernel)
theorem im_X12_renderBonds : Cond.instanceMethod yX12_renderBonds ∈ Tb := inTb (tb_7 (List.mem_of_getElem? (i := 159) (by decide +kernel))) (by decide +kernel)
theorem se_X12_renderBonds : Cond.selects "ButtonRegistry" yX12_renderBonds yX12_renderBonds ∈ Tb := inTb (tb_7 (List.mem_of_getElem? (i := 160) (by decide +kernel))) (by decide +kernel)
theorem ml_L_139 : Cond.methodLink "ButtonRegistryLaw" 139 yX12_renderCase ∈ Tb := inTb (tb_7 (List.mem_of_getElem? (i := 228) (by decide +kernel))) (by decide +kernel)
theorem im_X12_renderCase : Cond.instanceMethod yX12_renderCase ∈ Tb := inTb (tb_7 (List.mem_of_getElem? (i := 229) (by decide +kernel))) (by decide +kernel)
theorem se_X12_renderCase : Cond.selects "ButtonRegistry" yX12_renderCase yX12_renderCase ∈ Tb := inTb (tb_7 (List.mem_of_getElem? (i := 230) (by decide +kernel))) (by decide +kernel)
theorem ml_L_163 : Cond.methodLink "ButtonRegistryLaw" 163 yX12_restore ∈ Tb := inTb (tb_6 (List.mem_of_getElem? (i := 186) (by decide +kernel))) (by decide +kernel)
theorem im_X12_restore : Cond.instanceMethod yX12_restore ∈ Tb := inTb (tb_6 (List.mem_of_getElem? (i := 187) (by decide +kernel))) (by decide +kernel)
theorem se_X12_restore : Cond.selects "ButtonRegistry" yX12_restore yX12_restore ∈ Tb := inTb (tb_6 (List.mem_of_getElem? (i := 188) (by decide +kernel))) (by decide +kernel)
theorem ml_L_134 : Cond.methodLink "ButtonRegistryLaw" 134 yX12_ruledShare ∈ Tb := inTb (tb_7 (List.mem_of_getElem? (i := 64) (by decide +kernel))) (by decide +kernel)
theorem im_X12_ruledShare : Cond.instanceMethod yX12_ruledShare ∈ Tb := inTb (tb_7 (List.mem_of_getElem? (i := 65) (by decide +kernel))) (by decide +kernel)
theorem se_X12_ruledShare : Cond.selects "ButtonRegistry" yX12_ruledShare yX12_ruledShare ∈ Tb := inTb (tb_7 (List.mem_of_getElem? (i := 66) (by decide +kernel))) (by decide +kernel)
theorem cn_L_138 : Cond.constantFloat "ButtonRegistryLaw" 138 (3296346112 : UInt32) ∈ Tb := inTb (tb_7 (List.mem_of_getElem? (i := 68) (by decide +kernel))) (by decide +kernel)
theorem ml_L_193 : Cond.methodLink "ButtonRegistryLaw" 193 yL_addPrecedent ∈ Tb := inTb (tb_6 (List.mem_of_getElem? (i := 231) (by decide +kernel))) (by decide +kernel)
theorem st_L_addPrecedent : Cond.static yL_addPrecedent ∈ Tb := inTb (tb_6 (List.mem_of_getElem? (i := 232) (by decide +kernel))) (by decide +kernel)
theorem ml_L_151 : Cond.methodLink "ButtonRegistryLaw" 151 yX12_runScript ∈ Tb := inTb (tb_5 (List.mem_of_getElem? (i := 220) (by decide +kernel))) (by decide +kernel)
theorem im_X12_runScript : Cond.instanceMethod yX12_runScript ∈ Tb := inTb (tb_5 (List.mem_of_getElem? (i := 221) (by decide +kernel))) (by decide +kernel)
theorem se_X12_runScript : Cond.selects "ButtonRegistry" yX12_runScript yX12_runScript ∈ Tb := inTb (tb_5 (List.mem_of_getElem? (i := 222) (by decide +kernel))) (by decide +kernel)
theorem ml_L_173 : Cond.methodLink "ButtonRegistryLaw" 173 yJ0_length_8abf5 ∈ Tb := inTb (tb_6 (List.mem_of_getElem? (i := 218) (by decide +kernel))) (by decide +kernel)
theorem ml_L_178 : Cond.methodLink "ButtonRegistryLaw" 178 yJ0_charAt_5068e ∈ Tb := inTb (tb_6 (List.mem_of_getElem? (i := 219) (by decide +kernel))) (by decide +kernel)
theorem im_J0_charAt_5068e : Cond.instanceMethod yJ0_charAt_5068e ∈ Tb := inTb (tb_5 (List.mem_of_getElem? (i := 51) (by decide +kernel))) (by decide +kernel)
theorem se_J0_charAt_5068e : Cond.selects "java/lang/String" yJ0_charAt_5068e yJ0_charAt_5068e ∈ Tb := inTb (tb_5 (List.mem_of_getElem? (i := 52) (by decide +kernel))) (by decide +kernel)
theorem ml_L_196 : Cond.methodLink "ButtonRegistryLaw" 196 yL_type ∈ Tb := inTb (tb_5 (List.mem_of_getElem? (i := 208) (by decide +kernel))) (by decide +kernel)
theorem st_L_type : Cond.static yL_type ∈ Tb := inTb (tb_5 (List.mem_of_getElem? (i := 209) (by decide +kernel))) (by decide +kernel)
theorem ml_L_198 : Cond.methodLink "ButtonRegistryLaw" 198 yL_run ∈ Tb := inTb (tb_5 (List.mem_of_getElem? (i := 217) (by decide +kernel))) (by decide +kernel)
theorem st_L_run : Cond.static yL_run ∈ Tb := inTb (tb_5 (List.mem_of_getElem? (i := 218) (by decide +kernel))) (by decide +kernel)
theorem ml_L_15 : Cond.methodLink "ButtonRegistryLaw" 15 yX12_setBond ∈ Tb := inTb (tb_7 (List.mem_of_getElem? (i := 8) (by decide +kernel))) (by decide +kernel)
theorem im_X12_setBond : Cond.instanceMethod yX12_setBond ∈ Tb := inTb (tb_7 (List.mem_of_getElem? (i := 9) (by decide +kernel))) (by decide +kernel)
theorem se_X12_setBond : Cond.selects "ButtonRegistry" yX12_setBond yX12_setBond ∈ Tb := inTb (tb_7 (List.mem_of_getElem? (i := 10) (by decide +kernel))) (by decide +kernel)
theorem ml_L_88 : Cond.methodLink "ButtonRegistryLaw" 88 yX12_state ∈ Tb := inTb (tb_5 (List.mem_of_getElem? (i := 185) (by decide +kernel))) (by decide +kernel)
theorem im_X12_state : Cond.instanceMethod yX12_state ∈ Tb := inTb (tb_5 (List.mem_of_getElem? (i := 186) (by decide +kernel))) (by decide +kernel)
theorem se_X12_state : Cond.selects "ButtonRegistry" yX12_state yX12_state ∈ Tb := inTb (tb_5 (List.mem_of_getElem? (i := 187) (by decide +kernel))) (by decide +kernel)
theorem ml_L_64 : Cond.methodLink "ButtonRegistryLaw" 64 yX12_strain ∈ Tb := inTb (tb_8 (List.mem_of_getElem? (i := 125) (by decide +kernel))) (by decide +kernel)
theorem im_X12_strain : Cond.instanceMethod yX12_strain ∈ Tb := inTb (tb_8 (List.mem_of_getElem? (i := 126) (by decide +kernel))) (by decide +kernel)
theorem se_X12_strain : Cond.selects "ButtonRegistry" yX12_strain yX12_strain ∈ Tb := inTb (tb_8 (List.mem_of_getElem? (i := 127) (by decide +kernel))) (by decide +kernel)
theorem ml_L_67 : Cond.methodLink "ButtonRegistryLaw" 67 yX12_strainByTable ∈ Tb := inTb (tb_8 (List.mem_of_getElem? (i := 138) (by decide +kernel))) (by decide +kernel)
theorem im_X12_strainByTable : Cond.instanceMethod yX12_strainByTable ∈ Tb := inTb (tb_8 (List.mem_of_getElem? (i := 139) (by decide +kernel))) (by decide +kernel)
theorem se_X12_strainByTable : Cond.selects "ButtonRegistry" yX12_strainByTable yX12_strainByTable ∈ Tb := inTb (tb_8 (List.mem_of_getElem? (i := 140) (by decide +kernel))) (by decide +kernel)
theorem ml_L_61 : Cond.methodLink "ButtonRegistryLaw" 61 yX12_tension ∈ Tb := inTb (tb_8 (List.mem_of_getElem? (i := 117) (by decide +kernel))) (by decide +kernel)
theorem im_X12_tension : Cond.instanceMethod yX12_tension ∈ Tb := inTb (tb_8 (List.mem_of_getElem? (i := 118) (by decide +kernel))) (by decide +kernel)
theorem se_X12_tension : Cond.selects "ButtonRegistry" yX12_tension yX12_tension ∈ Tb := inTb (tb_8 (List.mem_of_getElem? (i := 119) (by decide +kernel))) (by decide +kernel)
theorem ml_L_338 : Cond.methodLink "ButtonRegistryLaw" 338 yL_asks ∈ Tb := inTb (tb_7 (List.mem_of_getElem? (i := 22) (by decide +kernel))) (by decide +kernel)
theorem st_L_asks : Cond.static yL_asks ∈ Tb := inTb (tb_7 (List.mem_of_getElem? (i := 23) (by decide +kernel))) (by decide +kernel)
theorem ml_L_181 : Cond.methodLink "ButtonRegistryLaw" 181 yL_typeLetter ∈ Tb := inTb (tb_4 (List.mem_of_getElem? (i := 109) (by decide +kernel))) (by decide +kernel)
theorem st_L_typeLetter : Cond.static yL_typeLetter ∈ Tb := inTb (tb_4 (List.mem_of_getElem? (i := 110) (by decide +kernel))) (by decide +kernel)
theorem ml_L_342 : Cond.methodLink "ButtonRegistryLaw" 342 yL_balance ∈ Tb := inTb (tb_6 (List.mem_of_getElem? (i := 195) (by decide +kernel))) (by decide +kernel)
theorem st_L_balance : Cond.static yL_balance ∈ Tb := inTb (tb_6 (List.mem_of_getElem? (i := 196) (by decide +kernel))) (by decide +kernel)
theorem ml_L_344 : Cond.methodLink "ButtonRegistryLaw" 344 yJ9_max_7cf53 ∈ Tb := inTb (tb_8 (List.mem_of_getElem? (i := 54) (by decide +kernel))) (by decide +kernel)
theorem ml_L_170 : Cond.methodLink "ButtonRegistryLaw" 170 yX12_clearWord ∈ Tb := inTb (tb_2 (List.mem_of_getElem? (i := 35) (by decide +kernel))) (by decide +kernel)
theorem im_X12_clearWord : Cond.instanceMethod yX12_clearWord ∈ Tb := inTb (tb_2 (List.mem_of_getElem? (i := 36) (by decide +kernel))) (by decide +kernel)
theorem se_X12_clearWord : Cond.selects "ButtonRegistry" yX12_clearWord yX12_clearWord ∈ Tb := inTb (tb_2 (List.mem_of_getElem? (i := 37) (by decide +kernel))) (by decide +kernel)
theorem ml_L_349 : Cond.methodLink "ButtonRegistryLaw" 349 yL_state ∈ Tb := inTb (tb_5 (List.mem_of_getElem? (i := 182) (by decide +kernel))) (by decide +kernel)
theorem st_L_state : Cond.static yL_state ∈ Tb := inTb (tb_5 (List.mem_of_getElem? (i := 183) (by decide +kernel))) (by decide +kernel)
theorem ml_L_351 : Cond.methodLink "ButtonRegistryLaw" 351 yL_award ∈ Tb := inTb (tb_8 (List.mem_of_getElem? (i := 55) (by decide +kernel))) (by decide +kernel)
theorem st_L_award : Cond.static yL_award ∈ Tb := inTb (tb_8 (List.mem_of_getElem? (i := 56) (by decide +kernel))) (by decide +kernel)
theorem ml_L_353 : Cond.methodLink "ButtonRegistryLaw" 353 yL_matterLetter ∈ Tb := inTb (tb_8 (List.mem_of_getElem? (i := 62) (by decide +kernel))) (by decide +kernel)
theorem st_L_matterLetter : Cond.static yL_matterLetter ∈ Tb := inTb (tb_8 (List.mem_of_getElem? (i := 63) (by decide +kernel))) (by decide +kernel)
theorem ml_L_355 : Cond.methodLink "ButtonRegistryLaw" 355 yL_matterLength ∈ Tb := inTb (tb_8 (List.mem_of_getElem? (i := 71) (by decide +kernel))) (by decide +kernel)
theorem st_L_matterLength : Cond.static yL_matterLength ∈ Tb := inTb (tb_8 (List.mem_of_getElem? (i := 72) (by decide +kernel))) (by decide +kernel)
theorem ml_L_357 : Cond.methodLink "ButtonRegistryLaw" 357 yL_distance ∈ Tb := inTb (tb_8 (List.mem_of_getElem? (i := 78) (by decide +kernel))) (by decide +kernel)
theorem st_L_distance : Cond.static yL_distance ∈ Tb := inTb (tb_8 (List.mem_of_getElem? (i := 79) (by decide +kernel))) (by decide +kernel)
theorem ml_L_359 : Cond.methodLink "ButtonRegistryLaw" 359 yL_byEnds ∈ Tb := inTb (tb_8 (List.mem_of_getElem? (i := 86) (by decide +kernel))) (by decide +kernel)
theorem st_L_byEnds : Cond.static yL_byEnds ∈ Tb := inTb (tb_8 (List.mem_of_getElem? (i := 87) (by decide +kernel))) (by decide +kernel)
theorem ml_L_362 : Cond.methodLink "ButtonRegistryLaw" 362 yL_duration ∈ Tb := inTb (tb_8 (List.mem_of_getElem? (i := 100) (by decide +kernel))) (by decide +kernel)
theorem st_L_duration : Cond.static yL_duration ∈ Tb := inTb (tb_8 (List.mem_of_getElem? (i := 101) (by decide +kernel))) (by decide +kernel)
theorem ml_L_364 : Cond.methodLink "ButtonRegistryLaw" 364 yL_deadline ∈ Tb := inTb (tb_8 (List.mem_of_getElem? (i := 107) (by decide +kernel))) (by decide +kernel)
theorem st_L_deadline : Cond.static yL_deadline ∈ Tb := inTb (tb_8 (List.mem_of_getElem? (i := 108) (by decide +kernel))) (by decide +kernel)
theorem ml_L_366 : Cond.methodLink "ButtonRegistryLaw" 366 yL_tension ∈ Tb := inTb (tb_8 (List.mem_of_getElem? (i := 114) (by decide +kernel))) (by decide +kernel)
theorem st_L_tension : Cond.static yL_tension ∈ Tb := inTb (tb_8 (List.mem_of_getElem? (i := 115) (by decide +kernel))) (by decide +kernel)
theorem ml_L_368 : Cond.methodLink "ButtonRegistryLaw" 368 yL_strain ∈ Tb := inTb (tb_8 (List.mem_of_getElem? (i := 122) (by decide +kernel))) (by decide +kernel)
theorem st_L_strain : Cond.static yL_strain ∈ Tb := inTb (tb_8 (List.mem_of_getElem? (i := 123) (by decide +kernel))) (by decide +kernel)
theorem ml_L_370 : Cond.methodLink "ButtonRegistryLaw" 370 yL_strainByTable ∈ Tb := inTb (tb_8 (List.mem_of_getElem? (i := 135) (by decide +kernel))) (by decide +kernel)
theorem st_L_strainByTable : Cond.static yL_strainByTable ∈ Tb := inTb (tb_8 (List.mem_of_getElem? (i := 136) (by decide +kernel))) (by decide +kernel)
theorem ml_L_372 : Cond.methodLink "ButtonRegistryLaw" 372 yL_plaintiff ∈ Tb := inTb (tb_8 (List.mem_of_getElem? (i := 152) (by decide +kernel))) (by decide +kernel)
theorem st_L_plaintiff : Cond.static yL_plaintiff ∈ Tb := inTb (tb_8 (List.mem_of_getElem? (i := 153) (by decide +kernel))) (by decide +kernel)
theorem ml_L_374 : Cond.methodLink "ButtonRegistryLaw" 374 yL_defendant ∈ Tb := inTb (tb_8 (List.mem_of_getElem? (i := 159) (by decide +kernel))) (by decide +kernel)
theorem st_L_defendant : Cond.static yL_defendant ∈ Tb := inTb (tb_8 (List.mem_of_getElem? (i := 160) (by decide +kernel))) (by decide +kernel)
theorem ml_L_376 : Cond.methodLink "ButtonRegistryLaw" 376 yL_claim ∈ Tb := inTb (tb_5 (List.mem_of_getElem? (i := 167) (by decide +kernel))) (by decide +kernel)
theorem st_L_claim : Cond.static yL_claim ∈ Tb := inTb (tb_5 (List.mem_of_getElem? (i := 168) (by decide +kernel))) (by decide +kernel)
theorem ml_L_380 : Cond.methodLink "ButtonRegistryLaw" 380 yL_errorPosition ∈ Tb := inTb (tb_6 (List.mem_of_getElem? (i := 166) (by decide +kernel))) (by decide +kernel)
theorem st_L_errorPosition : Cond.static yL_errorPosition ∈ Tb := inTb (tb_6 (List.mem_of_getElem? (i := 167) (by decide +kernel))) (by decide +kernel)
theorem ml_L_384 : Cond.methodLink "ButtonRegistryLaw" 384 yL_failedCommand ∈ Tb := inTb (tb_8 (List.mem_of_getElem? (i := 168) (by decide +kernel))) (by decide +kernel)
theorem st_L_failedCommand : Cond.static yL_failedCommand ∈ Tb := inTb (tb_8 (List.mem_of_getElem? (i := 169) (by decide +kernel))) (by decide +kernel)
theorem ml_L_148 : Cond.methodLink "ButtonRegistryLaw" 148 yX12_type ∈ Tb := inTb (tb_5 (List.mem_of_getElem? (i := 211) (by decide +kernel))) (by decide +kernel)
theorem im_X12_type : Cond.instanceMethod yX12_type ∈ Tb := inTb (tb_5 (List.mem_of_getElem? (i := 212) (by decide +kernel))) (by decide +kernel)
theorem se_X12_type : Cond.selects "ButtonRegistry" yX12_type yX12_type ∈ Tb := inTb (tb_5 (List.mem_of_getElem? (i := 213) (by decide +kernel))) (by decide +kernel)
theorem ml_L_29 : Cond.methodLink "ButtonRegistryLaw" 29 yX12_typeLetter ∈ Tb := inTb (tb_4 (List.mem_of_getElem? (i := 113) (by decide +kernel))) (by decide +kernel)
theorem im_X12_typeLetter : Cond.instanceMethod yX12_typeLetter ∈ Tb := inTb (tb_4 (List.mem_of_getElem? (i := 114) (by decide +kernel))) (by decide +kernel)
theorem se_X12_typeLetter : Cond.selects "ButtonRegistry" yX12_typeLetter yX12_typeLetter ∈ Tb := inTb (tb_4 (List.mem_of_getElem? (i := 115) (by decide +kernel))) (by decide +kernel)
theorem ml_L_160 : Cond.methodLink "ButtonRegistryLaw" 160 yX12_undo ∈ Tb := inTb (tb_6 (List.mem_of_getElem? (i := 177) (by decide +kernel))) (by decide +kernel)
theorem im_X12_undo : Cond.instanceMethod yX12_undo ∈ Tb := inTb (tb_6 (List.mem_of_getElem? (i := 178) (by decide +kernel))) (by decide +kernel)
theorem se_X12_undo : Cond.selects "ButtonRegistry" yX12_undo yX12_undo ∈ Tb := inTb (tb_6 (List.mem_of_getElem? (i := 179) (by decide +kernel))) (by decide +kernel)
theorem ml_L_49 : Cond.methodLink "ButtonRegistryLaw" 49 yX12_withdraw ∈ Tb := inTb (tb_5 (List.mem_of_getElem? (i := 144) (by decide +kernel))) (by decide +kernel)
theorem im_X12_withdraw : Cond.instanceMethod yX12_withdraw ∈ Tb := inTb (tb_5 (List.mem_of_getElem? (i := 145) (by decide +kernel))) (by decide +kernel)
theorem se_X12_withdraw : Cond.selects "ButtonRegistry" yX12_withdraw yX12_withdraw ∈ Tb := inTb (tb_5 (List.mem_of_getElem? (i := 146) (by decide +kernel))) (by decide +kernel)
theorem ml_L_216 : Cond.methodLink "ButtonRegistryLaw" 216 yJ4_append_cf468 ∈ Tb := inTb (tb_7 (List.mem_of_getElem? (i := 20) (by decide +kernel))) (by decide +kernel)
theorem im_J4_append_cf468 : Cond.instanceMethod yJ4_append_cf468 ∈ Tb := inTb (tb_4 (List.mem_of_getElem? (i := 123) (by decide +kernel))) (by decide +kernel)
theorem se_J4_append_cf468 : Cond.selects "java/lang/StringBuilder" yJ4_append_cf468 yJ4_append_cf468 ∈ Tb := inTb (tb_4 (List.mem_of_getElem? (i := 124) (by decide +kernel))) (by decide +kernel)
theorem ml_X10_28 : Cond.methodLink "ButtonRegistry$Threads" 28 yX10_separateAll ∈ Tb := inTb (tb_5 (List.mem_of_getElem? (i := 16) (by decide +kernel))) (by decide +kernel)
theorem im_X10_separateAll : Cond.instanceMethod yX10_separateAll ∈ Tb := inTb (tb_5 (List.mem_of_getElem? (i := 18) (by decide +kernel))) (by decide +kernel)
theorem se_X10_separateAll : Cond.selects "ButtonRegistry$Threads" yX10_separateAll yX10_separateAll ∈ Tb := inTb (List.mem_of_getElem? (i := 6) (by decide +kernel)) (by decide +kernel)
theorem ml_X10_31 : Cond.methodLink "ButtonRegistry$Threads" 31 yX10_joinBonds ∈ Tb := inTb (tb_5 (List.mem_of_getElem? (i := 20) (by decide +kernel))) (by decide +kernel)
theorem im_X10_joinBonds : Cond.instanceMethod yX10_joinBonds ∈ Tb := inTb (tb_5 (List.mem_of_getElem? (i := 22) (by decide +kernel))) (by decide +kernel)
theorem se_X10_joinBonds : Cond.selects "ButtonRegistry$Threads" yX10_joinBonds yX10_joinBonds ∈ Tb := inTb (List.mem_of_getElem? (i := 7) (by decide +kernel)) (by decide +kernel)
theorem fk_X10_9 : Cond.fieldLink "ButtonRegistry$Threads" 9 "ButtonRegistry$Threads" "groups" "[I" ∈ Tb := inTb (tb_1 (List.mem_of_getElem? (i := 170) (by decide +kernel))) (by decide +kernel)
theorem fl_X10_9 : FL "ButtonRegistry$Threads" 9 14 0 := ⟨_, _, rfl, by decide, fk_X10_9, uw_14, Or.inl rfl⟩
theorem ml_X10_3 : Cond.methodLink "ButtonRegistry$Threads" 3 ⟨"java/lang/Object", "<init>", "()V"⟩ ∈ Tb := inTb (tb_1 (List.mem_of_getElem? (i := 169) (by decide +kernel))) (by decide +kernel)
theorem fp_X10_init_9 : FP kX10_init.1 9 14 0 (.array .int) true := ⟨_, _, tyX10, rfl, by decide, fk_X10_9, uw_14, Or.inl rfl, tyX10_ok, nmX10, rfl, rfl, fun _ => ⟨rfl, rfl⟩⟩
theorem fk_X10_15 : Cond.fieldLink "ButtonRegistry$Threads" 15 "ButtonRegistry$Threads" "strains" "[I" ∈ Tb := inTb (tb_1 (List.mem_of_getElem? (i := 171) (by decide +kernel))) (by decide +kernel)
theorem fp_X10_init_15 : FP kX10_init.1 15 14 1 (.array .int) true := ⟨_, _, tyX10, rfl, by decide, fk_X10_15, uw_14, Or.inl rfl, tyX10_ok, nmX10, rfl, rfl, fun _ => ⟨rfl, rfl⟩⟩
theorem fk_X10_18 : Cond.fieldLink "ButtonRegistry$Threads" 18 "ButtonRegistry$Threads" "inTree" "[Z" ∈ Tb := inTb (tb_1 (List.mem_of_getElem? (i := 172) (by decide +kernel))) (by decide +kernel)
theorem fp_X10_init_18 : FP kX10_init.1 18 14 2 (.array .boolean) true := ⟨_, _, tyX10, rfl, by decide, fk_X10_18, uw_14, Or.inl rfl, tyX10_ok, nmX10, rfl, rfl, fun _ => ⟨rfl, rfl⟩⟩
theorem fk_X10_39 : Cond.fieldLink "ButtonRegistry$Threads" 39 "ButtonRegistry$State" "buttons" "I" ∈ Tb := inTb (tb_1 (List.mem_of_getElem? (i := 95) (by decide +kernel))) (by decide +kernel)
theorem fl_X10_39 : FL "ButtonRegistry$Threads" 39 13 4 := ⟨_, _, rfl, by decide, fk_X10_39, uw_13, Or.inl rfl⟩
theorem ml_X10_43 : Cond.methodLink "ButtonRegistry$Threads" 43 yX9_tensionBetween ∈ Tb := inTb (tb_5 (List.mem_of_getElem? (i := 24) (by decide +kernel))) (by decide +kernel)
theorem im_X9_tensionBetween : Cond.instanceMethod yX9_tensionBetween ∈ Tb := inTb (tb_5 (List.mem_of_getElem? (i := 25) (by decide +kernel))) (by decide +kernel)
theorem se_X9_tensionBetween : Cond.selects "ButtonRegistry$State" yX9_tensionBetween yX9_tensionBetween ∈ Tb := inTb (tb_5 (List.mem_of_getElem? (i := 26) (by decide +kernel))) (by decide +kernel)
theorem ml_X10_35 : Cond.methodLink "ButtonRegistry$Threads" 35 yX10_groupOf ∈ Tb := inTb (tb_5 (List.mem_of_getElem? (i := 28) (by decide +kernel))) (by decide +kernel)
theorem im_X10_groupOf : Cond.instanceMethod yX10_groupOf ∈ Tb := inTb (tb_5 (List.mem_of_getElem? (i := 30) (by decide +kernel))) (by decide +kernel)
theorem se_X10_groupOf : Cond.selects "ButtonRegistry$Threads" yX10_groupOf yX10_groupOf ∈ Tb := inTb (List.mem_of_getElem? (i := 8) (by decide +kernel)) (by decide +kernel)
theorem ml_X10_47 : Cond.methodLink "ButtonRegistry$Threads" 47 yX10_joinGroups ∈ Tb := inTb (tb_5 (List.mem_of_getElem? (i := 32) (by decide +kernel))) (by decide +kernel)
theorem im_X10_joinGroups : Cond.instanceMethod yX10_joinGroups ∈ Tb := inTb (tb_5 (List.mem_of_getElem? (i := 34) (by decide +kernel))) (by decide +kernel)
theorem se_X10_joinGroups : Cond.selects "ButtonRegistry$Threads" yX10_joinGroups yX10_joinGroups ∈ Tb := inTb (List.mem_of_getElem? (i := 9) (by decide +kernel)) (by decide +kernel)
theorem fl_X10_15 : FL "ButtonRegistry$Threads" 15 14 1 := ⟨_, _, rfl, by decide, fk_X10_15, uw_14, Or.inl rfl⟩
theorem ml_X10_22 : Cond.methodLink "ButtonRegistry$Threads" 22 yX9_hasButton ∈ Tb := inTb (tb_5 (List.mem_of_getElem? (i := 12) (by decide +kernel))) (by decide +kernel)
theorem im_X9_hasButton : Cond.instanceMethod yX9_hasButton ∈ Tb := inTb (tb_5 (List.mem_of_getElem? (i := 13) (by decide +kernel))) (by decide +kernel)
theorem se_X9_hasButton : Cond.selects "ButtonRegistry$State" yX9_hasButton yX9_hasButton ∈ Tb := inTb (tb_5 (List.mem_of_getElem? (i := 14) (by decide +kernel))) (by decide +kernel)
theorem ml_X10_51 : Cond.methodLink "ButtonRegistry$Threads" 51 yX10_strainAt ∈ Tb := inTb (tb_8 (List.mem_of_getElem? (i := 146) (by decide +kernel))) (by decide +kernel)
theorem im_X10_strainAt : Cond.instanceMethod yX10_strainAt ∈ Tb := inTb (tb_8 (List.mem_of_getElem? (i := 148) (by decide +kernel))) (by decide +kernel)
theorem se_X10_strainAt : Cond.selects "ButtonRegistry$Threads" yX10_strainAt yX10_strainAt ∈ Tb := inTb (List.mem_of_getElem? (i := 36) (by decide +kernel)) (by decide +kernel)
theorem ml_X10_54 : Cond.methodLink "ButtonRegistry$Threads" 54 yJ9_max_7cf53 ∈ Tb := inTb (tb_8 (List.mem_of_getElem? (i := 150) (by decide +kernel))) (by decide +kernel)
theorem ml_X10_59 : Cond.methodLink "ButtonRegistry$Threads" 59 yJ9_min_7cf53 ∈ Tb := inTb (tb_8 (List.mem_of_getElem? (i := 151) (by decide +kernel))) (by decide +kernel)
theorem ml_X12_125 : Cond.methodLink "ButtonRegistry" 125 yX12_refuseFault ∈ Tb := inTb (tb_4 (List.mem_of_getElem? (i := 32) (by decide +kernel))) (by decide +kernel)
theorem st_X12_refuseFault : Cond.static yX12_refuseFault ∈ Tb := inTb (tb_4 (List.mem_of_getElem? (i := 33) (by decide +kernel))) (by decide +kernel)
theorem fk_X12_26 : Cond.fieldLink "ButtonRegistry" 26 "ButtonRegistry" "earlier" "Ljava/util/ArrayList;" ∈ Tb := inTb (tb_2 (List.mem_of_getElem? (i := 1) (by decide +kernel))) (by decide +kernel)
theorem fl_X12_26 : FL "ButtonRegistry" 26 15 3 := ⟨_, _, rfl, by decide, fk_X12_26, uw_15, Or.inl rfl⟩
theorem ml_X12_128 : Cond.methodLink "ButtonRegistry" 128 yJx4a65c_size_8abf5 ∈ Tb := inTb (tb_3 (List.mem_of_getElem? (i := 162) (by decide +kernel))) (by decide +kernel)
theorem im_Jx4a65c_size_8abf5 : Cond.instanceMethod yJx4a65c_size_8abf5 ∈ Tb := inTb (tb_3 (List.mem_of_getElem? (i := 163) (by decide +kernel))) (by decide +kernel)
theorem se_Jx4a65c_size_8abf5 : Cond.selects "java/util/ArrayList" yJx4a65c_size_8abf5 yJx4a65c_size_8abf5 ∈ Tb := inTb (tb_3 (List.mem_of_getElem? (i := 164) (by decide +kernel))) (by decide +kernel)
theorem ml_X12_132 : Cond.methodLink "ButtonRegistry" 132 yJx4a65c_remove_915e3 ∈ Tb := inTb (tb_4 (List.mem_of_getElem? (i := 99) (by decide +kernel))) (by decide +kernel)
theorem im_Jx4a65c_remove_915e3 : Cond.instanceMethod yJx4a65c_remove_915e3 ∈ Tb := inTb (tb_4 (List.mem_of_getElem? (i := 100) (by decide +kernel))) (by decide +kernel)
theorem se_Jx4a65c_remove_915e3 : Cond.selects "java/util/ArrayList" yJx4a65c_remove_915e3 yJx4a65c_remove_915e3 ∈ Tb := inTb (tb_4 (List.mem_of_getElem? (i := 101) (by decide +kernel))) (by decide +kernel)
theorem fk_X12_10 : Cond.fieldLink "ButtonRegistry" 10 "ButtonRegistry" "now" "LButtonRegistry$State;" ∈ Tb := inTb (tb_1 (List.mem_of_getElem? (i := 238) (by decide +kernel))) (by decide +kernel)
theorem fl_X12_10 : FL "ButtonRegistry" 10 15 0 := ⟨_, _, rfl, by decide, fk_X12_10, uw_15, Or.inl rfl⟩
theorem ml_X12_136 : Cond.methodLink "ButtonRegistry" 136 yJx4a65c_add_9ea2d ∈ Tb := inTb (tb_4 (List.mem_of_getElem? (i := 108) (by decide +kernel))) (by decide +kernel)
theorem im_Jx4a65c_add_9ea2d : Cond.instanceMethod yJx4a65c_add_9ea2d ∈ Tb := inTb (tb_3 (List.mem_of_getElem? (i := 209) (by decide +kernel))) (by decide +kernel)
theorem se_Jx4a65c_add_9ea2d : Cond.selects "java/util/ArrayList" yJx4a65c_add_9ea2d yJx4a65c_add_9ea2d ∈ Tb := inTb (tb_3 (List.mem_of_getElem? (i := 210) (by decide +kernel))) (by decide +kernel)
theorem fp_X12_accept_10 : FP kX12_accept.1 10 15 0 (.object "ButtonRegistry$State") false := ⟨_, _, tyX12, rfl, by decide, fk_X12_10, uw_15, Or.inl rfl, tyX12_ok, nmX12, rfl, rfl, fun h => by cases h⟩
theorem ml_X12_71 : Cond.methodLink "ButtonRegistry" 71 yX9_copy ∈ Tb := inTb (tb_3 (List.mem_of_getElem? (i := 185) (by decide +kernel))) (by decide +kernel)
theorem im_X9_copy : Cond.instanceMethod yX9_copy ∈ Tb := inTb (tb_3 (List.mem_of_getElem? (i := 186) (by decide +kernel))) (by decide +kernel)
theorem se_X9_copy : Cond.selects "ButtonRegistry$State" yX9_copy yX9_copy ∈ Tb := inTb (tb_3 (List.mem_of_getElem? (i := 187) (by decide +kernel))) (by decide +kernel)
theorem fk_X12_53 : Cond.fieldLink "ButtonRegistry" 53 "ButtonRegistry" "court" "LButtonRegistry$Court;" ∈ Tb := inTb (tb_2 (List.mem_of_getElem? (i := 7) (by decide +kernel))) (by decide +kernel)
theorem fl_X12_53 : FL "ButtonRegistry" 53 15 9 := ⟨_, _, rfl, by decide, fk_X12_53, uw_15, Or.inl rfl⟩
theorem ml_X12_75 : Cond.methodLink "ButtonRegistry" 75 yX2_enterButton ∈ Tb := inTb (tb_4 (List.mem_of_getElem? (i := 24) (by decide +kernel))) (by decide +kernel)
theorem im_X2_enterButton : Cond.instanceMethod yX2_enterButton ∈ Tb := inTb (tb_4 (List.mem_of_getElem? (i := 25) (by decide +kernel))) (by decide +kernel)
theorem se_X2_enterButton : Cond.selects "ButtonRegistry$Court" yX2_enterButton yX2_enterButton ∈ Tb := inTb (tb_4 (List.mem_of_getElem? (i := 26) (by decide +kernel))) (by decide +kernel)
theorem ml_X12_79 : Cond.methodLink "ButtonRegistry" 79 yX12_accept ∈ Tb := inTb (tb_4 (List.mem_of_getElem? (i := 28) (by decide +kernel))) (by decide +kernel)
theorem im_X12_accept : Cond.instanceMethod yX12_accept ∈ Tb := inTb (tb_4 (List.mem_of_getElem? (i := 30) (by decide +kernel))) (by decide +kernel)
theorem se_X12_accept : Cond.selects "ButtonRegistry" yX12_accept yX12_accept ∈ Tb := inTb (List.mem_of_getElem? (i := 4) (by decide +kernel)) (by decide +kernel)
theorem fk_X12_33 : Cond.fieldLink "ButtonRegistry" 33 "ButtonRegistry" "word" "Ljava/lang/StringBuilder;" ∈ Tb := inTb (tb_2 (List.mem_of_getElem? (i := 2) (by decide +kernel))) (by decide +kernel)
theorem fl_X12_33 : FL "ButtonRegistry" 33 15 4 := ⟨_, _, rfl, by decide, fk_X12_33, uw_15, Or.inl rfl⟩
theorem ml_X12_91 : Cond.methodLink "ButtonRegistry" 91 yJ4_toString_0e30d ∈ Tb := inTb (tb_5 (List.mem_of_getElem? (i := 226) (by decide +kernel))) (by decide +kernel)
theorem ml_X12_95 : Cond.methodLink "ButtonRegistry" 95 yX2_enterPrecedent ∈ Tb := inTb (tb_6 (List.mem_of_getElem? (i := 238) (by decide +kernel))) (by decide +kernel)

theorem im_X2_enterPrecedent : Cond.instanceMethod yX2_enterPrecedent ∈ Tb := inTb (tb_6 (List.mem_of_getElem? (i := 146) (by decide +kernel))) (by decide +kernel)
theorem se_X2_enterPrecedent : Cond.selects "ButtonRegistry$Court" yX2_enterPrecedent yX2_enterPrecedent ∈ Tb := inTb (tb_6 (List.mem_of_getElem? (i := 147) (by decide +kernel))) (by decide +kernel)
theorem ml_X12_99 : Cond.methodLink "ButtonRegistry" 99 yJ4_setLength_d00df ∈ Tb := inTb (tb_2 (List.mem_of_getElem? (i := 46) (by decide +kernel))) (by decide +kernel)
theorem im_J4_setLength_d00df : Cond.instanceMethod yJ4_setLength_d00df ∈ Tb := inTb (tb_2 (List.mem_of_getElem? (i := 47) (by decide +kernel))) (by decide +kernel)
theorem se_J4_setLength_d00df : Cond.selects "java/lang/StringBuilder" yJ4_setLength_d00df yJ4_setLength_d00df ∈ Tb := inTb (tb_2 (List.mem_of_getElem? (i := 48) (by decide +kernel))) (by decide +kernel)
theorem ml_X12_110 : Cond.methodLink "ButtonRegistry" 110 yX2_appealCase ∈ Tb := inTb (tb_5 (List.mem_of_getElem? (i := 137) (by decide +kernel))) (by decide +kernel)
theorem im_X2_appealCase : Cond.instanceMethod yX2_appealCase ∈ Tb := inTb (tb_5 (List.mem_of_getElem? (i := 138) (by decide +kernel))) (by decide +kernel)
theorem se_X2_appealCase : Cond.selects "ButtonRegistry$Court" yX2_appealCase yX2_appealCase ∈ Tb := inTb (tb_5 (List.mem_of_getElem? (i := 139) (by decide +kernel))) (by decide +kernel)
theorem ml_X12_287 : Cond.methodLink "ButtonRegistry" 287 yX12_decidedCase ∈ Tb := inTb (tb_5 (List.mem_of_getElem? (i := 196) (by decide +kernel))) (by decide +kernel)
theorem im_X12_decidedCase : Cond.instanceMethod yX12_decidedCase ∈ Tb := inTb (tb_5 (List.mem_of_getElem? (i := 198) (by decide +kernel))) (by decide +kernel)
theorem se_X12_decidedCase : Cond.selects "ButtonRegistry" yX12_decidedCase yX12_decidedCase ∈ Tb := inTb (List.mem_of_getElem? (i := 16) (by decide +kernel)) (by decide +kernel)
theorem fk_X12_293 : Cond.fieldLink "ButtonRegistry" 293 "ButtonRegistry$Case" "award" "I" ∈ Tb := inTb (tb_4 (List.mem_of_getElem? (i := 205) (by decide +kernel))) (by decide +kernel)
theorem fl_X12_293 : FL "ButtonRegistry" 293 5 9 := ⟨_, _, rfl, by decide, fk_X12_293, uw_5, Or.inl rfl⟩
theorem ml_X12_188 : Cond.methodLink "ButtonRegistry" 188 yX12_requireButton ∈ Tb := inTb (tb_6 (List.mem_of_getElem? (i := 205) (by decide +kernel))) (by decide +kernel)
theorem im_X12_requireButton : Cond.instanceMethod yX12_requireButton ∈ Tb := inTb (tb_6 (List.mem_of_getElem? (i := 207) (by decide +kernel))) (by decide +kernel)
theorem se_X12_requireButton : Cond.selects "ButtonRegistry" yX12_requireButton yX12_requireButton ∈ Tb := inTb (List.mem_of_getElem? (i := 24) (by decide +kernel)) (by decide +kernel)
theorem ml_X12_191 : Cond.methodLink "ButtonRegistry" 191 yX9_balanceOf ∈ Tb := inTb (tb_6 (List.mem_of_getElem? (i := 210) (by decide +kernel))) (by decide +kernel)
theorem im_X9_balanceOf : Cond.instanceMethod yX9_balanceOf ∈ Tb := inTb (tb_6 (List.mem_of_getElem? (i := 161) (by decide +kernel))) (by decide +kernel)
theorem se_X9_balanceOf : Cond.selects "ButtonRegistry$State" yX9_balanceOf yX9_balanceOf ∈ Tb := inTb (tb_6 (List.mem_of_getElem? (i := 162) (by decide +kernel))) (by decide +kernel)
theorem fk_X12_60 : Cond.fieldLink "ButtonRegistry" 60 "ButtonRegistry" "docket" "LButtonRegistry$Docket;" ∈ Tb := inTb (tb_2 (List.mem_of_getElem? (i := 8) (by decide +kernel))) (by decide +kernel)
theorem fl_X12_60 : FL "ButtonRegistry" 60 15 10 := ⟨_, _, rfl, by decide, fk_X12_60, uw_15, Or.inl rfl⟩
theorem ml_X12_347 : Cond.methodLink "ButtonRegistry" 347 yX3_byDays ∈ Tb := inTb (tb_7 (List.mem_of_getElem? (i := 83) (by decide +kernel))) (by decide +kernel)
theorem im_X3_byDays : Cond.instanceMethod yX3_byDays ∈ Tb := inTb (tb_7 (List.mem_of_getElem? (i := 84) (by decide +kernel))) (by decide +kernel)
theorem se_X3_byDays : Cond.selects "ButtonRegistry$Docket" yX3_byDays yX3_byDays ∈ Tb := inTb (tb_7 (List.mem_of_getElem? (i := 85) (by decide +kernel))) (by decide +kernel)
theorem fk_X12_185 : Cond.fieldLink "ButtonRegistry" 185 "ButtonRegistry$State" "buttons" "I" ∈ Tb := inTb (tb_1 (List.mem_of_getElem? (i := 96) (by decide +kernel))) (by decide +kernel)
theorem fl_X12_185 : FL "ButtonRegistry" 185 13 4 := ⟨_, _, rfl, by decide, fk_X12_185, uw_13, Or.inl rfl⟩
theorem ml_X12_229 : Cond.methodLink "ButtonRegistry" 229 yX9_buttonsBefore ∈ Tb := inTb (tb_7 (List.mem_of_getElem? (i := 189) (by decide +kernel))) (by decide +kernel)
theorem im_X9_buttonsBefore : Cond.instanceMethod yX9_buttonsBefore ∈ Tb := inTb (tb_7 (List.mem_of_getElem? (i := 190) (by decide +kernel))) (by decide +kernel)
theorem se_X9_buttonsBefore : Cond.selects "ButtonRegistry$State" yX9_buttonsBefore yX9_buttonsBefore ∈ Tb := inTb (tb_7 (List.mem_of_getElem? (i := 191) (by decide +kernel))) (by decide +kernel)
theorem ck_X12_157 : Cond.classLink "ButtonRegistry" 157 "java/util/NoSuchElementException" ∈ Tb := inTb (tb_4 (List.mem_of_getElem? (i := 67) (by decide +kernel))) (by decide +kernel)
theorem ml_X12_161 : Cond.methodLink "ButtonRegistry" 161 ⟨"java/util/NoSuchElementException", "<init>", "(Ljava/lang/String;)V"⟩ ∈ Tb := inTb (tb_4 (List.mem_of_getElem? (i := 77) (by decide +kernel))) (by decide +kernel)
theorem fk_X12_240 : Cond.fieldLink "ButtonRegistry" 240 "ButtonRegistry$State" "cases" "Ljava/util/ArrayList;" ∈ Tb := inTb (tb_1 (List.mem_of_getElem? (i := 88) (by decide +kernel))) (by decide +kernel)
theorem fl_X12_240 : FL "ButtonRegistry" 240 13 2 := ⟨_, _, rfl, by decide, fk_X12_240, uw_13, Or.inl rfl⟩
theorem ck_X12_140 : Cond.classLink "ButtonRegistry" 140 "java/lang/IndexOutOfBoundsException" ∈ Tb := inTb (tb_4 (List.mem_of_getElem? (i := 35) (by decide +kernel))) (by decide +kernel)
theorem ml_X12_144 : Cond.methodLink "ButtonRegistry" 144 ⟨"java/lang/IndexOutOfBoundsException", "<init>", "(Ljava/lang/String;)V"⟩ ∈ Tb := inTb (tb_4 (List.mem_of_getElem? (i := 45) (by decide +kernel))) (by decide +kernel)
theorem ml_X12_245 : Cond.methodLink "ButtonRegistry" 245 yJx4a65c_get_915e3 ∈ Tb := inTb (tb_5 (List.mem_of_getElem? (i := 180) (by decide +kernel))) (by decide +kernel)
theorem im_Jx4a65c_get_915e3 : Cond.instanceMethod yJx4a65c_get_915e3 ∈ Tb := inTb (tb_3 (List.mem_of_getElem? (i := 194) (by decide +kernel))) (by decide +kernel)
theorem se_Jx4a65c_get_915e3 : Cond.selects "java/util/ArrayList" yJx4a65c_get_915e3 yJx4a65c_get_915e3 ∈ Tb := inTb (tb_3 (List.mem_of_getElem? (i := 195) (by decide +kernel))) (by decide +kernel)
theorem ck_X12_248 : Cond.classLink "ButtonRegistry" 248 "ButtonRegistry$Case" ∈ Tb := inTb (tb_5 (List.mem_of_getElem? (i := 181) (by decide +kernel))) (by decide +kernel)
theorem fk_X12_250 : Cond.fieldLink "ButtonRegistry" 250 "ButtonRegistry$Case" "id" "I" ∈ Tb := inTb (tb_4 (List.mem_of_getElem? (i := 174) (by decide +kernel))) (by decide +kernel)
theorem fl_X12_250 : FL "ButtonRegistry" 250 5 0 := ⟨_, _, rfl, by decide, fk_X12_250, uw_5, Or.inl rfl⟩
theorem ml_X12_299 : Cond.methodLink "ButtonRegistry" 299 yX9_casesBefore ∈ Tb := inTb (tb_8 (List.mem_of_getElem? (i := 0) (by decide +kernel))) (by decide +kernel)
theorem im_X9_casesBefore : Cond.instanceMethod yX9_casesBefore ∈ Tb := inTb (tb_8 (List.mem_of_getElem? (i := 1) (by decide +kernel))) (by decide +kernel)
theorem se_X9_casesBefore : Cond.selects "ButtonRegistry$State" yX9_casesBefore yX9_casesBefore ∈ Tb := inTb (tb_8 (List.mem_of_getElem? (i := 2) (by decide +kernel))) (by decide +kernel)
theorem fk_X12_195 : Cond.fieldLink "ButtonRegistry" 195 "ButtonRegistry$State" "chest" "I" ∈ Tb := inTb (tb_1 (List.mem_of_getElem? (i := 99) (by decide +kernel))) (by decide +kernel)
theorem fl_X12_195 : FL "ButtonRegistry" 195 13 5 := ⟨_, _, rfl, by decide, fk_X12_195, uw_13, Or.inl rfl⟩
theorem ml_X12_253 : Cond.methodLink "ButtonRegistry" 253 yX12_existingCase ∈ Tb := inTb (tb_5 (List.mem_of_getElem? (i := 174) (by decide +kernel))) (by decide +kernel)
theorem im_X12_existingCase : Cond.instanceMethod yX12_existingCase ∈ Tb := inTb (tb_5 (List.mem_of_getElem? (i := 176) (by decide +kernel))) (by decide +kernel)
theorem se_X12_existingCase : Cond.selects "ButtonRegistry" yX12_existingCase yX12_existingCase ∈ Tb := inTb (List.mem_of_getElem? (i := 15) (by decide +kernel)) (by decide +kernel)
theorem fk_X12_263 : Cond.fieldLink "ButtonRegistry" 263 "ButtonRegistry$Case" "claim" "I" ∈ Tb := inTb (tb_4 (List.mem_of_getElem? (i := 184) (by decide +kernel))) (by decide +kernel)
theorem fl_X12_263 : FL "ButtonRegistry" 263 5 3 := ⟨_, _, rfl, by decide, fk_X12_263, uw_5, Or.inl rfl⟩
theorem ml_X12_173 : Cond.methodLink "ButtonRegistry" 173 yJ4_length_8abf5 ∈ Tb := inTb (tb_2 (List.mem_of_getElem? (i := 39) (by decide +kernel))) (by decide +kernel)
theorem im_J4_length_8abf5 : Cond.instanceMethod yJ4_length_8abf5 ∈ Tb := inTb (tb_2 (List.mem_of_getElem? (i := 40) (by decide +kernel))) (by decide +kernel)
theorem se_J4_length_8abf5 : Cond.selects "java/lang/StringBuilder" yJ4_length_8abf5 yJ4_length_8abf5 ∈ Tb := inTb (tb_2 (List.mem_of_getElem? (i := 41) (by decide +kernel))) (by decide +kernel)
theorem ml_X12_116 : Cond.methodLink "ButtonRegistry" 116 yX2_closeCase ∈ Tb := inTb (tb_8 (List.mem_of_getElem? (i := 35) (by decide +kernel))) (by decide +kernel)
theorem im_X2_closeCase : Cond.instanceMethod yX2_closeCase ∈ Tb := inTb (tb_6 (List.mem_of_getElem? (i := 153) (by decide +kernel))) (by decide +kernel)
theorem se_X2_closeCase : Cond.selects "ButtonRegistry$Court" yX2_closeCase yX2_closeCase ∈ Tb := inTb (tb_6 (List.mem_of_getElem? (i := 154) (by decide +kernel))) (by decide +kernel)
theorem fk_X12_296 : Cond.fieldLink "ButtonRegistry" 296 "ButtonRegistry$Case" "cost" "I" ∈ Tb := inTb (tb_4 (List.mem_of_getElem? (i := 208) (by decide +kernel))) (by decide +kernel)
theorem fl_X12_296 : FL "ButtonRegistry" 296 5 10 := ⟨_, _, rfl, by decide, fk_X12_296, uw_5, Or.inl rfl⟩
theorem ml_X12_87 : Cond.methodLink "ButtonRegistry" 87 yX2_separateButtons ∈ Tb := inTb (tb_8 (List.mem_of_getElem? (i := 27) (by decide +kernel))) (by decide +kernel)
theorem im_X2_separateButtons : Cond.instanceMethod yX2_separateButtons ∈ Tb := inTb (tb_6 (List.mem_of_getElem? (i := 133) (by decide +kernel))) (by decide +kernel)
theorem se_X2_separateButtons : Cond.selects "ButtonRegistry$Court" yX2_separateButtons yX2_separateButtons ∈ Tb := inTb (tb_6 (List.mem_of_getElem? (i := 134) (by decide +kernel))) (by decide +kernel)
theorem fk_X12_182 : Cond.fieldLink "ButtonRegistry" 182 "ButtonRegistry$State" "today" "I" ∈ Tb := inTb (tb_1 (List.mem_of_getElem? (i := 103) (by decide +kernel))) (by decide +kernel)
theorem fl_X12_182 : FL "ButtonRegistry" 182 13 6 := ⟨_, _, rfl, by decide, fk_X12_182, uw_13, Or.inl rfl⟩
theorem fk_X12_269 : Cond.fieldLink "ButtonRegistry" 269 "ButtonRegistry$Case" "deadline" "I" ∈ Tb := inTb (tb_4 (List.mem_of_getElem? (i := 192) (by decide +kernel))) (by decide +kernel)
theorem fl_X12_269 : FL "ButtonRegistry" 269 5 5 := ⟨_, _, rfl, by decide, fk_X12_269, uw_5, Or.inl rfl⟩
theorem fk_X12_272 : Cond.fieldLink "ButtonRegistry" 272 "ButtonRegistry$Case" "standing" "C" ∈ Tb := inTb (tb_4 (List.mem_of_getElem? (i := 199) (by decide +kernel))) (by decide +kernel)
theorem fl_X12_272 : FL "ButtonRegistry" 272 5 7 := ⟨_, _, rfl, by decide, fk_X12_272, uw_5, Or.inl rfl⟩
theorem ck_X12_152 : Cond.classLink "ButtonRegistry" 152 "java/lang/IllegalStateException" ∈ Tb := inTb (tb_4 (List.mem_of_getElem? (i := 51) (by decide +kernel))) (by decide +kernel)
theorem ml_X12_156 : Cond.methodLink "ButtonRegistry" 156 ⟨"java/lang/IllegalStateException", "<init>", "(Ljava/lang/String;)V"⟩ ∈ Tb := inTb (tb_4 (List.mem_of_getElem? (i := 61) (by decide +kernel))) (by decide +kernel)
theorem fk_X12_260 : Cond.fieldLink "ButtonRegistry" 260 "ButtonRegistry$Case" "defendant" "I" ∈ Tb := inTb (tb_4 (List.mem_of_getElem? (i := 180) (by decide +kernel))) (by decide +kernel)
theorem fl_X12_260 : FL "ButtonRegistry" 260 5 2 := ⟨_, _, rfl, by decide, fk_X12_260, uw_5, Or.inl rfl⟩
theorem fk_X12_276 : Cond.fieldLink "ButtonRegistry" 276 "ButtonRegistry$Case" "matter" "Ljava/lang/String;" ∈ Tb := inTb (tb_4 (List.mem_of_getElem? (i := 195) (by decide +kernel))) (by decide +kernel)
theorem fl_X12_276 : FL "ButtonRegistry" 276 5 6 := ⟨_, _, rfl, by decide, fk_X12_276, uw_5, Or.inl rfl⟩
theorem fk_X12_331 : Cond.fieldLink "ButtonRegistry" 331 "ButtonRegistry$Court" "ruler" "LButtonRegistry$Ruler;" ∈ Tb := inTb (tb_1 (List.mem_of_getElem? (i := 201) (by decide +kernel))) (by decide +kernel)
theorem fl_X12_331 : FL "ButtonRegistry" 331 6 1 := ⟨_, _, rfl, by decide, fk_X12_331, uw_6, Or.inl rfl⟩
theorem ml_X12_324 : Cond.methodLink "ButtonRegistry" 324 yX12_existingPrecedent ∈ Tb := inTb (tb_7 (List.mem_of_getElem? (i := 211) (by decide +kernel))) (by decide +kernel)
theorem im_X12_existingPrecedent : Cond.instanceMethod yX12_existingPrecedent ∈ Tb := inTb (tb_7 (List.mem_of_getElem? (i := 213) (by decide +kernel))) (by decide +kernel)
theorem se_X12_existingPrecedent : Cond.selects "ButtonRegistry" yX12_existingPrecedent yX12_existingPrecedent ∈ Tb := inTb (List.mem_of_getElem? (i := 34) (by decide +kernel)) (by decide +kernel)
theorem fk_X12_335 : Cond.fieldLink "ButtonRegistry" 335 "ButtonRegistry$Precedent" "matter" "Ljava/lang/String;" ∈ Tb := inTb (tb_5 (List.mem_of_getElem? (i := 101) (by decide +kernel))) (by decide +kernel)
theorem fl_X12_335 : FL "ButtonRegistry" 335 9 0 := ⟨_, _, rfl, by decide, fk_X12_335, uw_9, Or.inl rfl⟩
theorem ml_X12_336 : Cond.methodLink "ButtonRegistry" 336 yX6_byBeginnings ∈ Tb := inTb (tb_8 (List.mem_of_getElem? (i := 85) (by decide +kernel))) (by decide +kernel)
theorem im_X6_byBeginnings : Cond.instanceMethod yX6_byBeginnings ∈ Tb := inTb (tb_5 (List.mem_of_getElem? (i := 42) (by decide +kernel))) (by decide +kernel)
theorem se_X6_byBeginnings : Cond.selects "ButtonRegistry$Ruler" yX6_byBeginnings yX6_byBeginnings ∈ Tb := inTb (tb_5 (List.mem_of_getElem? (i := 43) (by decide +kernel))) (by decide +kernel)
theorem ml_X12_342 : Cond.methodLink "ButtonRegistry" 342 yX6_byEnds ∈ Tb := inTb (tb_8 (List.mem_of_getElem? (i := 93) (by decide +kernel))) (by decide +kernel)
theorem im_X6_byEnds : Cond.instanceMethod yX6_byEnds ∈ Tb := inTb (tb_8 (List.mem_of_getElem? (i := 94) (by decide +kernel))) (by decide +kernel)
theorem se_X6_byEnds : Cond.selects "ButtonRegistry$Ruler" yX6_byEnds yX6_byEnds ∈ Tb := inTb (tb_8 (List.mem_of_getElem? (i := 95) (by decide +kernel))) (by decide +kernel)
theorem fk_X12_266 : Cond.fieldLink "ButtonRegistry" 266 "ButtonRegistry$Case" "duration" "I" ∈ Tb := inTb (tb_4 (List.mem_of_getElem? (i := 188) (by decide +kernel))) (by decide +kernel)
theorem fl_X12_266 : FL "ButtonRegistry" 266 5 4 := ⟨_, _, rfl, by decide, fk_X12_266, uw_5, Or.inl rfl⟩
theorem fk_X12_43 : Cond.fieldLink "ButtonRegistry" 43 "ButtonRegistry" "latestErrorPosition" "I" ∈ Tb := inTb (tb_2 (List.mem_of_getElem? (i := 5) (by decide +kernel))) (by decide +kernel)
theorem fl_X12_43 : FL "ButtonRegistry" 43 15 7 := ⟨_, _, rfl, by decide, fk_X12_43, uw_15, Or.inl rfl⟩
theorem ml_X12_308 : Cond.methodLink "ButtonRegistry" 308 yX9_positionOf ∈ Tb := inTb (tb_5 (List.mem_of_getElem? (i := 178) (by decide +kernel))) (by decide +kernel)
theorem im_X9_positionOf : Cond.instanceMethod yX9_positionOf ∈ Tb := inTb (tb_4 (List.mem_of_getElem? (i := 156) (by decide +kernel))) (by decide +kernel)
theorem se_X9_positionOf : Cond.selects "ButtonRegistry$State" yX9_positionOf yX9_positionOf ∈ Tb := inTb (tb_4 (List.mem_of_getElem? (i := 157) (by decide +kernel))) (by decide +kernel)
theorem fk_X12_321 : Cond.fieldLink "ButtonRegistry" 321 "ButtonRegistry$State" "precedents" "Ljava/util/ArrayList;" ∈ Tb := inTb (tb_1 (List.mem_of_getElem? (i := 91) (by decide +kernel))) (by decide +kernel)
theorem fl_X12_321 : FL "ButtonRegistry" 321 13 3 := ⟨_, _, rfl, by decide, fk_X12_321, uw_13, Or.inl rfl⟩
theorem ck_X12_329 : Cond.classLink "ButtonRegistry" 329 "ButtonRegistry$Precedent" ∈ Tb := inTb (tb_7 (List.mem_of_getElem? (i := 216) (by decide +kernel))) (by decide +kernel)
theorem fk_X12_47 : Cond.fieldLink "ButtonRegistry" 47 "ButtonRegistry" "latestFailedCommand" "I" ∈ Tb := inTb (tb_2 (List.mem_of_getElem? (i := 6) (by decide +kernel))) (by decide +kernel)
theorem fl_X12_47 : FL "ButtonRegistry" 47 15 8 := ⟨_, _, rfl, by decide, fk_X12_47, uw_15, Or.inl rfl⟩
theorem fk_X12_67 : Cond.fieldLink "ButtonRegistry" 67 "ButtonRegistry" "settlement" "LButtonRegistry$Settlement;" ∈ Tb := inTb (tb_2 (List.mem_of_getElem? (i := 9) (by decide +kernel))) (by decide +kernel)
theorem fl_X12_67 : FL "ButtonRegistry" 67 15 11 := ⟨_, _, rfl, by decide, fk_X12_67, uw_15, Or.inl rfl⟩
theorem ml_X12_353 : Cond.methodLink "ButtonRegistry" 353 yX8_bySets ∈ Tb := inTb (tb_7 (List.mem_of_getElem? (i := 137) (by decide +kernel))) (by decide +kernel)
theorem im_X8_bySets : Cond.instanceMethod yX8_bySets ∈ Tb := inTb (tb_7 (List.mem_of_getElem? (i := 138) (by decide +kernel))) (by decide +kernel)
theorem se_X8_bySets : Cond.selects "ButtonRegistry$Settlement" yX8_bySets yX8_bySets ∈ Tb := inTb (tb_7 (List.mem_of_getElem? (i := 139) (by decide +kernel))) (by decide +kernel)
theorem ml_X12_103 : Cond.methodLink "ButtonRegistry" 103 yX2_enterCase ∈ Tb := inTb (tb_6 (List.mem_of_getElem? (i := 227) (by decide +kernel))) (by decide +kernel)
theorem im_X2_enterCase : Cond.instanceMethod yX2_enterCase ∈ Tb := inTb (tb_6 (List.mem_of_getElem? (i := 137) (by decide +kernel))) (by decide +kernel)
theorem se_X2_enterCase : Cond.selects "ButtonRegistry$Court" yX2_enterCase yX2_enterCase ∈ Tb := inTb (tb_6 (List.mem_of_getElem? (i := 138) (by decide +kernel))) (by decide +kernel)
theorem fk_X12_208 : Cond.fieldLink "ButtonRegistry" 208 "ButtonRegistry$Court" "threads" "LButtonRegistry$Threads;" ∈ Tb := inTb (tb_1 (List.mem_of_getElem? (i := 199) (by decide +kernel))) (by decide +kernel)
theorem fl_X12_208 : FL "ButtonRegistry" 208 6 0 := ⟨_, _, rfl, by decide, fk_X12_208, uw_6, Or.inl rfl⟩
theorem ml_X12_220 : Cond.methodLink "ButtonRegistry" 220 yX10_forestByJoining ∈ Tb := inTb (tb_7 (List.mem_of_getElem? (i := 129) (by decide +kernel))) (by decide +kernel)
theorem im_X10_forestByJoining : Cond.instanceMethod yX10_forestByJoining ∈ Tb := inTb (tb_7 (List.mem_of_getElem? (i := 130) (by decide +kernel))) (by decide +kernel)
theorem se_X10_forestByJoining : Cond.selects "ButtonRegistry$Threads" yX10_forestByJoining yX10_forestByJoining ∈ Tb := inTb (tb_7 (List.mem_of_getElem? (i := 131) (by decide +kernel))) (by decide +kernel)
theorem ml_X12_119 : Cond.methodLink "ButtonRegistry" 119 yX2_moveCoins ∈ Tb := inTb (tb_8 (List.mem_of_getElem? (i := 43) (by decide +kernel))) (by decide +kernel)
theorem im_X2_moveCoins : Cond.instanceMethod yX2_moveCoins ∈ Tb := inTb (tb_6 (List.mem_of_getElem? (i := 157) (by decide +kernel))) (by decide +kernel)
theorem se_X2_moveCoins : Cond.selects "ButtonRegistry$Court" yX2_moveCoins yX2_moveCoins ∈ Tb := inTb (tb_6 (List.mem_of_getElem? (i := 158) (by decide +kernel))) (by decide +kernel)
theorem ml_X12_107 : Cond.methodLink "ButtonRegistry" 107 yX2_hearCase ∈ Tb := inTb (tb_4 (List.mem_of_getElem? (i := 151) (by decide +kernel))) (by decide +kernel)
theorem im_X2_hearCase : Cond.instanceMethod yX2_hearCase ∈ Tb := inTb (tb_4 (List.mem_of_getElem? (i := 152) (by decide +kernel))) (by decide +kernel)
theorem se_X2_hearCase : Cond.selects "ButtonRegistry$Court" yX2_hearCase yX2_hearCase ∈ Tb := inTb (tb_4 (List.mem_of_getElem? (i := 153) (by decide +kernel))) (by decide +kernel)
theorem ml_X12_1 : Cond.methodLink "ButtonRegistry" 1 ⟨"java/lang/Object", "<init>", "()V"⟩ ∈ Tb := inTb (tb_1 (List.mem_of_getElem? (i := 47) (by decide +kernel))) (by decide +kernel)
theorem ck_X12_7 : Cond.classLink "ButtonRegistry" 7 "ButtonRegistry$State" ∈ Tb := inTb (tb_1 (List.mem_of_getElem? (i := 50) (by decide +kernel))) (by decide +kernel)
theorem ins_13 : Cond.instantiable "ButtonRegistry$State" 8 ∈ Tb := inTb (tb_1 (List.mem_of_getElem? (i := 51) (by decide +kernel))) (by decide +kernel)
theorem ini_13 : Cond.initialized "ButtonRegistry$State" ∈ Tb := inTb (tb_1 (List.mem_of_getElem? (i := 2) (by decide +kernel))) (by decide +kernel)
theorem nw_X12_7 : NW "ButtonRegistry" 7 13 [.null, .null, .null, .null, .int 0, .int 0, .int 0, .int 0] := ⟨_, tyX9, rfl, ck_X12_7, ins_13, ini_13, uw_13, tyX9_ok, fun j hj => by
  have hj : j < 8 := hj
  match j, hj with
  | 0, _ => rfl
  | 1, _ => rfl
  | 2, _ => rfl
  | 3, _ => rfl
  | 4, _ => rfl
  | 5, _ => rfl
  | 6, _ => rfl
  | 7, _ => rfl
  | j + 8, h => exact absurd h (by omega), rfl⟩
theorem mln_X12_9 : Cond.methodLinkNest "ButtonRegistry" 9 yX9_init "ButtonRegistry" ∈ Tc := inTc (tb_1 (List.mem_of_getElem? (i := 52) (by decide +kernel))) (by decide +kernel)
theorem im_X9_init : Cond.instanceMethod yX9_init ∈ Tb := inTb (tb_1 (List.mem_of_getElem? (i := 53) (by decide +kernel))) (by decide +kernel)
theorem fp_X12_init_10 : FP kX12_init.1 10 15 0 (.object "ButtonRegistry$State") false := ⟨_, _, tyX12, rfl, by decide, fk_X12_10, uw_15, Or.inl rfl, tyX12_ok, nmX12, rfl, rfl, fun h => by cases h⟩
theorem fk_X12_16 : Cond.fieldLink "ButtonRegistry" 16 "ButtonRegistry" "snapshot" "LButtonRegistry$State;" ∈ Tb := inTb (tb_1 (List.mem_of_getElem? (i := 239) (by decide +kernel))) (by decide +kernel)
theorem fp_X12_init_16 : FP kX12_init.1 16 15 1 (.object "ButtonRegistry$State") false := ⟨_, _, tyX12, rfl, by decide, fk_X12_16, uw_15, Or.inl rfl, tyX12_ok, nmX12, rfl, rfl, fun h => by cases h⟩
theorem fk_X12_19 : Cond.fieldLink "ButtonRegistry" 19 "ButtonRegistry" "snapshotTaken" "Z" ∈ Tb := inTb (tb_2 (List.mem_of_getElem? (i := 0) (by decide +kernel))) (by decide +kernel)
theorem fp_X12_init_19 : FP kX12_init.1 19 15 2 (.boolean) false := ⟨_, _, tyX12, rfl, by decide, fk_X12_19, uw_15, Or.inl rfl, tyX12_ok, nmX12, rfl, rfl, fun h => by cases h⟩
theorem ck_X12_23 : Cond.classLink "ButtonRegistry" 23 "java/util/ArrayList" ∈ Tb := inTb (tb_1 (List.mem_of_getElem? (i := 123) (by decide +kernel))) (by decide +kernel)
theorem ins_4 : Cond.instantiable "java/util/ArrayList" 3 ∈ Tb := inTb (tb_1 (List.mem_of_getElem? (i := 57) (by decide +kernel))) (by decide +kernel)
theorem ini_4 : Cond.initialized "java/util/ArrayList" ∈ Tb := inTb (tb_1 (List.mem_of_getElem? (i := 5) (by decide +kernel))) (by decide +kernel)
theorem nw_X12_23 : NW "ButtonRegistry" 23 4 [.int 0, .null, .int 0] := ⟨_, tyJx4a65c, rfl, ck_X12_23, ins_4, ini_4, uw_4, tyJx4a65c_ok, fun j hj => by
  have hj : j < 3 := hj
  match j, hj with
  | 0, _ => rfl
  | 1, _ => rfl
  | 2, _ => rfl
  | j + 3, h => exact absurd h (by omega), rfl⟩
theorem ml_X12_25 : Cond.methodLink "ButtonRegistry" 25 yJx4a65c_init_da8c8 ∈ Tb := inTb (tb_1 (List.mem_of_getElem? (i := 124) (by decide +kernel))) (by decide +kernel)
theorem im_Jx4a65c_init_da8c8 : Cond.instanceMethod yJx4a65c_init_da8c8 ∈ Tb := inTb (tb_1 (List.mem_of_getElem? (i := 59) (by decide +kernel))) (by decide +kernel)
theorem fp_X12_init_26 : FP kX12_init.1 26 15 3 (.object "java/util/ArrayList") true := ⟨_, _, tyX12, rfl, by decide, fk_X12_26, uw_15, Or.inl rfl, tyX12_ok, nmX12, rfl, rfl, fun _ => ⟨rfl, rfl⟩⟩
theorem ck_X12_30 : Cond.classLink "ButtonRegistry" 30 "java/lang/StringBuilder" ∈ Tb := inTb (tb_1 (List.mem_of_getElem? (i := 125) (by decide +kernel))) (by decide +kernel)
theorem nw_X12_30 : NW "ButtonRegistry" 30 1 [.null, .int 0, .int 0, .int 0] := ⟨_, tyJ4, rfl, ck_X12_30, ins_1, ini_1, uw_1, tyJ4_ok, fun j hj => by
  have hj : j < 4 := hj
  match j, hj with
  | 0, _ => rfl
  | 1, _ => rfl
  | 2, _ => rfl
  | 3, _ => rfl
  | j + 4, h => exact absurd h (by omega), rfl⟩
theorem ml_X12_32 : Cond.methodLink "ButtonRegistry" 32 yJ4_init_da8c8 ∈ Tb := inTb (tb_1 (List.mem_of_getElem? (i := 127) (by decide +kernel))) (by decide +kernel)
theorem fp_X12_init_33 : FP kX12_init.1 33 15 4 (.object "java/lang/StringBuilder") true := ⟨_, _, tyX12, rfl, by decide, fk_X12_33, uw_15, Or.inl rfl, tyX12_ok, nmX12, rfl, rfl, fun _ => ⟨rfl, rfl⟩⟩
theorem fk_X12_37 : Cond.fieldLink "ButtonRegistry" 37 "ButtonRegistry" "script" "Ljava/lang/StringBuilder;" ∈ Tb := inTb (tb_2 (List.mem_of_getElem? (i := 3) (by decide +kernel))) (by decide +kernel)
theorem fp_X12_init_37 : FP kX12_init.1 37 15 5 (.object "java/lang/StringBuilder") true := ⟨_, _, tyX12, rfl, by decide, fk_X12_37, uw_15, Or.inl rfl, tyX12_ok, nmX12, rfl, rfl, fun _ => ⟨rfl, rfl⟩⟩
theorem fk_X12_40 : Cond.fieldLink "ButtonRegistry" 40 "ButtonRegistry" "output" "Ljava/lang/StringBuilder;" ∈ Tb := inTb (tb_2 (List.mem_of_getElem? (i := 4) (by decide +kernel))) (by decide +kernel)
theorem fp_X12_init_40 : FP kX12_init.1 40 15 6 (.object "java/lang/StringBuilder") true := ⟨_, _, tyX12, rfl, by decide, fk_X12_40, uw_15, Or.inl rfl, tyX12_ok, nmX12, rfl, rfl, fun _ => ⟨rfl, rfl⟩⟩
theorem fp_X12_init_43 : FP kX12_init.1 43 15 7 (.int) false := ⟨_, _, tyX12, rfl, by decide, fk_X12_43, uw_15, Or.inl rfl, tyX12_ok, nmX12, rfl, rfl, fun h => by cases h⟩
theorem fp_X12_init_47 : FP kX12_init.1 47 15 8 (.int) false := ⟨_, _, tyX12, rfl, by decide, fk_X12_47, uw_15, Or.inl rfl, tyX12_ok, nmX12, rfl, rfl, fun h => by cases h⟩
theorem ck_X12_50 : Cond.classLink "ButtonRegistry" 50 "ButtonRegistry$Court" ∈ Tb := inTb (tb_1 (List.mem_of_getElem? (i := 158) (by decide +kernel))) (by decide +kernel)
theorem ins_6 : Cond.instantiable "ButtonRegistry$Court" 2 ∈ Tb := inTb (tb_1 (List.mem_of_getElem? (i := 159) (by decide +kernel))) (by decide +kernel)
theorem ini_6 : Cond.initialized "ButtonRegistry$Court" ∈ Tb := inTb (tb_1 (List.mem_of_getElem? (i := 10) (by decide +kernel))) (by decide +kernel)
theorem nw_X12_50 : NW "ButtonRegistry" 50 6 [.null, .null] := ⟨_, tyX2, rfl, ck_X12_50, ins_6, ini_6, uw_6, tyX2_ok, fun j hj => by
  have hj : j < 2 := hj
  match j, hj with
  | 0, _ => rfl
  | 1, _ => rfl
  | j + 2, h => exact absurd h (by omega), rfl⟩
theorem mln_X12_52 : Cond.methodLinkNest "ButtonRegistry" 52 yX2_init "ButtonRegistry" ∈ Tc := inTc (tb_1 (List.mem_of_getElem? (i := 160) (by decide +kernel))) (by decide +kernel)
theorem im_X2_init : Cond.instanceMethod yX2_init ∈ Tb := inTb (tb_1 (List.mem_of_getElem? (i := 161) (by decide +kernel))) (by decide +kernel)
theorem fp_X12_init_53 : FP kX12_init.1 53 15 9 (.object "ButtonRegistry$Court") true := ⟨_, _, tyX12, rfl, by decide, fk_X12_53, uw_15, Or.inl rfl, tyX12_ok, nmX12, rfl, rfl, fun _ => ⟨rfl, rfl⟩⟩
theorem ck_X12_57 : Cond.classLink "ButtonRegistry" 57 "ButtonRegistry$Docket" ∈ Tb := inTb (tb_1 (List.mem_of_getElem? (i := 207) (by decide +kernel))) (by decide +kernel)
theorem ins_7 : Cond.instantiable "ButtonRegistry$Docket" 2 ∈ Tb := inTb (tb_1 (List.mem_of_getElem? (i := 208) (by decide +kernel))) (by decide +kernel)
theorem ini_7 : Cond.initialized "ButtonRegistry$Docket" ∈ Tb := inTb (tb_1 (List.mem_of_getElem? (i := 13) (by decide +kernel))) (by decide +kernel)
theorem nw_X12_57 : NW "ButtonRegistry" 57 7 [.null, .null] := ⟨_, tyX3, rfl, ck_X12_57, ins_7, ini_7, uw_7, tyX3_ok, fun j hj => by
  have hj : j < 2 := hj
  match j, hj with
  | 0, _ => rfl
  | 1, _ => rfl
  | j + 2, h => exact absurd h (by omega), rfl⟩
theorem mln_X12_59 : Cond.methodLinkNest "ButtonRegistry" 59 yX3_init "ButtonRegistry" ∈ Tc := inTc (tb_1 (List.mem_of_getElem? (i := 209) (by decide +kernel))) (by decide +kernel)
theorem im_X3_init : Cond.instanceMethod yX3_init ∈ Tb := inTb (tb_1 (List.mem_of_getElem? (i := 210) (by decide +kernel))) (by decide +kernel)
theorem fp_X12_init_60 : FP kX12_init.1 60 15 10 (.object "ButtonRegistry$Docket") true := ⟨_, _, tyX12, rfl, by decide, fk_X12_60, uw_15, Or.inl rfl, tyX12_ok, nmX12, rfl, rfl, fun _ => ⟨rfl, rfl⟩⟩
theorem ck_X12_64 : Cond.classLink "ButtonRegistry" 64 "ButtonRegistry$Settlement" ∈ Tb := inTb (tb_1 (List.mem_of_getElem? (i := 222) (by decide +kernel))) (by decide +kernel)
theorem ins_12 : Cond.instantiable "ButtonRegistry$Settlement" 3 ∈ Tb := inTb (tb_1 (List.mem_of_getElem? (i := 223) (by decide +kernel))) (by decide +kernel)
theorem ini_12 : Cond.initialized "ButtonRegistry$Settlement" ∈ Tb := inTb (tb_1 (List.mem_of_getElem? (i := 14) (by decide +kernel))) (by decide +kernel)
theorem nw_X12_64 : NW "ButtonRegistry" 64 12 [.null, .null, .int 0] := ⟨_, tyX8, rfl, ck_X12_64, ins_12, ini_12, uw_12, tyX8_ok, fun j hj => by
  have hj : j < 3 := hj
  match j, hj with
  | 0, _ => rfl
  | 1, _ => rfl
  | 2, _ => rfl
  | j + 3, h => exact absurd h (by omega), rfl⟩
theorem mln_X12_66 : Cond.methodLinkNest "ButtonRegistry" 66 yX8_init "ButtonRegistry" ∈ Tc := inTc (tb_1 (List.mem_of_getElem? (i := 224) (by decide +kernel))) (by decide +kernel)
theorem im_X8_init : Cond.instanceMethod yX8_init ∈ Tb := inTb (tb_1 (List.mem_of_getElem? (i := 225) (by decide +kernel))) (by decide +kernel)
theorem fp_X12_init_67 : FP kX12_init.1 67 15 11 (.object "ButtonRegistry$Settlement") true := ⟨_, _, tyX12, rfl, by decide, fk_X12_67, uw_15, Or.inl rfl, tyX12_ok, nmX12, rfl, rfl, fun _ => ⟨rfl, rfl⟩⟩
theorem ml_X12_280 : Cond.methodLink "ButtonRegistry" 280 yJ0_length_8abf5 ∈ Tb := inTb (tb_8 (List.mem_of_getElem? (i := 69) (by decide +kernel))) (by decide +kernel)
theorem ml_X12_283 : Cond.methodLink "ButtonRegistry" 283 yJ0_charAt_5068e ∈ Tb := inTb (tb_8 (List.mem_of_getElem? (i := 70) (by decide +kernel))) (by decide +kernel)
theorem ck_X12_303 : Cond.classLink "ButtonRegistry" 303 "java/lang/ArithmeticException" ∈ Tb := inTb (tb_7 (List.mem_of_getElem? (i := 47) (by decide +kernel))) (by decide +kernel)
theorem ml_X12_307 : Cond.methodLink "ButtonRegistry" 307 ⟨"java/lang/ArithmeticException", "<init>", "(Ljava/lang/String;)V"⟩ ∈ Tb := inTb (tb_7 (List.mem_of_getElem? (i := 49) (by decide +kernel))) (by decide +kernel)
theorem ml_X12_315 : Cond.methodLink "ButtonRegistry" 315 yX2_nearestOf ∈ Tb := inTb (tb_8 (List.mem_of_getElem? (i := 15) (by decide +kernel))) (by decide +kernel)
theorem im_X2_nearestOf : Cond.instanceMethod yX2_nearestOf ∈ Tb := inTb (tb_5 (List.mem_of_getElem? (i := 37) (by decide +kernel))) (by decide +kernel)
theorem se_X2_nearestOf : Cond.selects "ButtonRegistry$Court" yX2_nearestOf yX2_nearestOf ∈ Tb := inTb (tb_5 (List.mem_of_getElem? (i := 38) (by decide +kernel))) (by decide +kernel)
theorem ck_X12_162 : Cond.classLink "ButtonRegistry" 162 "java/lang/UnsupportedOperationException" ∈ Tb := inTb (tb_4 (List.mem_of_getElem? (i := 83) (by decide +kernel))) (by decide +kernel)
theorem ml_X12_166 : Cond.methodLink "ButtonRegistry" 166 ⟨"java/lang/UnsupportedOperationException", "<init>", "(Ljava/lang/String;)V"⟩ ∈ Tb := inTb (tb_4 (List.mem_of_getElem? (i := 93) (by decide +kernel))) (by decide +kernel)
theorem fl_X12_40 : FL "ButtonRegistry" 40 15 6 := ⟨_, _, rfl, by decide, fk_X12_40, uw_15, Or.inl rfl⟩
theorem ml_X12_375 : Cond.methodLink "ButtonRegistry" 375 yJ4_charAt_5068e ∈ Tb := inTb (tb_7 (List.mem_of_getElem? (i := 172) (by decide +kernel))) (by decide +kernel)
theorem im_J4_charAt_5068e : Cond.instanceMethod yJ4_charAt_5068e ∈ Tb := inTb (tb_7 (List.mem_of_getElem? (i := 173) (by decide +kernel))) (by decide +kernel)
theorem se_J4_charAt_5068e : Cond.selects "java/lang/StringBuilder" yJ4_charAt_5068e yJ4_charAt_5068e ∈ Tb := inTb (tb_7 (List.mem_of_getElem? (i := 174) (by decide +kernel))) (by decide +kernel)
theorem ml_X12_122 : Cond.methodLink "ButtonRegistry" 122 yX2_letDaysPass ∈ Tb := inTb (tb_5 (List.mem_of_getElem? (i := 160) (by decide +kernel))) (by decide +kernel)
theorem im_X2_letDaysPass : Cond.instanceMethod yX2_letDaysPass ∈ Tb := inTb (tb_5 (List.mem_of_getElem? (i := 161) (by decide +kernel))) (by decide +kernel)
theorem se_X2_letDaysPass : Cond.selects "ButtonRegistry$Court" yX2_letDaysPass yX2_letDaysPass ∈ Tb := inTb (tb_5 (List.mem_of_getElem? (i := 162) (by decide +kernel))) (by decide +kernel)
theorem fk_X12_290 : Cond.fieldLink "ButtonRegistry" 290 "ButtonRegistry$Case" "percentage" "I" ∈ Tb := inTb (tb_4 (List.mem_of_getElem? (i := 202) (by decide +kernel))) (by decide +kernel)
theorem fl_X12_290 : FL "ButtonRegistry" 290 5 8 := ⟨_, _, rfl, by decide, fk_X12_290, uw_5, Or.inl rfl⟩
theorem fk_X12_257 : Cond.fieldLink "ButtonRegistry" 257 "ButtonRegistry$Case" "plaintiff" "I" ∈ Tb := inTb (tb_4 (List.mem_of_getElem? (i := 177) (by decide +kernel))) (by decide +kernel)
theorem fl_X12_257 : FL "ButtonRegistry" 257 5 1 := ⟨_, _, rfl, by decide, fk_X12_257, uw_5, Or.inl rfl⟩
theorem fk_X12_328 : Cond.fieldLink "ButtonRegistry" 328 "ButtonRegistry$Precedent" "percentage" "I" ∈ Tb := inTb (tb_5 (List.mem_of_getElem? (i := 104) (by decide +kernel))) (by decide +kernel)
theorem fl_X12_328 : FL "ButtonRegistry" 328 9 1 := ⟨_, _, rfl, by decide, fk_X12_328, uw_9, Or.inl rfl⟩
theorem ck_X12_147 : Cond.classLink "ButtonRegistry" 147 "java/lang/IllegalArgumentException" ∈ Tb := inTb (tb_4 (List.mem_of_getElem? (i := 48) (by decide +kernel))) (by decide +kernel)
theorem ml_X12_151 : Cond.methodLink "ButtonRegistry" 151 ⟨"java/lang/IllegalArgumentException", "<init>", "(Ljava/lang/String;)V"⟩ ∈ Tb := inTb (tb_4 (List.mem_of_getElem? (i := 50) (by decide +kernel))) (by decide +kernel)
theorem ml_X12_367 : Cond.methodLink "ButtonRegistry" 367 yJ4_append_bf812 ∈ Tb := inTb (tb_7 (List.mem_of_getElem? (i := 162) (by decide +kernel))) (by decide +kernel)
theorem ml_X12_178 : Cond.methodLink "ButtonRegistry" 178 yJ4_append_cf468 ∈ Tb := inTb (tb_4 (List.mem_of_getElem? (i := 122) (by decide +kernel))) (by decide +kernel)
theorem ml_X12_198 : Cond.methodLink "ButtonRegistry" 198 yX9_tensionBetween ∈ Tb := inTb (tb_7 (List.mem_of_getElem? (i := 163) (by decide +kernel))) (by decide +kernel)
theorem ml_X12_370 : Cond.methodLink "ButtonRegistry" 370 yJ4_append_15ec4 ∈ Tb := inTb (tb_7 (List.mem_of_getElem? (i := 232) (by decide +kernel))) (by decide +kernel)
theorem ml_X12_234 : Cond.methodLink "ButtonRegistry" 234 yX9_hasButton ∈ Tb := inTb (tb_6 (List.mem_of_getElem? (i := 209) (by decide +kernel))) (by decide +kernel)
theorem fl_X12_19 : FL "ButtonRegistry" 19 15 2 := ⟨_, _, rfl, by decide, fk_X12_19, uw_15, Or.inl rfl⟩
theorem fl_X12_16 : FL "ButtonRegistry" 16 15 1 := ⟨_, _, rfl, by decide, fk_X12_16, uw_15, Or.inl rfl⟩
theorem fp_X12_restore_10 : FP kX12_restore.1 10 15 0 (.object "ButtonRegistry$State") false := ⟨_, _, tyX12, rfl, by decide, fk_X12_10, uw_15, Or.inl rfl, tyX12_ok, nmX12, rfl, rfl, fun h => by cases h⟩
theorem ml_X12_413 : Cond.methodLink "ButtonRegistry" 413 yJx4a65c_clear_da8c8 ∈ Tb := inTb (tb_6 (List.mem_of_getElem? (i := 191) (by decide +kernel))) (by decide +kernel)
theorem im_Jx4a65c_clear_da8c8 : Cond.instanceMethod yJx4a65c_clear_da8c8 ∈ Tb := inTb (tb_6 (List.mem_of_getElem? (i := 192) (by decide +kernel))) (by decide +kernel)
theorem se_Jx4a65c_clear_da8c8 : Cond.selects "java/util/ArrayList" yJx4a65c_clear_da8c8 yJx4a65c_clear_da8c8 ∈ Tb := inTb (tb_6 (List.mem_of_getElem? (i := 193) (by decide +kernel))) (by decide +kernel)
theorem ck_X12_380 : Cond.classLink "ButtonRegistry" 380 "ButtonRegistry$ScriptReader" ∈ Tb := inTb (tb_5 (List.mem_of_getElem? (i := 224) (by decide +kernel))) (by decide +kernel)
theorem ins_11 : Cond.instantiable "ButtonRegistry$ScriptReader" 3 ∈ Tb := inTb (tb_5 (List.mem_of_getElem? (i := 225) (by decide +kernel))) (by decide +kernel)
theorem ini_11 : Cond.initialized "ButtonRegistry$ScriptReader" ∈ Tb := inTb (tb_1 (List.mem_of_getElem? (i := 30) (by decide +kernel))) (by decide +kernel)
theorem nw_X12_380 : NW "ButtonRegistry" 380 11 [.null, .int 0, .null] := ⟨_, tyX7, rfl, ck_X12_380, ins_11, ini_11, uw_11, tyX7_ok, fun j hj => by
  have hj : j < 3 := hj
  match j, hj with
  | 0, _ => rfl
  | 1, _ => rfl
  | 2, _ => rfl
  | j + 3, h => exact absurd h (by omega), rfl⟩
theorem fl_X12_37 : FL "ButtonRegistry" 37 15 5 := ⟨_, _, rfl, by decide, fk_X12_37, uw_15, Or.inl rfl⟩
theorem ml_X12_382 : Cond.methodLink "ButtonRegistry" 382 yX7_init ∈ Tb := inTb (tb_5 (List.mem_of_getElem? (i := 227) (by decide +kernel))) (by decide +kernel)
theorem im_X7_init : Cond.instanceMethod yX7_init ∈ Tb := inTb (tb_5 (List.mem_of_getElem? (i := 228) (by decide +kernel))) (by decide +kernel)
theorem ml_X12_383 : Cond.methodLink "ButtonRegistry" 383 yX7_readScript ∈ Tb := inTb (tb_6 (List.mem_of_getElem? (i := 5) (by decide +kernel))) (by decide +kernel)
theorem im_X7_readScript : Cond.instanceMethod yX7_readScript ∈ Tb := inTb (tb_6 (List.mem_of_getElem? (i := 6) (by decide +kernel))) (by decide +kernel)
theorem se_X7_readScript : Cond.selects "ButtonRegistry$ScriptReader" yX7_readScript yX7_readScript ∈ Tb := inTb (tb_6 (List.mem_of_getElem? (i := 7) (by decide +kernel))) (by decide +kernel)
theorem fk_X12_386 : Cond.fieldLink "ButtonRegistry" 386 "ButtonRegistry$ScriptReader" "position" "I" ∈ Tb := inTb (tb_5 (List.mem_of_getElem? (i := 236) (by decide +kernel))) (by decide +kernel)
theorem fl_X12_386 : FL "ButtonRegistry" 386 11 1 := ⟨_, _, rfl, by decide, fk_X12_386, uw_11, Or.inl rfl⟩
theorem fp_X12_runScript_43 : FP kX12_runScript.1 43 15 7 (.int) false := ⟨_, _, tyX12, rfl, by decide, fk_X12_43, uw_15, Or.inl rfl, tyX12_ok, nmX12, rfl, rfl, fun h => by cases h⟩
theorem fk_X12_391 : Cond.fieldLink "ButtonRegistry" 391 "ButtonRegistry$ScriptReader" "orders" "Ljava/util/ArrayList;" ∈ Tb := inTb (tb_5 (List.mem_of_getElem? (i := 234) (by decide +kernel))) (by decide +kernel)
theorem fl_X12_391 : FL "ButtonRegistry" 391 11 0 := ⟨_, _, rfl, by decide, fk_X12_391, uw_11, Or.inl rfl⟩
theorem ck_X12_394 : Cond.classLink "ButtonRegistry" 394 "ButtonRegistry$Order" ∈ Tb := inTb (tb_6 (List.mem_of_getElem? (i := 100) (by decide +kernel))) (by decide +kernel)
theorem ml_X12_396 : Cond.methodLink "ButtonRegistry" 396 yX2_perform ∈ Tb := inTb (tb_6 (List.mem_of_getElem? (i := 101) (by decide +kernel))) (by decide +kernel)
theorem im_X2_perform : Cond.instanceMethod yX2_perform ∈ Tb := inTb (tb_6 (List.mem_of_getElem? (i := 102) (by decide +kernel))) (by decide +kernel)
theorem se_X2_perform : Cond.selects "ButtonRegistry$Court" yX2_perform yX2_perform ∈ Tb := inTb (tb_6 (List.mem_of_getElem? (i := 103) (by decide +kernel))) (by decide +kernel)
theorem fp_X12_runScript_47 : FP kX12_runScript.1 47 15 8 (.int) false := ⟨_, _, tyX12, rfl, by decide, fk_X12_47, uw_15, Or.inl rfl, tyX12_ok, nmX12, rfl, rfl, fun h => by cases h⟩
theorem fp_X12_save_16 : FP kX12_save.1 16 15 1 (.object "ButtonRegistry$State") false := ⟨_, _, tyX12, rfl, by decide, fk_X12_16, uw_15, Or.inl rfl, tyX12_ok, nmX12, rfl, rfl, fun h => by cases h⟩
theorem fp_X12_save_19 : FP kX12_save.1 19 15 2 (.boolean) false := ⟨_, _, tyX12, rfl, by decide, fk_X12_19, uw_15, Or.inl rfl, tyX12_ok, nmX12, rfl, rfl, fun h => by cases h⟩
theorem ml_X12_83 : Cond.methodLink "ButtonRegistry" 83 yX2_joinButtons ∈ Tb := inTb (tb_7 (List.mem_of_getElem? (i := 12) (by decide +kernel))) (by decide +kernel)
theorem im_X2_joinButtons : Cond.instanceMethod yX2_joinButtons ∈ Tb := inTb (tb_6 (List.mem_of_getElem? (i := 119) (by decide +kernel))) (by decide +kernel)
theorem se_X2_joinButtons : Cond.selects "ButtonRegistry$Court" yX2_joinButtons yX2_joinButtons ∈ Tb := inTb (tb_6 (List.mem_of_getElem? (i := 120) (by decide +kernel))) (by decide +kernel)
theorem ml_X12_204 : Cond.methodLink "ButtonRegistry" 204 yX12_requirePair ∈ Tb := inTb (tb_8 (List.mem_of_getElem? (i := 129) (by decide +kernel))) (by decide +kernel)
theorem im_X12_requirePair : Cond.instanceMethod yX12_requirePair ∈ Tb := inTb (tb_8 (List.mem_of_getElem? (i := 131) (by decide +kernel))) (by decide +kernel)
theorem se_X12_requirePair : Cond.selects "ButtonRegistry" yX12_requirePair yX12_requirePair ∈ Tb := inTb (List.mem_of_getElem? (i := 35) (by decide +kernel)) (by decide +kernel)
theorem ml_X12_212 : Cond.methodLink "ButtonRegistry" 212 yX10_strainByJoining ∈ Tb := inTb (tb_8 (List.mem_of_getElem? (i := 134) (by decide +kernel))) (by decide +kernel)
theorem im_X10_strainByJoining : Cond.instanceMethod yX10_strainByJoining ∈ Tb := inTb (tb_5 (List.mem_of_getElem? (i := 9) (by decide +kernel))) (by decide +kernel)
theorem se_X10_strainByJoining : Cond.selects "ButtonRegistry$Threads" yX10_strainByJoining yX10_strainByJoining ∈ Tb := inTb (tb_5 (List.mem_of_getElem? (i := 10) (by decide +kernel))) (by decide +kernel)
theorem ml_X12_217 : Cond.methodLink "ButtonRegistry" 217 yX10_strainFromTable ∈ Tb := inTb (tb_8 (List.mem_of_getElem? (i := 142) (by decide +kernel))) (by decide +kernel)
theorem im_X10_strainFromTable : Cond.instanceMethod yX10_strainFromTable ∈ Tb := inTb (tb_8 (List.mem_of_getElem? (i := 143) (by decide +kernel))) (by decide +kernel)
theorem se_X10_strainFromTable : Cond.selects "ButtonRegistry$Threads" yX10_strainFromTable yX10_strainFromTable ∈ Tb := inTb (tb_8 (List.mem_of_getElem? (i := 144) (by decide +kernel))) (by decide +kernel)
theorem ml_X12_167 : Cond.methodLink "ButtonRegistry" 167 yX12_isLetter ∈ Tb := inTb (tb_4 (List.mem_of_getElem? (i := 117) (by decide +kernel))) (by decide +kernel)
theorem st_X12_isLetter : Cond.static yX12_isLetter ∈ Tb := inTb (tb_4 (List.mem_of_getElem? (i := 118) (by decide +kernel))) (by decide +kernel)
theorem ml_X12_406 : Cond.methodLink "ButtonRegistry" 406 yJx4a65c_isEmpty_aae02 ∈ Tb := inTb (tb_6 (List.mem_of_getElem? (i := 181) (by decide +kernel))) (by decide +kernel)
theorem im_Jx4a65c_isEmpty_aae02 : Cond.instanceMethod yJx4a65c_isEmpty_aae02 ∈ Tb := inTb (tb_5 (List.mem_of_getElem? (i := 5) (by decide +kernel))) (by decide +kernel)
theorem se_Jx4a65c_isEmpty_aae02 : Cond.selects "java/util/ArrayList" yJx4a65c_isEmpty_aae02 yJx4a65c_isEmpty_aae02 ∈ Tb := inTb (tb_5 (List.mem_of_getElem? (i := 6) (by decide +kernel))) (by decide +kernel)
theorem fp_X12_undo_10 : FP kX12_undo.1 10 15 0 (.object "ButtonRegistry$State") false := ⟨_, _, tyX12, rfl, by decide, fk_X12_10, uw_15, Or.inl rfl, tyX12_ok, nmX12, rfl, rfl, fun h => by cases h⟩
theorem ml_X12_113 : Cond.methodLink "ButtonRegistry" 113 yX2_withdrawCase ∈ Tb := inTb (tb_5 (List.mem_of_getElem? (i := 148) (by decide +kernel))) (by decide +kernel)
theorem im_X2_withdrawCase : Cond.instanceMethod yX2_withdrawCase ∈ Tb := inTb (tb_5 (List.mem_of_getElem? (i := 149) (by decide +kernel))) (by decide +kernel)
theorem se_X2_withdrawCase : Cond.selects "ButtonRegistry$Court" yX2_withdrawCase yX2_withdrawCase ∈ Tb := inTb (tb_5 (List.mem_of_getElem? (i := 150) (by decide +kernel))) (by decide +kernel)
theorem ck_X1_10 : Cond.classLink "ButtonRegistry$Case" 10 "ButtonRegistry$Case" ∈ Tb := inTb (tb_4 (List.mem_of_getElem? (i := 166) (by decide +kernel))) (by decide +kernel)
theorem ins_5 : Cond.instantiable "ButtonRegistry$Case" 14 ∈ Tb := inTb (tb_4 (List.mem_of_getElem? (i := 167) (by decide +kernel))) (by decide +kernel)
theorem ini_5 : Cond.initialized "ButtonRegistry$Case" ∈ Tb := inTb (tb_1 (List.mem_of_getElem? (i := 37) (by decide +kernel))) (by decide +kernel)
theorem nw_X1_10 : NW "ButtonRegistry$Case" 10 5 [.int 0, .int 0, .int 0, .int 0, .int 0, .int 0, .null, .int 0, .int 0, .int 0, .int 0, .int 0, .int 0, .int 0] := ⟨_, tyX1, rfl, ck_X1_10, ins_5, ini_5, uw_5, tyX1_ok, fun j hj => by
  have hj : j < 14 := hj
  match j, hj with
  | 0, _ => rfl
  | 1, _ => rfl
  | 2, _ => rfl
  | 3, _ => rfl
  | 4, _ => rfl
  | 5, _ => rfl
  | 6, _ => rfl
  | 7, _ => rfl
  | 8, _ => rfl
  | 9, _ => rfl
  | 10, _ => rfl
  | 11, _ => rfl
  | 12, _ => rfl
  | 13, _ => rfl
  | j + 14, h => exact absurd h (by omega), rfl⟩
theorem fk_X1_35 : Cond.fieldLink "ButtonRegistry$Case" 35 "ButtonRegistry$Case" "id" "I" ∈ Tb := inTb (tb_4 (List.mem_of_getElem? (i := 172) (by decide +kernel))) (by decide +kernel)
theorem fl_X1_35 : FL "ButtonRegistry$Case" 35 5 0 := ⟨_, _, rfl, by decide, fk_X1_35, uw_5, Or.inl rfl⟩
theorem fk_X1_38 : Cond.fieldLink "ButtonRegistry$Case" 38 "ButtonRegistry$Case" "plaintiff" "I" ∈ Tb := inTb (tb_4 (List.mem_of_getElem? (i := 175) (by decide +kernel))) (by decide +kernel)
theorem fl_X1_38 : FL "ButtonRegistry$Case" 38 5 1 := ⟨_, _, rfl, by decide, fk_X1_38, uw_5, Or.inl rfl⟩
theorem fk_X1_41 : Cond.fieldLink "ButtonRegistry$Case" 41 "ButtonRegistry$Case" "defendant" "I" ∈ Tb := inTb (tb_4 (List.mem_of_getElem? (i := 178) (by decide +kernel))) (by decide +kernel)
theorem fl_X1_41 : FL "ButtonRegistry$Case" 41 5 2 := ⟨_, _, rfl, by decide, fk_X1_41, uw_5, Or.inl rfl⟩
theorem fk_X1_44 : Cond.fieldLink "ButtonRegistry$Case" 44 "ButtonRegistry$Case" "claim" "I" ∈ Tb := inTb (tb_4 (List.mem_of_getElem? (i := 181) (by decide +kernel))) (by decide +kernel)
theorem fl_X1_44 : FL "ButtonRegistry$Case" 44 5 3 := ⟨_, _, rfl, by decide, fk_X1_44, uw_5, Or.inl rfl⟩
theorem fk_X1_47 : Cond.fieldLink "ButtonRegistry$Case" 47 "ButtonRegistry$Case" "duration" "I" ∈ Tb := inTb (tb_4 (List.mem_of_getElem? (i := 185) (by decide +kernel))) (by decide +kernel)
theorem fl_X1_47 : FL "ButtonRegistry$Case" 47 5 4 := ⟨_, _, rfl, by decide, fk_X1_47, uw_5, Or.inl rfl⟩
theorem fk_X1_50 : Cond.fieldLink "ButtonRegistry$Case" 50 "ButtonRegistry$Case" "deadline" "I" ∈ Tb := inTb (tb_4 (List.mem_of_getElem? (i := 189) (by decide +kernel))) (by decide +kernel)
theorem fl_X1_50 : FL "ButtonRegistry$Case" 50 5 5 := ⟨_, _, rfl, by decide, fk_X1_50, uw_5, Or.inl rfl⟩
theorem fk_X1_53 : Cond.fieldLink "ButtonRegistry$Case" 53 "ButtonRegistry$Case" "matter" "Ljava/lang/String;" ∈ Tb := inTb (tb_4 (List.mem_of_getElem? (i := 193) (by decide +kernel))) (by decide +kernel)
theorem fl_X1_53 : FL "ButtonRegistry$Case" 53 5 6 := ⟨_, _, rfl, by decide, fk_X1_53, uw_5, Or.inl rfl⟩
theorem ml_X1_57 : Cond.methodLink "ButtonRegistry$Case" 57 yX1_init ∈ Tb := inTb (tb_4 (List.mem_of_getElem? (i := 168) (by decide +kernel))) (by decide +kernel)
theorem im_X1_init : Cond.instanceMethod yX1_init ∈ Tb := inTb (tb_4 (List.mem_of_getElem? (i := 169) (by decide +kernel))) (by decide +kernel)
theorem fk_X1_9 : Cond.fieldLink "ButtonRegistry$Case" 9 "ButtonRegistry$Case" "standing" "C" ∈ Tb := inTb (tb_4 (List.mem_of_getElem? (i := 196) (by decide +kernel))) (by decide +kernel)
theorem fl_X1_9 : FL "ButtonRegistry$Case" 9 5 7 := ⟨_, _, rfl, by decide, fk_X1_9, uw_5, Or.inl rfl⟩
theorem fp_X1_copy_9 : FP kX1_copy.1 9 5 7 (.char) false := ⟨_, _, tyX1, rfl, by decide, fk_X1_9, uw_5, Or.inl rfl, tyX1_ok, nmX1, rfl, rfl, fun h => by cases h⟩
theorem fk_X1_15 : Cond.fieldLink "ButtonRegistry$Case" 15 "ButtonRegistry$Case" "percentage" "I" ∈ Tb := inTb (tb_4 (List.mem_of_getElem? (i := 200) (by decide +kernel))) (by decide +kernel)
theorem fl_X1_15 : FL "ButtonRegistry$Case" 15 5 8 := ⟨_, _, rfl, by decide, fk_X1_15, uw_5, Or.inl rfl⟩
theorem fp_X1_copy_15 : FP kX1_copy.1 15 5 8 (.int) false := ⟨_, _, tyX1, rfl, by decide, fk_X1_15, uw_5, Or.inl rfl, tyX1_ok, nmX1, rfl, rfl, fun h => by cases h⟩
theorem fk_X1_19 : Cond.fieldLink "ButtonRegistry$Case" 19 "ButtonRegistry$Case" "award" "I" ∈ Tb := inTb (tb_4 (List.mem_of_getElem? (i := 203) (by decide +kernel))) (by decide +kernel)
theorem fl_X1_19 : FL "ButtonRegistry$Case" 19 5 9 := ⟨_, _, rfl, by decide, fk_X1_19, uw_5, Or.inl rfl⟩
theorem fp_X1_copy_19 : FP kX1_copy.1 19 5 9 (.int) false := ⟨_, _, tyX1, rfl, by decide, fk_X1_19, uw_5, Or.inl rfl, tyX1_ok, nmX1, rfl, rfl, fun h => by cases h⟩
theorem fk_X1_22 : Cond.fieldLink "ButtonRegistry$Case" 22 "ButtonRegistry$Case" "cost" "I" ∈ Tb := inTb (tb_4 (List.mem_of_getElem? (i := 206) (by decide +kernel))) (by decide +kernel)
theorem fl_X1_22 : FL "ButtonRegistry$Case" 22 5 10 := ⟨_, _, rfl, by decide, fk_X1_22, uw_5, Or.inl rfl⟩
theorem fp_X1_copy_22 : FP kX1_copy.1 22 5 10 (.int) false := ⟨_, _, tyX1, rfl, by decide, fk_X1_22, uw_5, Or.inl rfl, tyX1_ok, nmX1, rfl, rfl, fun h => by cases h⟩
theorem fk_X1_25 : Cond.fieldLink "ButtonRegistry$Case" 25 "ButtonRegistry$Case" "decidedBy" "I" ∈ Tb := inTb (tb_4 (List.mem_of_getElem? (i := 209) (by decide +kernel))) (by decide +kernel)
theorem fl_X1_25 : FL "ButtonRegistry$Case" 25 5 11 := ⟨_, _, rfl, by decide, fk_X1_25, uw_5, Or.inl rfl⟩
theorem fp_X1_copy_25 : FP kX1_copy.1 25 5 11 (.int) false := ⟨_, _, tyX1, rfl, by decide, fk_X1_25, uw_5, Or.inl rfl, tyX1_ok, nmX1, rfl, rfl, fun h => by cases h⟩
theorem fk_X1_28 : Cond.fieldLink "ButtonRegistry$Case" 28 "ButtonRegistry$Case" "addedAs" "I" ∈ Tb := inTb (tb_4 (List.mem_of_getElem? (i := 211) (by decide +kernel))) (by decide +kernel)
theorem fl_X1_28 : FL "ButtonRegistry$Case" 28 5 12 := ⟨_, _, rfl, by decide, fk_X1_28, uw_5, Or.inl rfl⟩
theorem fp_X1_copy_28 : FP kX1_copy.1 28 5 12 (.int) false := ⟨_, _, tyX1, rfl, by decide, fk_X1_28, uw_5, Or.inl rfl, tyX1_ok, nmX1, rfl, rfl, fun h => by cases h⟩
theorem fk_X1_31 : Cond.fieldLink "ButtonRegistry$Case" 31 "ButtonRegistry$Case" "appealed" "Z" ∈ Tb := inTb (tb_4 (List.mem_of_getElem? (i := 213) (by decide +kernel))) (by decide +kernel)
theorem fl_X1_31 : FL "ButtonRegistry$Case" 31 5 13 := ⟨_, _, rfl, by decide, fk_X1_31, uw_5, Or.inl rfl⟩
theorem fp_X1_copy_31 : FP kX1_copy.1 31 5 13 (.boolean) false := ⟨_, _, tyX1, rfl, by decide, fk_X1_31, uw_5, Or.inl rfl, tyX1_ok, nmX1, rfl, rfl, fun h => by cases h⟩
theorem ml_X1_3 : Cond.methodLink "ButtonRegistry$Case" 3 ⟨"java/lang/Object", "<init>", "()V"⟩ ∈ Tb := inTb (tb_4 (List.mem_of_getElem? (i := 171) (by decide +kernel))) (by decide +kernel)
theorem fp_X1_init_9 : FP kX1_init.1 9 5 7 (.char) false := ⟨_, _, tyX1, rfl, by decide, fk_X1_9, uw_5, Or.inl rfl, tyX1_ok, nmX1, rfl, rfl, fun h => by cases h⟩
theorem fp_X1_init_15 : FP kX1_init.1 15 5 8 (.int) false := ⟨_, _, tyX1, rfl, by decide, fk_X1_15, uw_5, Or.inl rfl, tyX1_ok, nmX1, rfl, rfl, fun h => by cases h⟩
theorem fp_X1_init_19 : FP kX1_init.1 19 5 9 (.int) false := ⟨_, _, tyX1, rfl, by decide, fk_X1_19, uw_5, Or.inl rfl, tyX1_ok, nmX1, rfl, rfl, fun h => by cases h⟩
theorem fp_X1_init_22 : FP kX1_init.1 22 5 10 (.int) false := ⟨_, _, tyX1, rfl, by decide, fk_X1_22, uw_5, Or.inl rfl, tyX1_ok, nmX1, rfl, rfl, fun h => by cases h⟩
theorem fp_X1_init_25 : FP kX1_init.1 25 5 11 (.int) false := ⟨_, _, tyX1, rfl, by decide, fk_X1_25, uw_5, Or.inl rfl, tyX1_ok, nmX1, rfl, rfl, fun h => by cases h⟩
theorem fp_X1_init_28 : FP kX1_init.1 28 5 12 (.int) false := ⟨_, _, tyX1, rfl, by decide, fk_X1_28, uw_5, Or.inl rfl, tyX1_ok, nmX1, rfl, rfl, fun h => by cases h⟩
theorem fp_X1_init_31 : FP kX1_init.1 31 5 13 (.boolean) false := ⟨_, _, tyX1, rfl, by decide, fk_X1_31, uw_5, Or.inl rfl, tyX1_ok, nmX1, rfl, rfl, fun h => by cases h⟩
theorem fp_X1_init_35 : FP kX1_init.1 35 5 0 (.int) true := ⟨_, _, tyX1, rfl, by decide, fk_X1_35, uw_5, Or.inl rfl, tyX1_ok, nmX1, rfl, rfl, fun _ => ⟨rfl, rfl⟩⟩
theorem fp_X1_init_38 : FP kX1_init.1 38 5 1 (.int) true := ⟨_, _, tyX1, rfl, by decide, fk_X1_38, uw_5, Or.inl rfl, tyX1_ok, nmX1, rfl, rfl, fun _ => ⟨rfl, rfl⟩⟩
theorem fp_X1_init_41 : FP kX1_init.1 41 5 2 (.int) true := ⟨_, _, tyX1, rfl, by decide, fk_X1_41, uw_5, Or.inl rfl, tyX1_ok, nmX1, rfl, rfl, fun _ => ⟨rfl, rfl⟩⟩
theorem fp_X1_init_44 : FP kX1_init.1 44 5 3 (.int) true := ⟨_, _, tyX1, rfl, by decide, fk_X1_44, uw_5, Or.inl rfl, tyX1_ok, nmX1, rfl, rfl, fun _ => ⟨rfl, rfl⟩⟩
theorem fp_X1_init_47 : FP kX1_init.1 47 5 4 (.int) true := ⟨_, _, tyX1, rfl, by decide, fk_X1_47, uw_5, Or.inl rfl, tyX1_ok, nmX1, rfl, rfl, fun _ => ⟨rfl, rfl⟩⟩
theorem fp_X1_init_50 : FP kX1_init.1 50 5 5 (.int) true := ⟨_, _, tyX1, rfl, by decide, fk_X1_50, uw_5, Or.inl rfl, tyX1_ok, nmX1, rfl, rfl, fun _ => ⟨rfl, rfl⟩⟩
theorem fp_X1_init_53 : FP kX1_init.1 53 5 6 (.object "java/lang/String") true := ⟨_, _, tyX1, rfl, by decide, fk_X1_53, uw_5, Or.inl rfl, tyX1_ok, nmX1, rfl, rfl, fun _ => ⟨rfl, rfl⟩⟩
theorem fp_X1_ruleAt_15 : FP kX1_ruleAt.1 15 5 8 (.int) false := ⟨_, _, tyX1, rfl, by decide, fk_X1_15, uw_5, Or.inl rfl, tyX1_ok, nmX1, rfl, rfl, fun h => by cases h⟩
theorem fp_X1_ruleAt_19 : FP kX1_ruleAt.1 19 5 9 (.int) false := ⟨_, _, tyX1, rfl, by decide, fk_X1_19, uw_5, Or.inl rfl, tyX1_ok, nmX1, rfl, rfl, fun h => by cases h⟩
theorem fk_X2_112 : Cond.fieldLink "ButtonRegistry$Court" 112 "ButtonRegistry$State" "precedents" "Ljava/util/ArrayList;" ∈ Tb := inTb (tb_1 (List.mem_of_getElem? (i := 90) (by decide +kernel))) (by decide +kernel)
theorem fl_X2_112 : FL "ButtonRegistry$Court" 112 13 3 := ⟨_, _, rfl, by decide, fk_X2_112, uw_13, Or.inl rfl⟩
theorem ml_X2_116 : Cond.methodLink "ButtonRegistry$Court" 116 yJx4a65c_size_8abf5 ∈ Tb := inTb (tb_4 (List.mem_of_getElem? (i := 159) (by decide +kernel))) (by decide +kernel)
theorem fk_X2_217 : Cond.fieldLink "ButtonRegistry$Court" 217 "ButtonRegistry$Case" "addedAs" "I" ∈ Tb := inTb (tb_4 (List.mem_of_getElem? (i := 212) (by decide +kernel))) (by decide +kernel)
theorem fp_X2_addRuling_217 : FP kX2_addRuling.1 217 5 12 (.int) false := ⟨_, _, tyX1, rfl, by decide, fk_X2_217, uw_5, Or.inl rfl, tyX1_ok, nmX1, rfl, rfl, fun h => by cases h⟩
theorem ck_X2_127 : Cond.classLink "ButtonRegistry$Court" 127 "ButtonRegistry$Precedent" ∈ Tb := inTb (tb_5 (List.mem_of_getElem? (i := 40) (by decide +kernel))) (by decide +kernel)
theorem ins_9 : Cond.instantiable "ButtonRegistry$Precedent" 2 ∈ Tb := inTb (tb_5 (List.mem_of_getElem? (i := 94) (by decide +kernel))) (by decide +kernel)
theorem ini_9 : Cond.initialized "ButtonRegistry$Precedent" ∈ Tb := inTb (tb_1 (List.mem_of_getElem? (i := 38) (by decide +kernel))) (by decide +kernel)
theorem nw_X2_127 : NW "ButtonRegistry$Court" 127 9 [.null, .int 0] := ⟨_, tyX5, rfl, ck_X2_127, ins_9, ini_9, uw_9, tyX5_ok, fun j hj => by
  have hj : j < 2 := hj
  match j, hj with
  | 0, _ => rfl
  | 1, _ => rfl
  | j + 2, h => exact absurd h (by omega), rfl⟩
theorem fk_X2_184 : Cond.fieldLink "ButtonRegistry$Court" 184 "ButtonRegistry$Case" "matter" "Ljava/lang/String;" ∈ Tb := inTb (tb_4 (List.mem_of_getElem? (i := 194) (by decide +kernel))) (by decide +kernel)
theorem fl_X2_184 : FL "ButtonRegistry$Court" 184 5 6 := ⟨_, _, rfl, by decide, fk_X2_184, uw_5, Or.inl rfl⟩
theorem fk_X2_220 : Cond.fieldLink "ButtonRegistry$Court" 220 "ButtonRegistry$Case" "percentage" "I" ∈ Tb := inTb (tb_4 (List.mem_of_getElem? (i := 201) (by decide +kernel))) (by decide +kernel)
theorem fl_X2_220 : FL "ButtonRegistry$Court" 220 5 8 := ⟨_, _, rfl, by decide, fk_X2_220, uw_5, Or.inl rfl⟩
theorem ml_X2_129 : Cond.methodLink "ButtonRegistry$Court" 129 yX5_init ∈ Tb := inTb (tb_5 (List.mem_of_getElem? (i := 95) (by decide +kernel))) (by decide +kernel)
theorem im_X5_init : Cond.instanceMethod yX5_init ∈ Tb := inTb (tb_5 (List.mem_of_getElem? (i := 96) (by decide +kernel))) (by decide +kernel)
theorem ml_X2_132 : Cond.methodLink "ButtonRegistry$Court" 132 yJx4a65c_add_9ea2d ∈ Tb := inTb (tb_5 (List.mem_of_getElem? (i := 110) (by decide +kernel))) (by decide +kernel)
theorem ml_X2_147 : Cond.methodLink "ButtonRegistry$Court" 147 yX9_positionOf ∈ Tb := inTb (tb_4 (List.mem_of_getElem? (i := 155) (by decide +kernel))) (by decide +kernel)
theorem fk_X2_136 : Cond.fieldLink "ButtonRegistry$Court" 136 "ButtonRegistry$State" "cases" "Ljava/util/ArrayList;" ∈ Tb := inTb (tb_1 (List.mem_of_getElem? (i := 87) (by decide +kernel))) (by decide +kernel)
theorem fl_X2_136 : FL "ButtonRegistry$Court" 136 13 2 := ⟨_, _, rfl, by decide, fk_X2_136, uw_13, Or.inl rfl⟩
theorem ml_X2_150 : Cond.methodLink "ButtonRegistry$Court" 150 yJx4a65c_get_915e3 ∈ Tb := inTb (tb_4 (List.mem_of_getElem? (i := 160) (by decide +kernel))) (by decide +kernel)
theorem ck_X2_142 : Cond.classLink "ButtonRegistry$Court" 142 "ButtonRegistry$Case" ∈ Tb := inTb (tb_4 (List.mem_of_getElem? (i := 161) (by decide +kernel))) (by decide +kernel)
theorem ml_X2_154 : Cond.methodLink "ButtonRegistry$Court" 154 yX1_copy ∈ Tb := inTb (tb_4 (List.mem_of_getElem? (i := 162) (by decide +kernel))) (by decide +kernel)
theorem im_X1_copy : Cond.instanceMethod yX1_copy ∈ Tb := inTb (tb_4 (List.mem_of_getElem? (i := 163) (by decide +kernel))) (by decide +kernel)
theorem se_X1_copy : Cond.selects "ButtonRegistry$Case" yX1_copy yX1_copy ∈ Tb := inTb (tb_4 (List.mem_of_getElem? (i := 164) (by decide +kernel))) (by decide +kernel)
theorem fk_X2_158 : Cond.fieldLink "ButtonRegistry$Court" 158 "ButtonRegistry$Case" "standing" "C" ∈ Tb := inTb (tb_4 (List.mem_of_getElem? (i := 198) (by decide +kernel))) (by decide +kernel)
theorem fl_X2_158 : FL "ButtonRegistry$Court" 158 5 7 := ⟨_, _, rfl, by decide, fk_X2_158, uw_5, Or.inl rfl⟩
theorem fk_X2_223 : Cond.fieldLink "ButtonRegistry$Court" 223 "ButtonRegistry$Case" "appealed" "Z" ∈ Tb := inTb (tb_4 (List.mem_of_getElem? (i := 214) (by decide +kernel))) (by decide +kernel)
theorem fl_X2_223 : FL "ButtonRegistry$Court" 223 5 13 := ⟨_, _, rfl, by decide, fk_X2_223, uw_5, Or.inl rfl⟩
theorem fk_X2_189 : Cond.fieldLink "ButtonRegistry$Court" 189 "ButtonRegistry$Case" "decidedBy" "I" ∈ Tb := inTb (tb_4 (List.mem_of_getElem? (i := 210) (by decide +kernel))) (by decide +kernel)
theorem fl_X2_189 : FL "ButtonRegistry$Court" 189 5 11 := ⟨_, _, rfl, by decide, fk_X2_189, uw_5, Or.inl rfl⟩
theorem fl_X2_217 : FL "ButtonRegistry$Court" 217 5 12 := ⟨_, _, rfl, by decide, fk_X2_217, uw_5, Or.inl rfl⟩
theorem ml_X2_185 : Cond.methodLink "ButtonRegistry$Court" 185 yX2_nearestOf ∈ Tb := inTb (tb_5 (List.mem_of_getElem? (i := 36) (by decide +kernel))) (by decide +kernel)
theorem fk_X2_207 : Cond.fieldLink "ButtonRegistry$Court" 207 "ButtonRegistry$Case" "award" "I" ∈ Tb := inTb (tb_4 (List.mem_of_getElem? (i := 204) (by decide +kernel))) (by decide +kernel)
theorem fl_X2_207 : FL "ButtonRegistry$Court" 207 5 9 := ⟨_, _, rfl, by decide, fk_X2_207, uw_5, Or.inl rfl⟩
theorem fp_X2_appealCase_223 : FP kX2_appealCase.1 223 5 13 (.boolean) false := ⟨_, _, tyX1, rfl, by decide, fk_X2_223, uw_5, Or.inl rfl, tyX1_ok, nmX1, rfl, rfl, fun h => by cases h⟩
theorem ml_X2_192 : Cond.methodLink "ButtonRegistry$Court" 192 yX2_percentageBy ∈ Tb := inTb (tb_5 (List.mem_of_getElem? (i := 81) (by decide +kernel))) (by decide +kernel)
theorem im_X2_percentageBy : Cond.instanceMethod yX2_percentageBy ∈ Tb := inTb (tb_5 (List.mem_of_getElem? (i := 83) (by decide +kernel))) (by decide +kernel)
theorem se_X2_percentageBy : Cond.selects "ButtonRegistry$Court" yX2_percentageBy yX2_percentageBy ∈ Tb := inTb (List.mem_of_getElem? (i := 14) (by decide +kernel)) (by decide +kernel)
theorem ml_X2_195 : Cond.methodLink "ButtonRegistry$Court" 195 yX1_ruleAt ∈ Tb := inTb (tb_5 (List.mem_of_getElem? (i := 87) (by decide +kernel))) (by decide +kernel)
theorem im_X1_ruleAt : Cond.instanceMethod yX1_ruleAt ∈ Tb := inTb (tb_5 (List.mem_of_getElem? (i := 88) (by decide +kernel))) (by decide +kernel)
theorem se_X1_ruleAt : Cond.selects "ButtonRegistry$Case" yX1_ruleAt yX1_ruleAt ∈ Tb := inTb (tb_5 (List.mem_of_getElem? (i := 89) (by decide +kernel))) (by decide +kernel)
theorem ml_X2_203 : Cond.methodLink "ButtonRegistry$Court" 203 yJx4a65c_set_bcc79 ∈ Tb := inTb (tb_5 (List.mem_of_getElem? (i := 111) (by decide +kernel))) (by decide +kernel)
theorem im_Jx4a65c_set_bcc79 : Cond.instanceMethod yJx4a65c_set_bcc79 ∈ Tb := inTb (tb_5 (List.mem_of_getElem? (i := 112) (by decide +kernel))) (by decide +kernel)
theorem se_Jx4a65c_set_bcc79 : Cond.selects "java/util/ArrayList" yJx4a65c_set_bcc79 yJx4a65c_set_bcc79 ∈ Tb := inTb (tb_5 (List.mem_of_getElem? (i := 113) (by decide +kernel))) (by decide +kernel)
theorem ml_X2_210 : Cond.methodLink "ButtonRegistry$Court" 210 yX2_moveAward ∈ Tb := inTb (tb_5 (List.mem_of_getElem? (i := 115) (by decide +kernel))) (by decide +kernel)
theorem st_X2_moveAward : Cond.static yX2_moveAward ∈ Tb := inTb (tb_5 (List.mem_of_getElem? (i := 116) (by decide +kernel))) (by decide +kernel)
theorem fk_X2_172 : Cond.fieldLink "ButtonRegistry$Court" 172 "ButtonRegistry$Case" "plaintiff" "I" ∈ Tb := inTb (tb_4 (List.mem_of_getElem? (i := 176) (by decide +kernel))) (by decide +kernel)
theorem fl_X2_172 : FL "ButtonRegistry$Court" 172 5 1 := ⟨_, _, rfl, by decide, fk_X2_172, uw_5, Or.inl rfl⟩
theorem ml_X2_227 : Cond.methodLink "ButtonRegistry$Court" 227 yX9_payToChest ∈ Tb := inTb (tb_5 (List.mem_of_getElem? (i := 125) (by decide +kernel))) (by decide +kernel)
theorem im_X9_payToChest : Cond.instanceMethod yX9_payToChest ∈ Tb := inTb (tb_5 (List.mem_of_getElem? (i := 126) (by decide +kernel))) (by decide +kernel)
theorem se_X9_payToChest : Cond.selects "ButtonRegistry$State" yX9_payToChest yX9_payToChest ∈ Tb := inTb (tb_5 (List.mem_of_getElem? (i := 127) (by decide +kernel))) (by decide +kernel)
theorem fk_X2_175 : Cond.fieldLink "ButtonRegistry$Court" 175 "ButtonRegistry$Case" "defendant" "I" ∈ Tb := inTb (tb_4 (List.mem_of_getElem? (i := 179) (by decide +kernel))) (by decide +kernel)
theorem fl_X2_175 : FL "ButtonRegistry$Court" 175 5 2 := ⟨_, _, rfl, by decide, fk_X2_175, uw_5, Or.inl rfl⟩
theorem ml_X2_248 : Cond.methodLink "ButtonRegistry$Court" 248 yJx4a65c_remove_915e3 ∈ Tb := inTb (tb_5 (List.mem_of_getElem? (i := 152) (by decide +kernel))) (by decide +kernel)
theorem fk_X2_90 : Cond.fieldLink "ButtonRegistry$Court" 90 "ButtonRegistry$State" "buttons" "I" ∈ Tb := inTb (tb_1 (List.mem_of_getElem? (i := 93) (by decide +kernel))) (by decide +kernel)
theorem fl_X2_90 : FL "ButtonRegistry$Court" 90 13 4 := ⟨_, _, rfl, by decide, fk_X2_90, uw_13, Or.inl rfl⟩
theorem fp_X2_enterButton_90 : FP kX2_enterButton.1 90 13 4 (.int) false := ⟨_, _, tyX9, rfl, by decide, fk_X2_90, uw_13, Or.inl rfl, tyX9_ok, nmX9, rfl, rfl, fun h => by cases h⟩
theorem ml_X2_96 : Cond.methodLink "ButtonRegistry$Court" 96 yX9_hasButton ∈ Tb := inTb (tb_6 (List.mem_of_getElem? (i := 122) (by decide +kernel))) (by decide +kernel)
theorem ml_X2_100 : Cond.methodLink "ButtonRegistry$Court" 100 yX2_isBetween ∈ Tb := inTb (tb_5 (List.mem_of_getElem? (i := 164) (by decide +kernel))) (by decide +kernel)
theorem st_X2_isBetween : Cond.static yX2_isBetween ∈ Tb := inTb (tb_5 (List.mem_of_getElem? (i := 165) (by decide +kernel))) (by decide +kernel)
theorem ml_X2_121 : Cond.methodLink "ButtonRegistry$Court" 121 yJ0_isEmpty_aae02 ∈ Tb := inTb (tb_6 (List.mem_of_getElem? (i := 140) (by decide +kernel))) (by decide +kernel)
theorem im_J0_isEmpty_aae02 : Cond.instanceMethod yJ0_isEmpty_aae02 ∈ Tb := inTb (tb_6 (List.mem_of_getElem? (i := 141) (by decide +kernel))) (by decide +kernel)
theorem se_J0_isEmpty_aae02 : Cond.selects "java/lang/String" yJ0_isEmpty_aae02 yJ0_isEmpty_aae02 ∈ Tb := inTb (tb_6 (List.mem_of_getElem? (i := 142) (by decide +kernel))) (by decide +kernel)
theorem fk_X2_139 : Cond.fieldLink "ButtonRegistry$Court" 139 "ButtonRegistry$State" "nextId" "I" ∈ Tb := inTb (tb_1 (List.mem_of_getElem? (i := 105) (by decide +kernel))) (by decide +kernel)
theorem fl_X2_139 : FL "ButtonRegistry$Court" 139 13 7 := ⟨_, _, rfl, by decide, fk_X2_139, uw_13, Or.inl rfl⟩
theorem fp_X2_enterCase_139 : FP kX2_enterCase.1 139 13 7 (.int) false := ⟨_, _, tyX9, rfl, by decide, fk_X2_139, uw_13, Or.inl rfl, tyX9_ok, nmX9, rfl, rfl, fun h => by cases h⟩
theorem nw_X2_142 : NW "ButtonRegistry$Court" 142 5 [.int 0, .int 0, .int 0, .int 0, .int 0, .int 0, .null, .int 0, .int 0, .int 0, .int 0, .int 0, .int 0, .int 0] := ⟨_, tyX1, rfl, ck_X2_142, ins_5, ini_5, uw_5, tyX1_ok, fun j hj => by
  have hj : j < 14 := hj
  match j, hj with
  | 0, _ => rfl
  | 1, _ => rfl
  | 2, _ => rfl
  | 3, _ => rfl
  | 4, _ => rfl
  | 5, _ => rfl
  | 6, _ => rfl
  | 7, _ => rfl
  | 8, _ => rfl
  | 9, _ => rfl
  | 10, _ => rfl
  | 11, _ => rfl
  | 12, _ => rfl
  | 13, _ => rfl
  | j + 14, h => exact absurd h (by omega), rfl⟩
theorem ml_X2_144 : Cond.methodLink "ButtonRegistry$Court" 144 yX1_init ∈ Tb := inTb (tb_6 (List.mem_of_getElem? (i := 144) (by decide +kernel))) (by decide +kernel)
theorem fk_X2_162 : Cond.fieldLink "ButtonRegistry$Court" 162 "ButtonRegistry$State" "today" "I" ∈ Tb := inTb (tb_1 (List.mem_of_getElem? (i := 102) (by decide +kernel))) (by decide +kernel)
theorem fl_X2_162 : FL "ButtonRegistry$Court" 162 13 6 := ⟨_, _, rfl, by decide, fk_X2_162, uw_13, Or.inl rfl⟩
theorem fk_X2_165 : Cond.fieldLink "ButtonRegistry$Court" 165 "ButtonRegistry$Case" "duration" "I" ∈ Tb := inTb (tb_4 (List.mem_of_getElem? (i := 187) (by decide +kernel))) (by decide +kernel)
theorem fl_X2_165 : FL "ButtonRegistry$Court" 165 5 4 := ⟨_, _, rfl, by decide, fk_X2_165, uw_5, Or.inl rfl⟩
theorem fk_X2_168 : Cond.fieldLink "ButtonRegistry$Court" 168 "ButtonRegistry$Case" "deadline" "I" ∈ Tb := inTb (tb_4 (List.mem_of_getElem? (i := 191) (by decide +kernel))) (by decide +kernel)
theorem fl_X2_168 : FL "ButtonRegistry$Court" 168 5 5 := ⟨_, _, rfl, by decide, fk_X2_168, uw_5, Or.inl rfl⟩
theorem ml_X2_171 : Cond.methodLink "ButtonRegistry$Court" 171 yJx4a65c_isEmpty_aae02 ∈ Tb := inTb (tb_5 (List.mem_of_getElem? (i := 4) (by decide +kernel))) (by decide +kernel)
theorem fp_X2_hearCase_162 : FP kX2_hearCase.1 162 13 6 (.int) false := ⟨_, _, tyX9, rfl, by decide, fk_X2_162, uw_13, Or.inl rfl, tyX9_ok, nmX9, rfl, rfl, fun h => by cases h⟩
theorem fk_X2_12 : Cond.fieldLink "ButtonRegistry$Court" 12 "ButtonRegistry$Court" "threads" "LButtonRegistry$Threads;" ∈ Tb := inTb (tb_1 (List.mem_of_getElem? (i := 198) (by decide +kernel))) (by decide +kernel)
theorem fl_X2_12 : FL "ButtonRegistry$Court" 12 6 0 := ⟨_, _, rfl, by decide, fk_X2_12, uw_6, Or.inl rfl⟩
theorem ml_X2_178 : Cond.methodLink "ButtonRegistry$Court" 178 yX10_strainByJoining ∈ Tb := inTb (tb_5 (List.mem_of_getElem? (i := 8) (by decide +kernel))) (by decide +kernel)
theorem fk_X2_181 : Cond.fieldLink "ButtonRegistry$Court" 181 "ButtonRegistry$Case" "cost" "I" ∈ Tb := inTb (tb_4 (List.mem_of_getElem? (i := 207) (by decide +kernel))) (by decide +kernel)
theorem fp_X2_hearCase_181 : FP kX2_hearCase.1 181 5 10 (.int) false := ⟨_, _, tyX1, rfl, by decide, fk_X2_181, uw_5, Or.inl rfl, tyX1_ok, nmX1, rfl, rfl, fun h => by cases h⟩
theorem fp_X2_hearCase_158 : FP kX2_hearCase.1 158 5 7 (.char) false := ⟨_, _, tyX1, rfl, by decide, fk_X2_158, uw_5, Or.inl rfl, tyX1_ok, nmX1, rfl, rfl, fun h => by cases h⟩
theorem fp_X2_hearCase_189 : FP kX2_hearCase.1 189 5 11 (.int) false := ⟨_, _, tyX1, rfl, by decide, fk_X2_189, uw_5, Or.inl rfl, tyX1_ok, nmX1, rfl, rfl, fun h => by cases h⟩
theorem ml_X2_199 : Cond.methodLink "ButtonRegistry$Court" 199 yX2_addRuling ∈ Tb := inTb (tb_5 (List.mem_of_getElem? (i := 91) (by decide +kernel))) (by decide +kernel)
theorem st_X2_addRuling : Cond.static yX2_addRuling ∈ Tb := inTb (tb_5 (List.mem_of_getElem? (i := 92) (by decide +kernel))) (by decide +kernel)
theorem ml_X2_214 : Cond.methodLink "ButtonRegistry$Court" 214 yX2_shareCost ∈ Tb := inTb (tb_5 (List.mem_of_getElem? (i := 122) (by decide +kernel))) (by decide +kernel)
theorem st_X2_shareCost : Cond.static yX2_shareCost ∈ Tb := inTb (tb_5 (List.mem_of_getElem? (i := 123) (by decide +kernel))) (by decide +kernel)
theorem ml_X2_3 : Cond.methodLink "ButtonRegistry$Court" 3 ⟨"java/lang/Object", "<init>", "()V"⟩ ∈ Tb := inTb (tb_1 (List.mem_of_getElem? (i := 163) (by decide +kernel))) (by decide +kernel)
theorem ck_X2_9 : Cond.classLink "ButtonRegistry$Court" 9 "ButtonRegistry$Threads" ∈ Tb := inTb (tb_1 (List.mem_of_getElem? (i := 164) (by decide +kernel))) (by decide +kernel)
theorem ins_14 : Cond.instantiable "ButtonRegistry$Threads" 3 ∈ Tb := inTb (tb_1 (List.mem_of_getElem? (i := 165) (by decide +kernel))) (by decide +kernel)
theorem ini_14 : Cond.initialized "ButtonRegistry$Threads" ∈ Tb := inTb (tb_1 (List.mem_of_getElem? (i := 11) (by decide +kernel))) (by decide +kernel)
theorem nw_X2_9 : NW "ButtonRegistry$Court" 9 14 [.null, .null, .null] := ⟨_, tyX10, rfl, ck_X2_9, ins_14, ini_14, uw_14, tyX10_ok, fun j hj => by
  have hj : j < 3 := hj
  match j, hj with
  | 0, _ => rfl
  | 1, _ => rfl
  | 2, _ => rfl
  | j + 3, h => exact absurd h (by omega), rfl⟩
theorem mln_X2_11 : Cond.methodLinkNest "ButtonRegistry$Court" 11 yX10_init "ButtonRegistry" ∈ Tc := inTc (tb_1 (List.mem_of_getElem? (i := 166) (by decide +kernel))) (by decide +kernel)
theorem im_X10_init : Cond.instanceMethod yX10_init ∈ Tb := inTb (tb_1 (List.mem_of_getElem? (i := 167) (by decide +kernel))) (by decide +kernel)
theorem fp_X2_init_12 : FP kX2_init.1 12 6 0 (.object "ButtonRegistry$Threads") true := ⟨_, _, tyX2, rfl, by decide, fk_X2_12, uw_6, Or.inl rfl, tyX2_ok, nmX2, rfl, rfl, fun _ => ⟨rfl, rfl⟩⟩
theorem ck_X2_18 : Cond.classLink "ButtonRegistry$Court" 18 "ButtonRegistry$Ruler" ∈ Tb := inTb (tb_1 (List.mem_of_getElem? (i := 181) (by decide +kernel))) (by decide +kernel)
theorem ins_10 : Cond.instantiable "ButtonRegistry$Ruler" 3 ∈ Tb := inTb (tb_1 (List.mem_of_getElem? (i := 182) (by decide +kernel))) (by decide +kernel)
theorem ini_10 : Cond.initialized "ButtonRegistry$Ruler" ∈ Tb := inTb (tb_1 (List.mem_of_getElem? (i := 12) (by decide +kernel))) (by decide +kernel)
theorem nw_X2_18 : NW "ButtonRegistry$Court" 18 10 [.null, .null, .null] := ⟨_, tyX6, rfl, ck_X2_18, ins_10, ini_10, uw_10, tyX6_ok, fun j hj => by
  have hj : j < 3 := hj
  match j, hj with
  | 0, _ => rfl
  | 1, _ => rfl
  | 2, _ => rfl
  | j + 3, h => exact absurd h (by omega), rfl⟩
theorem mln_X2_20 : Cond.methodLinkNest "ButtonRegistry$Court" 20 yX6_init "ButtonRegistry" ∈ Tc := inTc (tb_1 (List.mem_of_getElem? (i := 183) (by decide +kernel))) (by decide +kernel)
theorem im_X6_init : Cond.instanceMethod yX6_init ∈ Tb := inTb (tb_1 (List.mem_of_getElem? (i := 184) (by decide +kernel))) (by decide +kernel)
theorem fk_X2_21 : Cond.fieldLink "ButtonRegistry$Court" 21 "ButtonRegistry$Court" "ruler" "LButtonRegistry$Ruler;" ∈ Tb := inTb (tb_1 (List.mem_of_getElem? (i := 200) (by decide +kernel))) (by decide +kernel)
theorem fp_X2_init_21 : FP kX2_init.1 21 6 1 (.object "ButtonRegistry$Ruler") true := ⟨_, _, tyX2, rfl, by decide, fk_X2_21, uw_6, Or.inl rfl, tyX2_ok, nmX2, rfl, rfl, fun _ => ⟨rfl, rfl⟩⟩
theorem ml_X2_104 : Cond.methodLink "ButtonRegistry$Court" 104 yX9_tensionBetween ∈ Tb := inTb (tb_6 (List.mem_of_getElem? (i := 123) (by decide +kernel))) (by decide +kernel)
theorem ml_X2_108 : Cond.methodLink "ButtonRegistry$Court" 108 yX9_putTension ∈ Tb := inTb (tb_6 (List.mem_of_getElem? (i := 124) (by decide +kernel))) (by decide +kernel)
theorem im_X9_putTension : Cond.instanceMethod yX9_putTension ∈ Tb := inTb (tb_6 (List.mem_of_getElem? (i := 125) (by decide +kernel))) (by decide +kernel)
theorem se_X9_putTension : Cond.selects "ButtonRegistry$State" yX9_putTension yX9_putTension ∈ Tb := inTb (tb_6 (List.mem_of_getElem? (i := 126) (by decide +kernel))) (by decide +kernel)
theorem fp_X2_letDaysPass_162 : FP kX2_letDaysPass.1 162 13 6 (.int) false := ⟨_, _, tyX9, rfl, by decide, fk_X2_162, uw_13, Or.inl rfl, tyX9_ok, nmX9, rfl, rfl, fun h => by cases h⟩
theorem ml_X2_245 : Cond.methodLink "ButtonRegistry$Court" 245 yX9_addCoins ∈ Tb := inTb (tb_5 (List.mem_of_getElem? (i := 118) (by decide +kernel))) (by decide +kernel)
theorem im_X9_addCoins : Cond.instanceMethod yX9_addCoins ∈ Tb := inTb (tb_5 (List.mem_of_getElem? (i := 119) (by decide +kernel))) (by decide +kernel)
theorem se_X9_addCoins : Cond.selects "ButtonRegistry$State" yX9_addCoins yX9_addCoins ∈ Tb := inTb (tb_5 (List.mem_of_getElem? (i := 120) (by decide +kernel))) (by decide +kernel)
theorem ml_X2_254 : Cond.methodLink "ButtonRegistry$Court" 254 yX9_balanceOf ∈ Tb := inTb (tb_6 (List.mem_of_getElem? (i := 160) (by decide +kernel))) (by decide +kernel)
theorem fl_X2_21 : FL "ButtonRegistry$Court" 21 6 1 := ⟨_, _, rfl, by decide, fk_X2_21, uw_6, Or.inl rfl⟩
theorem fk_X2_231 : Cond.fieldLink "ButtonRegistry$Court" 231 "ButtonRegistry$Precedent" "matter" "Ljava/lang/String;" ∈ Tb := inTb (tb_5 (List.mem_of_getElem? (i := 100) (by decide +kernel))) (by decide +kernel)
theorem fl_X2_231 : FL "ButtonRegistry$Court" 231 9 0 := ⟨_, _, rfl, by decide, fk_X2_231, uw_9, Or.inl rfl⟩
theorem ml_X2_232 : Cond.methodLink "ButtonRegistry$Court" 232 yX6_byBeginnings ∈ Tb := inTb (tb_5 (List.mem_of_getElem? (i := 41) (by decide +kernel))) (by decide +kernel)
theorem fk_X2_236 : Cond.fieldLink "ButtonRegistry$Court" 236 "ButtonRegistry$Precedent" "percentage" "I" ∈ Tb := inTb (tb_5 (List.mem_of_getElem? (i := 103) (by decide +kernel))) (by decide +kernel)
theorem fl_X2_236 : FL "ButtonRegistry$Court" 236 9 1 := ⟨_, _, rfl, by decide, fk_X2_236, uw_9, Or.inl rfl⟩
theorem ml_X2_237 : Cond.methodLink "ButtonRegistry$Court" 237 yJ9_max_7cf53 ∈ Tb := inTb (tb_5 (List.mem_of_getElem? (i := 85) (by decide +kernel))) (by decide +kernel)
theorem ml_X2_242 : Cond.methodLink "ButtonRegistry$Court" 242 yJ9_min_7cf53 ∈ Tb := inTb (tb_5 (List.mem_of_getElem? (i := 86) (by decide +kernel))) (by decide +kernel)
theorem ml_X2_25 : Cond.methodLink "ButtonRegistry$Court" 25 yX4_number ∈ Tb := inTb (tb_6 (List.mem_of_getElem? (i := 105) (by decide +kernel))) (by decide +kernel)
theorem im_X4_number : Cond.instanceMethod yX4_number ∈ Tb := inTb (tb_6 (List.mem_of_getElem? (i := 106) (by decide +kernel))) (by decide +kernel)
theorem se_X4_number : Cond.selects "ButtonRegistry$Order" yX4_number yX4_number ∈ Tb := inTb (tb_6 (List.mem_of_getElem? (i := 107) (by decide +kernel))) (by decide +kernel)
theorem fs_X2_31 : Cond.fieldLink "ButtonRegistry$Court" 31 "ButtonRegistry$1" "$SwitchMap$ButtonRegistry$Verb" "[I" ∈ Tb := inTb (tb_6 (List.mem_of_getElem? (i := 109) (by decide +kernel))) (by decide +kernel)
theorem fk_X2_37 : Cond.fieldLink "ButtonRegistry$Court" 37 "ButtonRegistry$Order" "verb" "LButtonRegistry$Verb;" ∈ Tb := inTb (tb_6 (List.mem_of_getElem? (i := 24) (by decide +kernel))) (by decide +kernel)
theorem fl_X2_37 : FL "ButtonRegistry$Court" 37 8 0 := ⟨_, _, rfl, by decide, fk_X2_37, uw_8, Or.inl rfl⟩
theorem ml_X2_41 : Cond.methodLink "ButtonRegistry$Court" 41 ⟨"ButtonRegistry$Verb", "ordinal", "()I"⟩ ∈ Tb := inTb (tb_6 (List.mem_of_getElem? (i := 111) (by decide +kernel))) (by decide +kernel)
theorem ml_X2_47 : Cond.methodLink "ButtonRegistry$Court" 47 yX2_enterButton ∈ Tb := inTb (tb_6 (List.mem_of_getElem? (i := 117) (by decide +kernel))) (by decide +kernel)
theorem ml_X2_51 : Cond.methodLink "ButtonRegistry$Court" 51 yX2_joinButtons ∈ Tb := inTb (tb_6 (List.mem_of_getElem? (i := 118) (by decide +kernel))) (by decide +kernel)
theorem ml_X2_55 : Cond.methodLink "ButtonRegistry$Court" 55 yX2_separateButtons ∈ Tb := inTb (tb_6 (List.mem_of_getElem? (i := 132) (by decide +kernel))) (by decide +kernel)
theorem ml_X2_63 : Cond.methodLink "ButtonRegistry$Court" 63 yX2_enterCase ∈ Tb := inTb (tb_6 (List.mem_of_getElem? (i := 136) (by decide +kernel))) (by decide +kernel)
theorem ml_X2_67 : Cond.methodLink "ButtonRegistry$Court" 67 yX2_enterPrecedent ∈ Tb := inTb (tb_6 (List.mem_of_getElem? (i := 145) (by decide +kernel))) (by decide +kernel)
theorem ml_X2_71 : Cond.methodLink "ButtonRegistry$Court" 71 yX2_hearCase ∈ Tb := inTb (tb_6 (List.mem_of_getElem? (i := 149) (by decide +kernel))) (by decide +kernel)
theorem ml_X2_75 : Cond.methodLink "ButtonRegistry$Court" 75 yX2_appealCase ∈ Tb := inTb (tb_6 (List.mem_of_getElem? (i := 150) (by decide +kernel))) (by decide +kernel)
theorem ml_X2_78 : Cond.methodLink "ButtonRegistry$Court" 78 yX2_withdrawCase ∈ Tb := inTb (tb_6 (List.mem_of_getElem? (i := 151) (by decide +kernel))) (by decide +kernel)
theorem ml_X2_81 : Cond.methodLink "ButtonRegistry$Court" 81 yX2_closeCase ∈ Tb := inTb (tb_6 (List.mem_of_getElem? (i := 152) (by decide +kernel))) (by decide +kernel)
theorem ml_X2_84 : Cond.methodLink "ButtonRegistry$Court" 84 yX2_moveCoins ∈ Tb := inTb (tb_6 (List.mem_of_getElem? (i := 156) (by decide +kernel))) (by decide +kernel)
theorem ml_X2_87 : Cond.methodLink "ButtonRegistry$Court" 87 yX2_letDaysPass ∈ Tb := inTb (tb_6 (List.mem_of_getElem? (i := 164) (by decide +kernel))) (by decide +kernel)
theorem fl_X2_181 : FL "ButtonRegistry$Court" 181 5 10 := ⟨_, _, rfl, by decide, fk_X2_181, uw_5, Or.inl rfl⟩
theorem fk_X2_251 : Cond.fieldLink "ButtonRegistry$Court" 251 "ButtonRegistry$Case" "claim" "I" ∈ Tb := inTb (tb_4 (List.mem_of_getElem? (i := 183) (by decide +kernel))) (by decide +kernel)
theorem fl_X2_251 : FL "ButtonRegistry$Court" 251 5 3 := ⟨_, _, rfl, by decide, fk_X2_251, uw_5, Or.inl rfl⟩
theorem fk_X3_18 : Cond.fieldLink "ButtonRegistry$Docket" 18 "ButtonRegistry$Docket" "bestAfter" "[I" ∈ Tb := inTb (tb_1 (List.mem_of_getElem? (i := 216) (by decide +kernel))) (by decide +kernel)
theorem fl_X3_18 : FL "ButtonRegistry$Docket" 18 7 1 := ⟨_, _, rfl, by decide, fk_X3_18, uw_7, Or.inl rfl⟩
theorem fk_X3_52 : Cond.fieldLink "ButtonRegistry$Docket" 52 "ButtonRegistry$Case" "duration" "I" ∈ Tb := inTb (tb_4 (List.mem_of_getElem? (i := 186) (by decide +kernel))) (by decide +kernel)
theorem fl_X3_52 : FL "ButtonRegistry$Docket" 52 5 4 := ⟨_, _, rfl, by decide, fk_X3_52, uw_5, Or.inl rfl⟩
theorem fk_X3_55 : Cond.fieldLink "ButtonRegistry$Docket" 55 "ButtonRegistry$Case" "deadline" "I" ∈ Tb := inTb (tb_4 (List.mem_of_getElem? (i := 190) (by decide +kernel))) (by decide +kernel)
theorem fl_X3_55 : FL "ButtonRegistry$Docket" 55 5 5 := ⟨_, _, rfl, by decide, fk_X3_55, uw_5, Or.inl rfl⟩
theorem fk_X3_58 : Cond.fieldLink "ButtonRegistry$Docket" 58 "ButtonRegistry$Case" "claim" "I" ∈ Tb := inTb (tb_4 (List.mem_of_getElem? (i := 182) (by decide +kernel))) (by decide +kernel)
theorem fl_X3_58 : FL "ButtonRegistry$Docket" 58 5 3 := ⟨_, _, rfl, by decide, fk_X3_58, uw_5, Or.inl rfl⟩
theorem ml_X3_46 : Cond.methodLink "ButtonRegistry$Docket" 46 yJ9_max_7cf53 ∈ Tb := inTb (tb_7 (List.mem_of_getElem? (i := 124) (by decide +kernel))) (by decide +kernel)
theorem ml_X3_22 : Cond.methodLink "ButtonRegistry$Docket" 22 yX3_collectFiled ∈ Tb := inTb (tb_7 (List.mem_of_getElem? (i := 87) (by decide +kernel))) (by decide +kernel)
theorem im_X3_collectFiled : Cond.instanceMethod yX3_collectFiled ∈ Tb := inTb (tb_7 (List.mem_of_getElem? (i := 89) (by decide +kernel))) (by decide +kernel)
theorem se_X3_collectFiled : Cond.selects "ButtonRegistry$Docket" yX3_collectFiled yX3_collectFiled ∈ Tb := inTb (List.mem_of_getElem? (i := 25) (by decide +kernel)) (by decide +kernel)
theorem fk_X3_12 : Cond.fieldLink "ButtonRegistry$Docket" 12 "ButtonRegistry$Docket" "filed" "Ljava/util/ArrayList;" ∈ Tb := inTb (tb_1 (List.mem_of_getElem? (i := 215) (by decide +kernel))) (by decide +kernel)
theorem fl_X3_12 : FL "ButtonRegistry$Docket" 12 7 0 := ⟨_, _, rfl, by decide, fk_X3_12, uw_7, Or.inl rfl⟩
theorem ml_X3_26 : Cond.methodLink "ButtonRegistry$Docket" 26 yJx4a65c_size_8abf5 ∈ Tb := inTb (tb_7 (List.mem_of_getElem? (i := 92) (by decide +kernel))) (by decide +kernel)
theorem ml_X3_30 : Cond.methodLink "ButtonRegistry$Docket" 30 yJx4a65c_get_915e3 ∈ Tb := inTb (tb_7 (List.mem_of_getElem? (i := 93) (by decide +kernel))) (by decide +kernel)
theorem ck_X3_34 : Cond.classLink "ButtonRegistry$Docket" 34 "ButtonRegistry$Case" ∈ Tb := inTb (tb_7 (List.mem_of_getElem? (i := 94) (by decide +kernel))) (by decide +kernel)
theorem fk_X3_36 : Cond.fieldLink "ButtonRegistry$Docket" 36 "ButtonRegistry$State" "today" "I" ∈ Tb := inTb (tb_1 (List.mem_of_getElem? (i := 101) (by decide +kernel))) (by decide +kernel)
theorem fl_X3_36 : FL "ButtonRegistry$Docket" 36 13 6 := ⟨_, _, rfl, by decide, fk_X3_36, uw_13, Or.inl rfl⟩
theorem ml_X3_42 : Cond.methodLink "ButtonRegistry$Docket" 42 yX3_addToTable ∈ Tb := inTb (tb_7 (List.mem_of_getElem? (i := 120) (by decide +kernel))) (by decide +kernel)
theorem im_X3_addToTable : Cond.instanceMethod yX3_addToTable ∈ Tb := inTb (tb_7 (List.mem_of_getElem? (i := 122) (by decide +kernel))) (by decide +kernel)
theorem se_X3_addToTable : Cond.selects "ButtonRegistry$Docket" yX3_addToTable yX3_addToTable ∈ Tb := inTb (List.mem_of_getElem? (i := 29) (by decide +kernel)) (by decide +kernel)
theorem ml_X3_64 : Cond.methodLink "ButtonRegistry$Docket" 64 yJx4a65c_clear_da8c8 ∈ Tb := inTb (tb_7 (List.mem_of_getElem? (i := 91) (by decide +kernel))) (by decide +kernel)
theorem fk_X3_67 : Cond.fieldLink "ButtonRegistry$Docket" 67 "ButtonRegistry$State" "cases" "Ljava/util/ArrayList;" ∈ Tb := inTb (tb_1 (List.mem_of_getElem? (i := 86) (by decide +kernel))) (by decide +kernel)
theorem fl_X3_67 : FL "ButtonRegistry$Docket" 67 13 2 := ⟨_, _, rfl, by decide, fk_X3_67, uw_13, Or.inl rfl⟩
theorem fk_X3_70 : Cond.fieldLink "ButtonRegistry$Docket" 70 "ButtonRegistry$Case" "standing" "C" ∈ Tb := inTb (tb_4 (List.mem_of_getElem? (i := 197) (by decide +kernel))) (by decide +kernel)
theorem fl_X3_70 : FL "ButtonRegistry$Docket" 70 5 7 := ⟨_, _, rfl, by decide, fk_X3_70, uw_5, Or.inl rfl⟩
theorem ml_X3_74 : Cond.methodLink "ButtonRegistry$Docket" 74 yX3_placeOf ∈ Tb := inTb (tb_7 (List.mem_of_getElem? (i := 95) (by decide +kernel))) (by decide +kernel)
theorem im_X3_placeOf : Cond.instanceMethod yX3_placeOf ∈ Tb := inTb (tb_7 (List.mem_of_getElem? (i := 97) (by decide +kernel))) (by decide +kernel)
theorem se_X3_placeOf : Cond.selects "ButtonRegistry$Docket" yX3_placeOf yX3_placeOf ∈ Tb := inTb (List.mem_of_getElem? (i := 26) (by decide +kernel)) (by decide +kernel)
theorem ml_X3_78 : Cond.methodLink "ButtonRegistry$Docket" 78 yJx4a65c_add_7a177 ∈ Tb := inTb (tb_7 (List.mem_of_getElem? (i := 99) (by decide +kernel))) (by decide +kernel)
theorem im_Jx4a65c_add_7a177 : Cond.instanceMethod yJx4a65c_add_7a177 ∈ Tb := inTb (tb_7 (List.mem_of_getElem? (i := 100) (by decide +kernel))) (by decide +kernel)
theorem se_Jx4a65c_add_7a177 : Cond.selects "java/util/ArrayList" yJx4a65c_add_7a177 yJx4a65c_add_7a177 ∈ Tb := inTb (tb_7 (List.mem_of_getElem? (i := 101) (by decide +kernel))) (by decide +kernel)
theorem ml_X3_3 : Cond.methodLink "ButtonRegistry$Docket" 3 ⟨"java/lang/Object", "<init>", "()V"⟩ ∈ Tb := inTb (tb_1 (List.mem_of_getElem? (i := 212) (by decide +kernel))) (by decide +kernel)
theorem ck_X3_9 : Cond.classLink "ButtonRegistry$Docket" 9 "java/util/ArrayList" ∈ Tb := inTb (tb_1 (List.mem_of_getElem? (i := 213) (by decide +kernel))) (by decide +kernel)
theorem nw_X3_9 : NW "ButtonRegistry$Docket" 9 4 [.int 0, .null, .int 0] := ⟨_, tyJx4a65c, rfl, ck_X3_9, ins_4, ini_4, uw_4, tyJx4a65c_ok, fun j hj => by
  have hj : j < 3 := hj
  match j, hj with
  | 0, _ => rfl
  | 1, _ => rfl
  | 2, _ => rfl
  | j + 3, h => exact absurd h (by omega), rfl⟩
theorem ml_X3_11 : Cond.methodLink "ButtonRegistry$Docket" 11 yJx4a65c_init_da8c8 ∈ Tb := inTb (tb_1 (List.mem_of_getElem? (i := 214) (by decide +kernel))) (by decide +kernel)
theorem fp_X3_init_12 : FP kX3_init.1 12 7 0 (.object "java/util/ArrayList") true := ⟨_, _, tyX3, rfl, by decide, fk_X3_12, uw_7, Or.inl rfl, tyX3_ok, nmX3, rfl, rfl, fun _ => ⟨rfl, rfl⟩⟩
theorem fp_X3_init_18 : FP kX3_init.1 18 7 1 (.array .int) true := ⟨_, _, tyX3, rfl, by decide, fk_X3_18, uw_7, Or.inl rfl, tyX3_ok, nmX3, rfl, rfl, fun _ => ⟨rfl, rfl⟩⟩
theorem fk_X4_13 : Cond.fieldLink "ButtonRegistry$Order" 13 "ButtonRegistry$Order" "count" "I" ∈ Tb := inTb (tb_6 (List.mem_of_getElem? (i := 27) (by decide +kernel))) (by decide +kernel)
theorem fl_X4_13 : FL "ButtonRegistry$Order" 13 8 2 := ⟨_, _, rfl, by decide, fk_X4_13, uw_8, Or.inl rfl⟩
theorem fk_X4_7 : Cond.fieldLink "ButtonRegistry$Order" 7 "ButtonRegistry$Order" "numbers" "[I" ∈ Tb := inTb (tb_6 (List.mem_of_getElem? (i := 26) (by decide +kernel))) (by decide +kernel)
theorem fl_X4_7 : FL "ButtonRegistry$Order" 7 8 1 := ⟨_, _, rfl, by decide, fk_X4_7, uw_8, Or.inl rfl⟩
theorem fp_X4_addNumber_13 : FP kX4_addNumber.1 13 8 2 (.int) false := ⟨_, _, tyX4, rfl, by decide, fk_X4_13, uw_8, Or.inl rfl, tyX4_ok, nmX4, rfl, rfl, fun h => by cases h⟩
theorem ml_X4_1 : Cond.methodLink "ButtonRegistry$Order" 1 ⟨"java/lang/Object", "<init>", "()V"⟩ ∈ Tb := inTb (tb_6 (List.mem_of_getElem? (i := 21) (by decide +kernel))) (by decide +kernel)
theorem fp_X4_init_7 : FP kX4_init.1 7 8 1 (.array .int) true := ⟨_, _, tyX4, rfl, by decide, fk_X4_7, uw_8, Or.inl rfl, tyX4_ok, nmX4, rfl, rfl, fun _ => ⟨rfl, rfl⟩⟩
theorem fp_X4_init_13 : FP kX4_init.1 13 8 2 (.int) false := ⟨_, _, tyX4, rfl, by decide, fk_X4_13, uw_8, Or.inl rfl, tyX4_ok, nmX4, rfl, rfl, fun h => by cases h⟩
theorem fk_X4_19 : Cond.fieldLink "ButtonRegistry$Order" 19 "ButtonRegistry$Order" "matter" "Ljava/lang/String;" ∈ Tb := inTb (tb_6 (List.mem_of_getElem? (i := 28) (by decide +kernel))) (by decide +kernel)
theorem fp_X4_init_19 : FP kX4_init.1 19 8 3 (.object "java/lang/String") false := ⟨_, _, tyX4, rfl, by decide, fk_X4_19, uw_8, Or.inl rfl, tyX4_ok, nmX4, rfl, rfl, fun h => by cases h⟩
theorem fk_X4_23 : Cond.fieldLink "ButtonRegistry$Order" 23 "ButtonRegistry$Order" "verb" "LButtonRegistry$Verb;" ∈ Tb := inTb (tb_6 (List.mem_of_getElem? (i := 23) (by decide +kernel))) (by decide +kernel)
theorem fp_X4_init_23 : FP kX4_init.1 23 8 0 (.object "ButtonRegistry$Verb") true := ⟨_, _, tyX4, rfl, by decide, fk_X4_23, uw_8, Or.inl rfl, tyX4_ok, nmX4, rfl, rfl, fun _ => ⟨rfl, rfl⟩⟩
theorem fp_X4_setMatter_19 : FP kX4_setMatter.1 19 8 3 (.object "java/lang/String") false := ⟨_, _, tyX4, rfl, by decide, fk_X4_19, uw_8, Or.inl rfl, tyX4_ok, nmX4, rfl, rfl, fun h => by cases h⟩
theorem ml_X5_1 : Cond.methodLink "ButtonRegistry$Precedent" 1 ⟨"java/lang/Object", "<init>", "()V"⟩ ∈ Tb := inTb (tb_5 (List.mem_of_getElem? (i := 98) (by decide +kernel))) (by decide +kernel)
theorem fk_X5_7 : Cond.fieldLink "ButtonRegistry$Precedent" 7 "ButtonRegistry$Precedent" "matter" "Ljava/lang/String;" ∈ Tb := inTb (tb_5 (List.mem_of_getElem? (i := 99) (by decide +kernel))) (by decide +kernel)
theorem fp_X5_init_7 : FP kX5_init.1 7 9 0 (.object "java/lang/String") true := ⟨_, _, tyX5, rfl, by decide, fk_X5_7, uw_9, Or.inl rfl, tyX5_ok, nmX5, rfl, rfl, fun _ => ⟨rfl, rfl⟩⟩
theorem fk_X5_13 : Cond.fieldLink "ButtonRegistry$Precedent" 13 "ButtonRegistry$Precedent" "percentage" "I" ∈ Tb := inTb (tb_5 (List.mem_of_getElem? (i := 102) (by decide +kernel))) (by decide +kernel)
theorem fp_X5_init_13 : FP kX5_init.1 13 9 1 (.int) true := ⟨_, _, tyX5, rfl, by decide, fk_X5_13, uw_9, Or.inl rfl, tyX5_ok, nmX5, rfl, rfl, fun _ => ⟨rfl, rfl⟩⟩
theorem ml_X6_34 : Cond.methodLink "ButtonRegistry$Ruler" 34 yX6_cellAt ∈ Tb := inTb (tb_5 (List.mem_of_getElem? (i := 69) (by decide +kernel))) (by decide +kernel)
theorem im_X6_cellAt : Cond.instanceMethod yX6_cellAt ∈ Tb := inTb (tb_5 (List.mem_of_getElem? (i := 71) (by decide +kernel))) (by decide +kernel)
theorem se_X6_cellAt : Cond.selects "ButtonRegistry$Ruler" yX6_cellAt yX6_cellAt ∈ Tb := inTb (List.mem_of_getElem? (i := 11) (by decide +kernel)) (by decide +kernel)
theorem ml_X6_37 : Cond.methodLink "ButtonRegistry$Ruler" 37 yJ9_min_7cf53 ∈ Tb := inTb (tb_5 (List.mem_of_getElem? (i := 49) (by decide +kernel))) (by decide +kernel)
theorem ml_X6_42 : Cond.methodLink "ButtonRegistry$Ruler" 42 yX6_sameLetter ∈ Tb := inTb (tb_5 (List.mem_of_getElem? (i := 73) (by decide +kernel))) (by decide +kernel)
theorem im_X6_sameLetter : Cond.instanceMethod yX6_sameLetter ∈ Tb := inTb (tb_5 (List.mem_of_getElem? (i := 75) (by decide +kernel))) (by decide +kernel)
theorem se_X6_sameLetter : Cond.selects "ButtonRegistry$Ruler" yX6_sameLetter yX6_sameLetter ∈ Tb := inTb (List.mem_of_getElem? (i := 12) (by decide +kernel)) (by decide +kernel)
theorem fk_X6_9 : Cond.fieldLink "ButtonRegistry$Ruler" 9 "ButtonRegistry$Ruler" "firstLetters" "[C" ∈ Tb := inTb (tb_1 (List.mem_of_getElem? (i := 187) (by decide +kernel))) (by decide +kernel)
theorem fl_X6_9 : FL "ButtonRegistry$Ruler" 9 10 0 := ⟨_, _, rfl, by decide, fk_X6_9, uw_10, Or.inl rfl⟩
theorem ml_X6_22 : Cond.methodLink "ButtonRegistry$Ruler" 22 yX6_putLetters ∈ Tb := inTb (tb_5 (List.mem_of_getElem? (i := 45) (by decide +kernel))) (by decide +kernel)
theorem st_X6_putLetters : Cond.static yX6_putLetters ∈ Tb := inTb (tb_5 (List.mem_of_getElem? (i := 46) (by decide +kernel))) (by decide +kernel)
theorem fk_X6_15 : Cond.fieldLink "ButtonRegistry$Ruler" 15 "ButtonRegistry$Ruler" "secondLetters" "[C" ∈ Tb := inTb (tb_1 (List.mem_of_getElem? (i := 188) (by decide +kernel))) (by decide +kernel)
theorem fl_X6_15 : FL "ButtonRegistry$Ruler" 15 10 1 := ⟨_, _, rfl, by decide, fk_X6_15, uw_10, Or.inl rfl⟩
theorem ml_X6_26 : Cond.methodLink "ButtonRegistry$Ruler" 26 yX6_beginningsDistance ∈ Tb := inTb (tb_5 (List.mem_of_getElem? (i := 65) (by decide +kernel))) (by decide +kernel)
theorem im_X6_beginningsDistance : Cond.instanceMethod yX6_beginningsDistance ∈ Tb := inTb (tb_5 (List.mem_of_getElem? (i := 67) (by decide +kernel))) (by decide +kernel)
theorem se_X6_beginningsDistance : Cond.selects "ButtonRegistry$Ruler" yX6_beginningsDistance yX6_beginningsDistance ∈ Tb := inTb (List.mem_of_getElem? (i := 10) (by decide +kernel)) (by decide +kernel)
theorem ml_X6_30 : Cond.methodLink "ButtonRegistry$Ruler" 30 yX6_putCell ∈ Tb := inTb (tb_5 (List.mem_of_getElem? (i := 77) (by decide +kernel))) (by decide +kernel)
theorem im_X6_putCell : Cond.instanceMethod yX6_putCell ∈ Tb := inTb (tb_5 (List.mem_of_getElem? (i := 79) (by decide +kernel))) (by decide +kernel)
theorem se_X6_putCell : Cond.selects "ButtonRegistry$Ruler" yX6_putCell yX6_putCell ∈ Tb := inTb (List.mem_of_getElem? (i := 13) (by decide +kernel)) (by decide +kernel)
theorem fk_X6_18 : Cond.fieldLink "ButtonRegistry$Ruler" 18 "ButtonRegistry$Ruler" "table" "[I" ∈ Tb := inTb (tb_1 (List.mem_of_getElem? (i := 189) (by decide +kernel))) (by decide +kernel)
theorem fl_X6_18 : FL "ButtonRegistry$Ruler" 18 10 2 := ⟨_, _, rfl, by decide, fk_X6_18, uw_10, Or.inl rfl⟩
theorem ml_X6_46 : Cond.methodLink "ButtonRegistry$Ruler" 46 yX6_endsDistance ∈ Tb := inTb (tb_8 (List.mem_of_getElem? (i := 97) (by decide +kernel))) (by decide +kernel)
theorem st_X6_endsDistance : Cond.static yX6_endsDistance ∈ Tb := inTb (tb_8 (List.mem_of_getElem? (i := 98) (by decide +kernel))) (by decide +kernel)
theorem ml_X6_3 : Cond.methodLink "ButtonRegistry$Ruler" 3 ⟨"java/lang/Object", "<init>", "()V"⟩ ∈ Tb := inTb (tb_1 (List.mem_of_getElem? (i := 186) (by decide +kernel))) (by decide +kernel)
theorem fp_X6_init_9 : FP kX6_init.1 9 10 0 (.array .char) true := ⟨_, _, tyX6, rfl, by decide, fk_X6_9, uw_10, Or.inl rfl, tyX6_ok, nmX6, rfl, rfl, fun _ => ⟨rfl, rfl⟩⟩
theorem fp_X6_init_15 : FP kX6_init.1 15 10 1 (.array .char) true := ⟨_, _, tyX6, rfl, by decide, fk_X6_15, uw_10, Or.inl rfl, tyX6_ok, nmX6, rfl, rfl, fun _ => ⟨rfl, rfl⟩⟩
theorem fp_X6_init_18 : FP kX6_init.1 18 10 2 (.array .int) true := ⟨_, _, tyX6, rfl, by decide, fk_X6_18, uw_10, Or.inl rfl, tyX6_ok, nmX6, rfl, rfl, fun _ => ⟨rfl, rfl⟩⟩
theorem ml_X6_50 : Cond.methodLink "ButtonRegistry$Ruler" 50 yJ0_length_8abf5 ∈ Tb := inTb (tb_5 (List.mem_of_getElem? (i := 48) (by decide +kernel))) (by decide +kernel)
theorem ml_X6_56 : Cond.methodLink "ButtonRegistry$Ruler" 56 yJ0_charAt_5068e ∈ Tb := inTb (tb_5 (List.mem_of_getElem? (i := 50) (by decide +kernel))) (by decide +kernel)
theorem ml_X7_3 : Cond.methodLink "ButtonRegistry$ScriptReader" 3 ⟨"java/lang/Object", "<init>", "()V"⟩ ∈ Tb := inTb (tb_5 (List.mem_of_getElem? (i := 230) (by decide +kernel))) (by decide +kernel)
theorem ck_X7_9 : Cond.classLink "ButtonRegistry$ScriptReader" 9 "java/util/ArrayList" ∈ Tb := inTb (tb_5 (List.mem_of_getElem? (i := 231) (by decide +kernel))) (by decide +kernel)
theorem nw_X7_9 : NW "ButtonRegistry$ScriptReader" 9 4 [.int 0, .null, .int 0] := ⟨_, tyJx4a65c, rfl, ck_X7_9, ins_4, ini_4, uw_4, tyJx4a65c_ok, fun j hj => by
  have hj : j < 3 := hj
  match j, hj with
  | 0, _ => rfl
  | 1, _ => rfl
  | 2, _ => rfl
  | j + 3, h => exact absurd h (by omega), rfl⟩
theorem ml_X7_11 : Cond.methodLink "ButtonRegistry$ScriptReader" 11 yJx4a65c_init_da8c8 ∈ Tb := inTb (tb_5 (List.mem_of_getElem? (i := 232) (by decide +kernel))) (by decide +kernel)
theorem fk_X7_12 : Cond.fieldLink "ButtonRegistry$ScriptReader" 12 "ButtonRegistry$ScriptReader" "orders" "Ljava/util/ArrayList;" ∈ Tb := inTb (tb_5 (List.mem_of_getElem? (i := 233) (by decide +kernel))) (by decide +kernel)
theorem fp_X7_init_12 : FP kX7_init.1 12 11 0 (.object "java/util/ArrayList") true := ⟨_, _, tyX7, rfl, by decide, fk_X7_12, uw_11, Or.inl rfl, tyX7_ok, nmX7, rfl, rfl, fun _ => ⟨rfl, rfl⟩⟩
theorem fk_X7_18 : Cond.fieldLink "ButtonRegistry$ScriptReader" 18 "ButtonRegistry$ScriptReader" "position" "I" ∈ Tb := inTb (tb_5 (List.mem_of_getElem? (i := 235) (by decide +kernel))) (by decide +kernel)
theorem fp_X7_init_18 : FP kX7_init.1 18 11 1 (.int) false := ⟨_, _, tyX7, rfl, by decide, fk_X7_18, uw_11, Or.inl rfl, tyX7_ok, nmX7, rfl, rfl, fun h => by cases h⟩
theorem fk_X7_22 : Cond.fieldLink "ButtonRegistry$ScriptReader" 22 "ButtonRegistry$ScriptReader" "text" "Ljava/lang/String;" ∈ Tb := inTb (tb_5 (List.mem_of_getElem? (i := 237) (by decide +kernel))) (by decide +kernel)
theorem fp_X7_init_22 : FP kX7_init.1 22 11 2 (.object "java/lang/String") true := ⟨_, _, tyX7, rfl, by decide, fk_X7_22, uw_11, Or.inl rfl, tyX7_ok, nmX7, rfl, rfl, fun _ => ⟨rfl, rfl⟩⟩
theorem fl_X7_18 : FL "ButtonRegistry$ScriptReader" 18 11 1 := ⟨_, _, rfl, by decide, fk_X7_18, uw_11, Or.inl rfl⟩
theorem fs_X7_40 : Cond.fieldLink "ButtonRegistry$ScriptReader" 40 "ButtonRegistry$ScriptReader" "VERBS" "[LButtonRegistry$Verb;" ∈ Tb := inTb (tb_6 (List.mem_of_getElem? (i := 14) (by decide +kernel))) (by decide +kernel)
theorem fp_X7_readCommand_18 : FP kX7_readCommand.1 18 11 1 (.int) false := ⟨_, _, tyX7, rfl, by decide, fk_X7_18, uw_11, Or.inl rfl, tyX7_ok, nmX7, rfl, rfl, fun h => by cases h⟩
theorem ck_X7_44 : Cond.classLink "ButtonRegistry$ScriptReader" 44 "ButtonRegistry$Order" ∈ Tb := inTb (tb_6 (List.mem_of_getElem? (i := 16) (by decide +kernel))) (by decide +kernel)
theorem ins_8 : Cond.instantiable "ButtonRegistry$Order" 4 ∈ Tb := inTb (tb_6 (List.mem_of_getElem? (i := 17) (by decide +kernel))) (by decide +kernel)
theorem ini_8 : Cond.initialized "ButtonRegistry$Order" ∈ Tb := inTb (tb_1 (List.mem_of_getElem? (i := 35) (by decide +kernel))) (by decide +kernel)
theorem nw_X7_44 : NW "ButtonRegistry$ScriptReader" 44 8 [.null, .null, .int 0, .null] := ⟨_, tyX4, rfl, ck_X7_44, ins_8, ini_8, uw_8, tyX4_ok, fun j hj => by
  have hj : j < 4 := hj
  match j, hj with
  | 0, _ => rfl
  | 1, _ => rfl
  | 2, _ => rfl
  | 3, _ => rfl
  | j + 4, h => exact absurd h (by omega), rfl⟩
theorem ml_X7_46 : Cond.methodLink "ButtonRegistry$ScriptReader" 46 yX4_init ∈ Tb := inTb (tb_6 (List.mem_of_getElem? (i := 18) (by decide +kernel))) (by decide +kernel)
theorem im_X4_init : Cond.instanceMethod yX4_init ∈ Tb := inTb (tb_6 (List.mem_of_getElem? (i := 19) (by decide +kernel))) (by decide +kernel)
theorem ml_X7_49 : Cond.methodLink "ButtonRegistry$ScriptReader" 49 yX7_readForm ∈ Tb := inTb (tb_6 (List.mem_of_getElem? (i := 39) (by decide +kernel))) (by decide +kernel)
theorem im_X7_readForm : Cond.instanceMethod yX7_readForm ∈ Tb := inTb (tb_6 (List.mem_of_getElem? (i := 41) (by decide +kernel))) (by decide +kernel)
theorem se_X7_readForm : Cond.selects "ButtonRegistry$ScriptReader" yX7_readForm yX7_readForm ∈ Tb := inTb (List.mem_of_getElem? (i := 18) (by decide +kernel)) (by decide +kernel)
theorem fl_X7_12 : FL "ButtonRegistry$ScriptReader" 12 11 0 := ⟨_, _, rfl, by decide, fk_X7_12, uw_11, Or.inl rfl⟩
theorem ml_X7_53 : Cond.methodLink "ButtonRegistry$ScriptReader" 53 yJx4a65c_add_9ea2d ∈ Tb := inTb (tb_6 (List.mem_of_getElem? (i := 97) (by decide +kernel))) (by decide +kernel)
theorem ml_X7_57 : Cond.methodLink "ButtonRegistry$ScriptReader" 57 yJ9_max_7cf53 ∈ Tb := inTb (tb_6 (List.mem_of_getElem? (i := 98) (by decide +kernel))) (by decide +kernel)
theorem fk_X7_63 : Cond.fieldLink "ButtonRegistry$ScriptReader" 63 "ButtonRegistry$Order" "verb" "LButtonRegistry$Verb;" ∈ Tb := inTb (tb_6 (List.mem_of_getElem? (i := 25) (by decide +kernel))) (by decide +kernel)
theorem fl_X7_63 : FL "ButtonRegistry$ScriptReader" 63 8 0 := ⟨_, _, rfl, by decide, fk_X7_63, uw_8, Or.inl rfl⟩
theorem ml_X7_26 : Cond.methodLink "ButtonRegistry$ScriptReader" 26 yJ0_length_8abf5 ∈ Tb := inTb (tb_6 (List.mem_of_getElem? (i := 9) (by decide +kernel))) (by decide +kernel)
theorem ml_X7_72 : Cond.methodLink "ButtonRegistry$ScriptReader" 72 yJ0_charAt_5068e ∈ Tb := inTb (tb_6 (List.mem_of_getElem? (i := 43) (by decide +kernel))) (by decide +kernel)
theorem ml_X7_76 : Cond.methodLink "ButtonRegistry$ScriptReader" 76 yX7_readPart ∈ Tb := inTb (tb_6 (List.mem_of_getElem? (i := 44) (by decide +kernel))) (by decide +kernel)
theorem im_X7_readPart : Cond.instanceMethod yX7_readPart ∈ Tb := inTb (tb_6 (List.mem_of_getElem? (i := 46) (by decide +kernel))) (by decide +kernel)
theorem se_X7_readPart : Cond.selects "ButtonRegistry$ScriptReader" yX7_readPart yX7_readPart ∈ Tb := inTb (List.mem_of_getElem? (i := 19) (by decide +kernel)) (by decide +kernel)
theorem fl_X7_22 : FL "ButtonRegistry$ScriptReader" 22 11 2 := ⟨_, _, rfl, by decide, fk_X7_22, uw_11, Or.inl rfl⟩
theorem ml_X7_87 : Cond.methodLink "ButtonRegistry$ScriptReader" 87 yJ9_min_7cf53 ∈ Tb := inTb (tb_6 (List.mem_of_getElem? (i := 52) (by decide +kernel))) (by decide +kernel)
theorem mln_X7_97 : Cond.methodLinkNest "ButtonRegistry$ScriptReader" 97 yX12_isLetter "ButtonRegistry" ∈ Tc := inTc (tb_6 (List.mem_of_getElem? (i := 64) (by decide +kernel))) (by decide +kernel)
theorem fp_X7_readMatter_18 : FP kX7_readMatter.1 18 11 1 (.int) false := ⟨_, _, tyX7, rfl, by decide, fk_X7_18, uw_11, Or.inl rfl, tyX7_ok, nmX7, rfl, rfl, fun h => by cases h⟩
theorem ml_X7_100 : Cond.methodLink "ButtonRegistry$ScriptReader" 100 yJ0_substring_37a41 ∈ Tb := inTb (tb_6 (List.mem_of_getElem? (i := 65) (by decide +kernel))) (by decide +kernel)
theorem im_J0_substring_37a41 : Cond.instanceMethod yJ0_substring_37a41 ∈ Tb := inTb (tb_6 (List.mem_of_getElem? (i := 66) (by decide +kernel))) (by decide +kernel)
theorem se_J0_substring_37a41 : Cond.selects "java/lang/String" yJ0_substring_37a41 yJ0_substring_37a41 ∈ Tb := inTb (tb_6 (List.mem_of_getElem? (i := 67) (by decide +kernel))) (by decide +kernel)
theorem ml_X7_104 : Cond.methodLink "ButtonRegistry$ScriptReader" 104 yX4_setMatter ∈ Tb := inTb (tb_6 (List.mem_of_getElem? (i := 89) (by decide +kernel))) (by decide +kernel)
theorem im_X4_setMatter : Cond.instanceMethod yX4_setMatter ∈ Tb := inTb (tb_6 (List.mem_of_getElem? (i := 90) (by decide +kernel))) (by decide +kernel)
theorem se_X4_setMatter : Cond.selects "ButtonRegistry$Order" yX4_setMatter yX4_setMatter ∈ Tb := inTb (tb_6 (List.mem_of_getElem? (i := 91) (by decide +kernel))) (by decide +kernel)
theorem mln_X7_90 : Cond.methodLinkNest "ButtonRegistry$ScriptReader" 90 yX12_isDigit "ButtonRegistry" ∈ Tc := inTc (tb_6 (List.mem_of_getElem? (i := 53) (by decide +kernel))) (by decide +kernel)
theorem st_X12_isDigit : Cond.static yX12_isDigit ∈ Tb := inTb (tb_6 (List.mem_of_getElem? (i := 54) (by decide +kernel))) (by decide +kernel)
theorem fp_X7_readNumber_18 : FP kX7_readNumber.1 18 11 1 (.int) false := ⟨_, _, tyX7, rfl, by decide, fk_X7_18, uw_11, Or.inl rfl, tyX7_ok, nmX7, rfl, rfl, fun h => by cases h⟩
theorem ml_X7_93 : Cond.methodLink "ButtonRegistry$ScriptReader" 93 yX4_addNumber ∈ Tb := inTb (tb_6 (List.mem_of_getElem? (i := 56) (by decide +kernel))) (by decide +kernel)
theorem im_X4_addNumber : Cond.instanceMethod yX4_addNumber ∈ Tb := inTb (tb_6 (List.mem_of_getElem? (i := 57) (by decide +kernel))) (by decide +kernel)
theorem se_X4_addNumber : Cond.selects "ButtonRegistry$Order" yX4_addNumber yX4_addNumber ∈ Tb := inTb (tb_6 (List.mem_of_getElem? (i := 58) (by decide +kernel))) (by decide +kernel)
theorem ml_X7_80 : Cond.methodLink "ButtonRegistry$ScriptReader" 80 yX7_readNumber ∈ Tb := inTb (tb_6 (List.mem_of_getElem? (i := 48) (by decide +kernel))) (by decide +kernel)
theorem im_X7_readNumber : Cond.instanceMethod yX7_readNumber ∈ Tb := inTb (tb_6 (List.mem_of_getElem? (i := 50) (by decide +kernel))) (by decide +kernel)
theorem se_X7_readNumber : Cond.selects "ButtonRegistry$ScriptReader" yX7_readNumber yX7_readNumber ∈ Tb := inTb (List.mem_of_getElem? (i := 20) (by decide +kernel)) (by decide +kernel)
theorem ml_X7_84 : Cond.methodLink "ButtonRegistry$ScriptReader" 84 yX7_readMatter ∈ Tb := inTb (tb_6 (List.mem_of_getElem? (i := 60) (by decide +kernel))) (by decide +kernel)
theorem im_X7_readMatter : Cond.instanceMethod yX7_readMatter ∈ Tb := inTb (tb_6 (List.mem_of_getElem? (i := 62) (by decide +kernel))) (by decide +kernel)
theorem se_X7_readMatter : Cond.selects "ButtonRegistry$ScriptReader" yX7_readMatter yX7_readMatter ∈ Tb := inTb (List.mem_of_getElem? (i := 21) (by decide +kernel)) (by decide +kernel)
theorem ml_X7_36 : Cond.methodLink "ButtonRegistry$ScriptReader" 36 yX7_readSign ∈ Tb := inTb (tb_6 (List.mem_of_getElem? (i := 93) (by decide +kernel))) (by decide +kernel)
theorem im_X7_readSign : Cond.instanceMethod yX7_readSign ∈ Tb := inTb (tb_6 (List.mem_of_getElem? (i := 95) (by decide +kernel))) (by decide +kernel)
theorem se_X7_readSign : Cond.selects "ButtonRegistry$ScriptReader" yX7_readSign yX7_readSign ∈ Tb := inTb (List.mem_of_getElem? (i := 22) (by decide +kernel)) (by decide +kernel)
theorem ml_X7_32 : Cond.methodLink "ButtonRegistry$ScriptReader" 32 yX7_readCommand ∈ Tb := inTb (tb_6 (List.mem_of_getElem? (i := 10) (by decide +kernel))) (by decide +kernel)
theorem im_X7_readCommand : Cond.instanceMethod yX7_readCommand ∈ Tb := inTb (tb_6 (List.mem_of_getElem? (i := 12) (by decide +kernel))) (by decide +kernel)
theorem se_X7_readCommand : Cond.selects "ButtonRegistry$ScriptReader" yX7_readCommand yX7_readCommand ∈ Tb := inTb (List.mem_of_getElem? (i := 17) (by decide +kernel)) (by decide +kernel)
theorem fp_X7_readSign_18 : FP kX7_readSign.1 18 11 1 (.int) false := ⟨_, _, tyX7, rfl, by decide, fk_X7_18, uw_11, Or.inl rfl, tyX7_ok, nmX7, rfl, rfl, fun h => by cases h⟩
theorem fk_X8_18 : Cond.fieldLink "ButtonRegistry$Settlement" 18 "ButtonRegistry$Settlement" "count" "I" ∈ Tb := inTb (tb_1 (List.mem_of_getElem? (i := 230) (by decide +kernel))) (by decide +kernel)
theorem fl_X8_18 : FL "ButtonRegistry$Settlement" 18 12 2 := ⟨_, _, rfl, by decide, fk_X8_18, uw_12, Or.inl rfl⟩
theorem fk_X8_9 : Cond.fieldLink "ButtonRegistry$Settlement" 9 "ButtonRegistry$Settlement" "accounts" "[I" ∈ Tb := inTb (tb_1 (List.mem_of_getElem? (i := 228) (by decide +kernel))) (by decide +kernel)
theorem fl_X8_9 : FL "ButtonRegistry$Settlement" 9 12 0 := ⟨_, _, rfl, by decide, fk_X8_9, uw_12, Or.inl rfl⟩
theorem fp_X8_addAccount_18 : FP kX8_addAccount.1 18 12 2 (.int) false := ⟨_, _, tyX8, rfl, by decide, fk_X8_18, uw_12, Or.inl rfl, tyX8_ok, nmX8, rfl, rfl, fun h => by cases h⟩
theorem ml_X8_22 : Cond.methodLink "ButtonRegistry$Settlement" 22 yX8_collectAccounts ∈ Tb := inTb (tb_7 (List.mem_of_getElem? (i := 141) (by decide +kernel))) (by decide +kernel)
theorem im_X8_collectAccounts : Cond.instanceMethod yX8_collectAccounts ∈ Tb := inTb (tb_7 (List.mem_of_getElem? (i := 143) (by decide +kernel))) (by decide +kernel)
theorem se_X8_collectAccounts : Cond.selects "ButtonRegistry$Settlement" yX8_collectAccounts yX8_collectAccounts ∈ Tb := inTb (List.mem_of_getElem? (i := 30) (by decide +kernel)) (by decide +kernel)
theorem fk_X8_15 : Cond.fieldLink "ButtonRegistry$Settlement" 15 "ButtonRegistry$Settlement" "mostParts" "[I" ∈ Tb := inTb (tb_1 (List.mem_of_getElem? (i := 229) (by decide +kernel))) (by decide +kernel)
theorem fl_X8_15 : FL "ButtonRegistry$Settlement" 15 12 1 := ⟨_, _, rfl, by decide, fk_X8_15, uw_12, Or.inl rfl⟩
theorem ml_X8_26 : Cond.methodLink "ButtonRegistry$Settlement" 26 yX8_partsOf ∈ Tb := inTb (tb_7 (List.mem_of_getElem? (i := 150) (by decide +kernel))) (by decide +kernel)
theorem im_X8_partsOf : Cond.instanceMethod yX8_partsOf ∈ Tb := inTb (tb_7 (List.mem_of_getElem? (i := 152) (by decide +kernel))) (by decide +kernel)
theorem se_X8_partsOf : Cond.selects "ButtonRegistry$Settlement" yX8_partsOf yX8_partsOf ∈ Tb := inTb (List.mem_of_getElem? (i := 32) (by decide +kernel)) (by decide +kernel)
theorem fp_X8_collectAccounts_18 : FP kX8_collectAccounts.1 18 12 2 (.int) false := ⟨_, _, tyX8, rfl, by decide, fk_X8_18, uw_12, Or.inl rfl, tyX8_ok, nmX8, rfl, rfl, fun h => by cases h⟩
theorem fk_X8_43 : Cond.fieldLink "ButtonRegistry$Settlement" 43 "ButtonRegistry$State" "chest" "I" ∈ Tb := inTb (tb_1 (List.mem_of_getElem? (i := 98) (by decide +kernel))) (by decide +kernel)
theorem fl_X8_43 : FL "ButtonRegistry$Settlement" 43 13 5 := ⟨_, _, rfl, by decide, fk_X8_43, uw_13, Or.inl rfl⟩
theorem ml_X8_48 : Cond.methodLink "ButtonRegistry$Settlement" 48 yX8_addAccount ∈ Tb := inTb (tb_7 (List.mem_of_getElem? (i := 145) (by decide +kernel))) (by decide +kernel)
theorem im_X8_addAccount : Cond.instanceMethod yX8_addAccount ∈ Tb := inTb (tb_7 (List.mem_of_getElem? (i := 147) (by decide +kernel))) (by decide +kernel)
theorem se_X8_addAccount : Cond.selects "ButtonRegistry$Settlement" yX8_addAccount yX8_addAccount ∈ Tb := inTb (List.mem_of_getElem? (i := 31) (by decide +kernel)) (by decide +kernel)
theorem fk_X8_52 : Cond.fieldLink "ButtonRegistry$Settlement" 52 "ButtonRegistry$State" "buttons" "I" ∈ Tb := inTb (tb_1 (List.mem_of_getElem? (i := 94) (by decide +kernel))) (by decide +kernel)
theorem fl_X8_52 : FL "ButtonRegistry$Settlement" 52 13 4 := ⟨_, _, rfl, by decide, fk_X8_52, uw_13, Or.inl rfl⟩
theorem ml_X8_55 : Cond.methodLink "ButtonRegistry$Settlement" 55 yX9_balanceOf ∈ Tb := inTb (tb_7 (List.mem_of_getElem? (i := 149) (by decide +kernel))) (by decide +kernel)
theorem ml_X8_3 : Cond.methodLink "ButtonRegistry$Settlement" 3 ⟨"java/lang/Object", "<init>", "()V"⟩ ∈ Tb := inTb (tb_1 (List.mem_of_getElem? (i := 227) (by decide +kernel))) (by decide +kernel)
theorem fp_X8_init_9 : FP kX8_init.1 9 12 0 (.array .int) true := ⟨_, _, tyX8, rfl, by decide, fk_X8_9, uw_12, Or.inl rfl, tyX8_ok, nmX8, rfl, rfl, fun _ => ⟨rfl, rfl⟩⟩
theorem fp_X8_init_15 : FP kX8_init.1 15 12 1 (.array .int) true := ⟨_, _, tyX8, rfl, by decide, fk_X8_15, uw_12, Or.inl rfl, tyX8_ok, nmX8, rfl, rfl, fun _ => ⟨rfl, rfl⟩⟩
theorem fp_X8_init_18 : FP kX8_init.1 18 12 2 (.int) false := ⟨_, _, tyX8, rfl, by decide, fk_X8_18, uw_12, Or.inl rfl, tyX8_ok, nmX8, rfl, rfl, fun h => by cases h⟩
theorem ml_X8_30 : Cond.methodLink "ButtonRegistry$Settlement" 30 yJ9_max_7cf53 ∈ Tb := inTb (tb_7 (List.mem_of_getElem? (i := 154) (by decide +kernel))) (by decide +kernel)
theorem fk_X9_9 : Cond.fieldLink "ButtonRegistry$State" 9 "ButtonRegistry$State" "balances" "[I" ∈ Tb := inTb (tb_1 (List.mem_of_getElem? (i := 83) (by decide +kernel))) (by decide +kernel)
theorem fl_X9_9 : FL "ButtonRegistry$State" 9 13 0 := ⟨_, _, rfl, by decide, fk_X9_9, uw_13, Or.inl rfl⟩
theorem fk_X9_28 : Cond.fieldLink "ButtonRegistry$State" 28 "ButtonRegistry$State" "buttons" "I" ∈ Tb := inTb (tb_1 (List.mem_of_getElem? (i := 92) (by decide +kernel))) (by decide +kernel)
theorem fl_X9_28 : FL "ButtonRegistry$State" 28 13 4 := ⟨_, _, rfl, by decide, fk_X9_28, uw_13, Or.inl rfl⟩
theorem ml_X9_71 : Cond.methodLink "ButtonRegistry$State" 71 yX9_tensionBetween ∈ Tb := inTb (tb_7 (List.mem_of_getElem? (i := 202) (by decide +kernel))) (by decide +kernel)
theorem ml_X9_79 : Cond.methodLink "ButtonRegistry$State" 79 yX9_balanceOf ∈ Tb := inTb (tb_7 (List.mem_of_getElem? (i := 197) (by decide +kernel))) (by decide +kernel)
theorem ml_X9_83 : Cond.methodLink "ButtonRegistry$State" 83 yX9_bondsOf ∈ Tb := inTb (tb_7 (List.mem_of_getElem? (i := 198) (by decide +kernel))) (by decide +kernel)
theorem im_X9_bondsOf : Cond.instanceMethod yX9_bondsOf ∈ Tb := inTb (tb_7 (List.mem_of_getElem? (i := 199) (by decide +kernel))) (by decide +kernel)
theorem se_X9_bondsOf : Cond.selects "ButtonRegistry$State" yX9_bondsOf yX9_bondsOf ∈ Tb := inTb (tb_7 (List.mem_of_getElem? (i := 200) (by decide +kernel))) (by decide +kernel)
theorem ml_X9_75 : Cond.methodLink "ButtonRegistry$State" 75 yX9_buttonRanksBefore ∈ Tb := inTb (tb_7 (List.mem_of_getElem? (i := 193) (by decide +kernel))) (by decide +kernel)
theorem im_X9_buttonRanksBefore : Cond.instanceMethod yX9_buttonRanksBefore ∈ Tb := inTb (tb_7 (List.mem_of_getElem? (i := 195) (by decide +kernel))) (by decide +kernel)
theorem se_X9_buttonRanksBefore : Cond.selects "ButtonRegistry$State" yX9_buttonRanksBefore yX9_buttonRanksBefore ∈ Tb := inTb (List.mem_of_getElem? (i := 33) (by decide +kernel)) (by decide +kernel)
theorem fk_X9_21 : Cond.fieldLink "ButtonRegistry$State" 21 "ButtonRegistry$State" "cases" "Ljava/util/ArrayList;" ∈ Tb := inTb (tb_1 (List.mem_of_getElem? (i := 85) (by decide +kernel))) (by decide +kernel)
theorem fl_X9_21 : FL "ButtonRegistry$State" 21 13 2 := ⟨_, _, rfl, by decide, fk_X9_21, uw_13, Or.inl rfl⟩
theorem ml_X9_48 : Cond.methodLink "ButtonRegistry$State" 48 yJx4a65c_size_8abf5 ∈ Tb := inTb (tb_3 (List.mem_of_getElem? (i := 192) (by decide +kernel))) (by decide +kernel)
theorem ml_X9_52 : Cond.methodLink "ButtonRegistry$State" 52 yJx4a65c_get_915e3 ∈ Tb := inTb (tb_3 (List.mem_of_getElem? (i := 193) (by decide +kernel))) (by decide +kernel)
theorem ck_X9_56 : Cond.classLink "ButtonRegistry$State" 56 "ButtonRegistry$Case" ∈ Tb := inTb (tb_3 (List.mem_of_getElem? (i := 207) (by decide +kernel))) (by decide +kernel)
theorem ml_X9_89 : Cond.methodLink "ButtonRegistry$State" 89 yX1_ranksBefore ∈ Tb := inTb (tb_8 (List.mem_of_getElem? (i := 4) (by decide +kernel))) (by decide +kernel)
theorem im_X1_ranksBefore : Cond.instanceMethod yX1_ranksBefore ∈ Tb := inTb (tb_8 (List.mem_of_getElem? (i := 5) (by decide +kernel))) (by decide +kernel)
theorem se_X1_ranksBefore : Cond.selects "ButtonRegistry$Case" yX1_ranksBefore yX1_ranksBefore ∈ Tb := inTb (tb_8 (List.mem_of_getElem? (i := 6) (by decide +kernel))) (by decide +kernel)
theorem ck_X9_10 : Cond.classLink "ButtonRegistry$State" 10 "ButtonRegistry$State" ∈ Tb := inTb (tb_3 (List.mem_of_getElem? (i := 189) (by decide +kernel))) (by decide +kernel)
theorem nw_X9_10 : NW "ButtonRegistry$State" 10 13 [.null, .null, .null, .null, .int 0, .int 0, .int 0, .int 0] := ⟨_, tyX9, rfl, ck_X9_10, ins_13, ini_13, uw_13, tyX9_ok, fun j hj => by
  have hj : j < 8 := hj
  match j, hj with
  | 0, _ => rfl
  | 1, _ => rfl
  | 2, _ => rfl
  | 3, _ => rfl
  | 4, _ => rfl
  | 5, _ => rfl
  | 6, _ => rfl
  | 7, _ => rfl
  | j + 8, h => exact absurd h (by omega), rfl⟩
theorem ml_X9_41 : Cond.methodLink "ButtonRegistry$State" 41 yX9_init ∈ Tb := inTb (tb_3 (List.mem_of_getElem? (i := 190) (by decide +kernel))) (by decide +kernel)
theorem ml_X9_42 : Cond.methodLink "ButtonRegistry$State" 42 ⟨"java/lang/System", "arraycopy", "(Ljava/lang/Object;ILjava/lang/Object;II)V"⟩ ∈ Tb := inTb (tb_3 (List.mem_of_getElem? (i := 191) (by decide +kernel))) (by decide +kernel)
theorem fk_X9_15 : Cond.fieldLink "ButtonRegistry$State" 15 "ButtonRegistry$State" "tensions" "[I" ∈ Tb := inTb (tb_1 (List.mem_of_getElem? (i := 84) (by decide +kernel))) (by decide +kernel)
theorem fl_X9_15 : FL "ButtonRegistry$State" 15 13 1 := ⟨_, _, rfl, by decide, fk_X9_15, uw_13, Or.inl rfl⟩
theorem ml_X9_58 : Cond.methodLink "ButtonRegistry$State" 58 yJx4a65c_add_9ea2d ∈ Tb := inTb (tb_3 (List.mem_of_getElem? (i := 208) (by decide +kernel))) (by decide +kernel)
theorem fk_X9_25 : Cond.fieldLink "ButtonRegistry$State" 25 "ButtonRegistry$State" "precedents" "Ljava/util/ArrayList;" ∈ Tb := inTb (tb_1 (List.mem_of_getElem? (i := 89) (by decide +kernel))) (by decide +kernel)
theorem fl_X9_25 : FL "ButtonRegistry$State" 25 13 3 := ⟨_, _, rfl, by decide, fk_X9_25, uw_13, Or.inl rfl⟩
theorem ck_X9_62 : Cond.classLink "ButtonRegistry$State" 62 "ButtonRegistry$Precedent" ∈ Tb := inTb (tb_4 (List.mem_of_getElem? (i := 23) (by decide +kernel))) (by decide +kernel)
theorem fp_X9_copy_28 : FP kX9_copy.1 28 13 4 (.int) false := ⟨_, _, tyX9, rfl, by decide, fk_X9_28, uw_13, Or.inl rfl, tyX9_ok, nmX9, rfl, rfl, fun h => by cases h⟩
theorem fk_X9_32 : Cond.fieldLink "ButtonRegistry$State" 32 "ButtonRegistry$State" "chest" "I" ∈ Tb := inTb (tb_1 (List.mem_of_getElem? (i := 97) (by decide +kernel))) (by decide +kernel)
theorem fl_X9_32 : FL "ButtonRegistry$State" 32 13 5 := ⟨_, _, rfl, by decide, fk_X9_32, uw_13, Or.inl rfl⟩
theorem fp_X9_copy_32 : FP kX9_copy.1 32 13 5 (.int) false := ⟨_, _, tyX9, rfl, by decide, fk_X9_32, uw_13, Or.inl rfl, tyX9_ok, nmX9, rfl, rfl, fun h => by cases h⟩
theorem fk_X9_35 : Cond.fieldLink "ButtonRegistry$State" 35 "ButtonRegistry$State" "today" "I" ∈ Tb := inTb (tb_1 (List.mem_of_getElem? (i := 100) (by decide +kernel))) (by decide +kernel)
theorem fl_X9_35 : FL "ButtonRegistry$State" 35 13 6 := ⟨_, _, rfl, by decide, fk_X9_35, uw_13, Or.inl rfl⟩
theorem fp_X9_copy_35 : FP kX9_copy.1 35 13 6 (.int) false := ⟨_, _, tyX9, rfl, by decide, fk_X9_35, uw_13, Or.inl rfl, tyX9_ok, nmX9, rfl, rfl, fun h => by cases h⟩
theorem fk_X9_38 : Cond.fieldLink "ButtonRegistry$State" 38 "ButtonRegistry$State" "nextId" "I" ∈ Tb := inTb (tb_1 (List.mem_of_getElem? (i := 104) (by decide +kernel))) (by decide +kernel)
theorem fl_X9_38 : FL "ButtonRegistry$State" 38 13 7 := ⟨_, _, rfl, by decide, fk_X9_38, uw_13, Or.inl rfl⟩
theorem fp_X9_copy_38 : FP kX9_copy.1 38 13 7 (.int) false := ⟨_, _, tyX9, rfl, by decide, fk_X9_38, uw_13, Or.inl rfl, tyX9_ok, nmX9, rfl, rfl, fun h => by cases h⟩
theorem ml_X9_3 : Cond.methodLink "ButtonRegistry$State" 3 ⟨"java/lang/Object", "<init>", "()V"⟩ ∈ Tb := inTb (tb_1 (List.mem_of_getElem? (i := 55) (by decide +kernel))) (by decide +kernel)
theorem fp_X9_init_9 : FP kX9_init.1 9 13 0 (.array .int) true := ⟨_, _, tyX9, rfl, by decide, fk_X9_9, uw_13, Or.inl rfl, tyX9_ok, nmX9, rfl, rfl, fun _ => ⟨rfl, rfl⟩⟩
theorem fp_X9_init_15 : FP kX9_init.1 15 13 1 (.array .int) true := ⟨_, _, tyX9, rfl, by decide, fk_X9_15, uw_13, Or.inl rfl, tyX9_ok, nmX9, rfl, rfl, fun _ => ⟨rfl, rfl⟩⟩
theorem ck_X9_18 : Cond.classLink "ButtonRegistry$State" 18 "java/util/ArrayList" ∈ Tb := inTb (tb_1 (List.mem_of_getElem? (i := 56) (by decide +kernel))) (by decide +kernel)
theorem nw_X9_18 : NW "ButtonRegistry$State" 18 4 [.int 0, .null, .int 0] := ⟨_, tyJx4a65c, rfl, ck_X9_18, ins_4, ini_4, uw_4, tyJx4a65c_ok, fun j hj => by
  have hj : j < 3 := hj
  match j, hj with
  | 0, _ => rfl
  | 1, _ => rfl
  | 2, _ => rfl
  | j + 3, h => exact absurd h (by omega), rfl⟩
theorem ml_X9_20 : Cond.methodLink "ButtonRegistry$State" 20 yJx4a65c_init_da8c8 ∈ Tb := inTb (tb_1 (List.mem_of_getElem? (i := 58) (by decide +kernel))) (by decide +kernel)
theorem fp_X9_init_21 : FP kX9_init.1 21 13 2 (.object "java/util/ArrayList") true := ⟨_, _, tyX9, rfl, by decide, fk_X9_21, uw_13, Or.inl rfl, tyX9_ok, nmX9, rfl, rfl, fun _ => ⟨rfl, rfl⟩⟩
theorem fp_X9_init_25 : FP kX9_init.1 25 13 3 (.object "java/util/ArrayList") true := ⟨_, _, tyX9, rfl, by decide, fk_X9_25, uw_13, Or.inl rfl, tyX9_ok, nmX9, rfl, rfl, fun _ => ⟨rfl, rfl⟩⟩
theorem fp_X9_init_28 : FP kX9_init.1 28 13 4 (.int) false := ⟨_, _, tyX9, rfl, by decide, fk_X9_28, uw_13, Or.inl rfl, tyX9_ok, nmX9, rfl, rfl, fun h => by cases h⟩
theorem fp_X9_init_32 : FP kX9_init.1 32 13 5 (.int) false := ⟨_, _, tyX9, rfl, by decide, fk_X9_32, uw_13, Or.inl rfl, tyX9_ok, nmX9, rfl, rfl, fun h => by cases h⟩
theorem fp_X9_init_35 : FP kX9_init.1 35 13 6 (.int) false := ⟨_, _, tyX9, rfl, by decide, fk_X9_35, uw_13, Or.inl rfl, tyX9_ok, nmX9, rfl, rfl, fun h => by cases h⟩
theorem fp_X9_init_38 : FP kX9_init.1 38 13 7 (.int) false := ⟨_, _, tyX9, rfl, by decide, fk_X9_38, uw_13, Or.inl rfl, tyX9_ok, nmX9, rfl, rfl, fun h => by cases h⟩
theorem ml_X9_64 : Cond.methodLink "ButtonRegistry$State" 64 yX9_addCoins ∈ Tb := inTb (tb_5 (List.mem_of_getElem? (i := 129) (by decide +kernel))) (by decide +kernel)
theorem fp_X9_payToChest_32 : FP kX9_payToChest.1 32 13 5 (.int) false := ⟨_, _, tyX9, rfl, by decide, fk_X9_32, uw_13, Or.inl rfl, tyX9_ok, nmX9, rfl, rfl, fun h => by cases h⟩
theorem fk_X9_86 : Cond.fieldLink "ButtonRegistry$State" 86 "ButtonRegistry$Case" "id" "I" ∈ Tb := inTb (tb_4 (List.mem_of_getElem? (i := 173) (by decide +kernel))) (by decide +kernel)
theorem fl_X9_86 : FL "ButtonRegistry$State" 86 5 0 := ⟨_, _, rfl, by decide, fk_X9_86, uw_5, Or.inl rfl⟩
theorem ml_X9_68 : Cond.methodLink "ButtonRegistry$State" 68 yX9_putCell ∈ Tb := inTb (tb_6 (List.mem_of_getElem? (i := 128) (by decide +kernel))) (by decide +kernel)
theorem im_X9_putCell : Cond.instanceMethod yX9_putCell ∈ Tb := inTb (tb_6 (List.mem_of_getElem? (i := 130) (by decide +kernel))) (by decide +kernel)
theorem se_X9_putCell : Cond.selects "ButtonRegistry$State" yX9_putCell yX9_putCell ∈ Tb := inTb (List.mem_of_getElem? (i := 23) (by decide +kernel)) (by decide +kernel)
theorem ex_acN : Cond.native arraycopyName ∈ Tb := inTb (tb_2 (List.mem_of_getElem? (i := 106) (by decide +kernel))) (by decide +kernel)
theorem ex_acS : Cond.static arraycopyName ∈ Tb := inTb (tb_2 (List.mem_of_getElem? (i := 105) (by decide +kernel))) (by decide +kernel)
theorem ex_sys : Cond.initialized "java/lang/System" ∈ Tb := inTb (tb_1 (List.mem_of_getElem? (i := 21) (by decide +kernel))) (by decide +kernel)
theorem ex_mth : Cond.initialized "java/lang/Math" ∈ Tb := inTb (tb_1 (List.mem_of_getElem? (i := 23) (by decide +kernel))) (by decide +kernel)
theorem ex_maxS : Cond.static Lib.Math.max.name ∈ Tb := inTb (tb_2 (List.mem_of_getElem? (i := 84) (by decide +kernel))) (by decide +kernel)
theorem ex_maxC : Cond.code Lib.Math.max.name Lib.Math.max.code 2 (some .int) ∈ Tb := inTb (tb_2 (List.mem_of_getElem? (i := 85) (by decide +kernel))) (by decide +kernel)
theorem ex_minS : Cond.static Lib.Math.min.name ∈ Tb := inTb (tb_2 (List.mem_of_getElem? (i := 102) (by decide +kernel))) (by decide +kernel)
theorem ex_minC : Cond.code Lib.Math.min.name Lib.Math.min.code 2 (some .int) ∈ Tb := inTb (tb_2 (List.mem_of_getElem? (i := 103) (by decide +kernel))) (by decide +kernel)
theorem ex_oiI : Cond.instanceMethod Lib.objectInit ∈ Tb := inTb (tb_1 (List.mem_of_getElem? (i := 48) (by decide +kernel))) (by decide +kernel)
theorem ex_oiC : Cond.code Lib.objectInit ⟨#[0xb1]⟩ 1 none ∈ Tb := inTb (tb_1 (List.mem_of_getElem? (i := 49) (by decide +kernel))) (by decide +kernel)
theorem ex_gcD : Cond.declares ⟨"java/lang/Object", "getClass", "()Ljava/lang/Class;"⟩ ∈ Tc := inTc (tb_8 (List.mem_of_getElem? (i := 222) (by decide +kernel))) (by decide +kernel)
theorem ex_gcS : Cond.selects "[Ljava/lang/Object;" ⟨"java/lang/Object", "getClass", "()Ljava/lang/Class;"⟩ ⟨"java/lang/Object", "getClass", "()Ljava/lang/Class;"⟩ ∈ Tb := inTb (tb_8 (List.mem_of_getElem? (i := 221) (by decide +kernel))) (by decide +kernel)
theorem ex_gcI : Cond.instanceMethod ⟨"java/lang/Object", "getClass", "()Ljava/lang/Class;"⟩ ∈ Tb := inTb (tb_3 (List.mem_of_getElem? (i := 229) (by decide +kernel))) (by decide +kernel)
theorem ex_gcN : Cond.native ⟨"java/lang/Object", "getClass", "()Ljava/lang/Class;"⟩ ∈ Tb := inTb (tb_4 (List.mem_of_getElem? (i := 14) (by decide +kernel))) (by decide +kernel)
theorem ex_arrO : Cond.arrayOver (.object "java/lang/Object") ∈ lw_tbl := tb_4 (List.mem_of_getElem? (i := 19) (by decide +kernel))
theorem ac_int : Cond.arrayClass .int ∈ Tb := inTb (tb_1 (List.mem_of_getElem? (i := 82) (by decide +kernel))) (by decide +kernel)
theorem ac_char : Cond.arrayClass .char ∈ Tb := inTb (tb_1 (List.mem_of_getElem? (i := 197) (by decide +kernel))) (by decide +kernel)
theorem ac_byte : Cond.arrayClass .byte ∈ Tb := inTb (tb_1 (List.mem_of_getElem? (i := 157) (by decide +kernel))) (by decide +kernel)
theorem ac_boolean : Cond.arrayClass .boolean ∈ Tb := inTb (tb_1 (List.mem_of_getElem? (i := 180) (by decide +kernel))) (by decide +kernel)
theorem ac_long : Cond.arrayClass .long ∈ Tb := inTb (tb_8 (List.mem_of_getElem? (i := 179) (by decide +kernel))) (by decide +kernel)
theorem cso_0 : Cond.castable "java/lang/String" "java/lang/Object" ∈ Tc := inTc (tb_8 (List.mem_of_getElem? (i := 212) (by decide +kernel))) (by decide +kernel)
theorem cso_1 : Cond.castable "java/lang/StringBuilder" "java/lang/Object" ∈ Tc := inTc (tb_8 (List.mem_of_getElem? (i := 200) (by decide +kernel))) (by decide +kernel)
theorem cso_2 : Cond.castable "java/lang/ArrayIndexOutOfBoundsException" "java/lang/Object" ∈ Tc := inTc (tb_8 (List.mem_of_getElem? (i := 214) (by decide +kernel))) (by decide +kernel)
theorem cso_3 : Cond.castable "java/lang/StringIndexOutOfBoundsException" "java/lang/Object" ∈ Tc := inTc (tb_8 (List.mem_of_getElem? (i := 213) (by decide +kernel))) (by decide +kernel)
theorem cso_4 : Cond.castable "java/util/ArrayList" "java/lang/Object" ∈ Tc := inTc (tb_8 (List.mem_of_getElem? (i := 199) (by decide +kernel))) (by decide +kernel)
theorem cso_5 : Cond.castable "ButtonRegistry$Case" "java/lang/Object" ∈ Tc := inTc (tb_8 (List.mem_of_getElem? (i := 216) (by decide +kernel))) (by decide +kernel)
theorem cso_6 : Cond.castable "ButtonRegistry$Court" "java/lang/Object" ∈ Tc := inTc (tb_8 (List.mem_of_getElem? (i := 201) (by decide +kernel))) (by decide +kernel)
theorem cso_7 : Cond.castable "ButtonRegistry$Docket" "java/lang/Object" ∈ Tc := inTc (tb_8 (List.mem_of_getElem? (i := 204) (by decide +kernel))) (by decide +kernel)
theorem cso_8 : Cond.castable "ButtonRegistry$Order" "java/lang/Object" ∈ Tc := inTc (tb_8 (List.mem_of_getElem? (i := 215) (by decide +kernel))) (by decide +kernel)
theorem cso_9 : Cond.castable "ButtonRegistry$Precedent" "java/lang/Object" ∈ Tc := inTc (tb_8 (List.mem_of_getElem? (i := 217) (by decide +kernel))) (by decide +kernel)
theorem cso_10 : Cond.castable "ButtonRegistry$Ruler" "java/lang/Object" ∈ Tc := inTc (tb_8 (List.mem_of_getElem? (i := 203) (by decide +kernel))) (by decide +kernel)
theorem cso_11 : Cond.castable "ButtonRegistry$ScriptReader" "java/lang/Object" ∈ Tc := inTc (tb_8 (List.mem_of_getElem? (i := 211) (by decide +kernel))) (by decide +kernel)
theorem cso_12 : Cond.castable "ButtonRegistry$Settlement" "java/lang/Object" ∈ Tc := inTc (tb_8 (List.mem_of_getElem? (i := 205) (by decide +kernel))) (by decide +kernel)
theorem cso_13 : Cond.castable "ButtonRegistry$State" "java/lang/Object" ∈ Tc := inTc (tb_8 (List.mem_of_getElem? (i := 198) (by decide +kernel))) (by decide +kernel)
theorem cso_14 : Cond.castable "ButtonRegistry$Threads" "java/lang/Object" ∈ Tc := inTc (tb_8 (List.mem_of_getElem? (i := 202) (by decide +kernel))) (by decide +kernel)
theorem cso_15 : Cond.castable "ButtonRegistry" "java/lang/Object" ∈ Tc := inTc (tb_8 (List.mem_of_getElem? (i := 197) (by decide +kernel))) (by decide +kernel)

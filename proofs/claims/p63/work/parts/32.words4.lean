abbrev kJ5_inflateIfNeededFor_a7421 : MT := (yJ5_inflateIfNeededFor_a7421, cJ5_inflateIfNeededFor_a7421, 2, none, [])
set_option maxRecDepth 20000 in
theorem ce_J5_inflateIfNeededFor_a7421 : CE kJ5_inflateIfNeededFor_a7421 1 := ⟨inTb (tb_2 (List.mem_of_getElem? (i := 154) rfl)) (by decide +kernel), inTb (tb_1 (List.mem_of_getElem? (i := 6) (by decide +kernel))) (by decide +kernel), ⟨by decide +kernel, by decide +kernel⟩, by decide +kernel, by decide +kernel⟩
theorem pl_J5_inflateIfNeededFor_a7421 : plainName kJ5_inflateIfNeededFor_a7421.1.cls = true := by decide +kernel
abbrev kJ3_checkFromToIndex_8c36e : MT := (yJ3_checkFromToIndex_8c36e, cJ3_checkFromToIndex_8c36e, 4, (some .int), [])
set_option maxRecDepth 20000 in
theorem ce_J3_checkFromToIndex_8c36e : CE kJ3_checkFromToIndex_8c36e 4 := ⟨inTb (tb_2 (List.mem_of_getElem? (i := 128) rfl)) (by decide +kernel), inTb (tb_1 (List.mem_of_getElem? (i := 20) (by decide +kernel))) (by decide +kernel), ⟨by decide +kernel, by decide +kernel⟩, by decide +kernel, by decide +kernel⟩
theorem pl_J3_checkFromToIndex_8c36e : plainName kJ3_checkFromToIndex_8c36e.1.cls = true := by decide +kernel
theorem st_J3_checkFromToIndex_8c36e : Cond.static yJ3_checkFromToIndex_8c36e ∈ Tb := inTb (tb_2 (List.mem_of_getElem? (i := 127) (by decide +kernel))) (by decide +kernel)
theorem ml_J5_40 : Cond.methodLink "java/lang/AbstractStringBuilder" 40 yJ0_coder_7d493 ∈ Tb := inTb (tb_2 (List.mem_of_getElem? (i := 155) (by decide +kernel))) (by decide +kernel)
theorem im_J5_inflateIfNeededFor_a7421 : Cond.instanceMethod yJ5_inflateIfNeededFor_a7421 ∈ Tb := inTb (tb_2 (List.mem_of_getElem? (i := 153) (by decide +kernel))) (by decide +kernel)
theorem pm_J5_inflateIfNeededFor_a7421 : Cond.privateMethod yJ5_inflateIfNeededFor_a7421 ∈ lw_tbl := tb_2 (List.mem_of_getElem? (i := 152) (by decide +kernel))
theorem se2_len : Cond.selects "java/lang/StringBuilder" yJ5_length_8abf5 yJ4_length_8abf5 ∈ Tb := inTb (tb_8 (List.mem_of_getElem? (i := 190) (by decide +kernel))) (by decide +kernel)
theorem dJ5_inflateIfNeededFor_a7421_0 : decode cJ5_inflateIfNeededFor_a7421 0 = .ok (.getstatic 18, 3) := by decide +kernel
theorem dJ5_inflateIfNeededFor_a7421_3 : decode cJ5_inflateIfNeededFor_a7421 3 = .ok (.ifCond .eq 18, 3) := by decide +kernel
theorem dJ5_inflateIfNeededFor_a7421_6 : decode cJ5_inflateIfNeededFor_a7421 6 = .ok (.aload_n 0, 1) := by decide +kernel
theorem dJ5_inflateIfNeededFor_a7421_7 : decode cJ5_inflateIfNeededFor_a7421 7 = .ok (.getfield 22, 3) := by decide +kernel
theorem dJ5_inflateIfNeededFor_a7421_10 : decode cJ5_inflateIfNeededFor_a7421 10 = .ok (.aload_n 1, 1) := by decide +kernel
theorem dJ5_inflateIfNeededFor_a7421_11 : decode cJ5_inflateIfNeededFor_a7421 11 = .ok (.invokevirtual 40, 3) := by decide +kernel
theorem dJ5_inflateIfNeededFor_a7421_14 : decode cJ5_inflateIfNeededFor_a7421 14 = .ok (.if_icmp .eq 7, 3) := by decide +kernel
theorem dJ5_inflateIfNeededFor_a7421_17 : decode cJ5_inflateIfNeededFor_a7421 17 = .ok (.aload_n 0, 1) := by decide +kernel
theorem dJ5_inflateIfNeededFor_a7421_18 : decode cJ5_inflateIfNeededFor_a7421 18 = .ok (.invokevirtual 195, 3) := by decide +kernel
theorem dJ5_inflateIfNeededFor_a7421_21 : decode cJ5_inflateIfNeededFor_a7421 21 = .ok (.return_, 1) := by decide +kernel

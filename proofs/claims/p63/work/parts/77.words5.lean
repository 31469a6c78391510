abbrev kL_law : MT := (yL_law, cL_law, 11, (some .boolean), [])
theorem ck_L_8 : Cond.classLink "ButtonRegistryLaw" 8 "ButtonRegistry" ∈ Tb := inTb (tb_1 (List.mem_of_getElem? (i := 42) (by decide +kernel))) (by decide +kernel)
theorem ins_15 : Cond.instantiable "ButtonRegistry" 12 ∈ Tb := inTb (tb_1 (List.mem_of_getElem? (i := 43) (by decide +kernel))) (by decide +kernel)
theorem ini_15 : Cond.initialized "ButtonRegistry" ∈ Tb := inTb (tb_1 (List.mem_of_getElem? (i := 1) (by decide +kernel))) (by decide +kernel)
theorem nw_L_8 : NW "ButtonRegistryLaw" 8 15 [.null, .null, .int 0, .null, .null, .null, .null, .int 0, .int 0, .null, .null, .null] := ⟨_, tyX12, rfl, ck_L_8, ins_15, ini_15, uw_15, tyX12_ok, fun j hj => by
  have hj : j < 12 := hj
  match j, hj with
  | 0, _ => rfl
  | 1, _ => rfl
  | 2, _ => rfl
  | 3, _ => rfl
  | 4, _ => rfl
  | 5, _ => rfl
  | 6, _ => rfl
  | 7, _ => rfl
  | 8, _ => rfl
  | 9, _ => rfl
  | 10, _ => rfl
  | 11, _ => rfl
  | j + 12, h => exact absurd h (by omega), rfl⟩
theorem ml_L_388 : Cond.methodLink "ButtonRegistryLaw" 388 yX12_init ∈ Tb := inTb (tb_1 (List.mem_of_getElem? (i := 44) (by decide +kernel))) (by decide +kernel)
theorem im_X12_init : Cond.instanceMethod yX12_init ∈ Tb := inTb (tb_1 (List.mem_of_getElem? (i := 45) (by decide +kernel))) (by decide +kernel)
theorem ml_L_389 : Cond.methodLink "ButtonRegistryLaw" 389 yL_undo ∈ Tb := inTb (tb_6 (List.mem_of_getElem? (i := 174) (by decide +kernel))) (by decide +kernel)
theorem st_L_undo : Cond.static yL_undo ∈ Tb := inTb (tb_6 (List.mem_of_getElem? (i := 175) (by decide +kernel))) (by decide +kernel)
theorem ml_L_391 : Cond.methodLink "ButtonRegistryLaw" 391 yL_restore ∈ Tb := inTb (tb_6 (List.mem_of_getElem? (i := 183) (by decide +kernel))) (by decide +kernel)
theorem st_L_restore : Cond.static yL_restore ∈ Tb := inTb (tb_6 (List.mem_of_getElem? (i := 184) (by decide +kernel))) (by decide +kernel)
theorem ml_L_393 : Cond.methodLink "ButtonRegistryLaw" 393 yX12_save ∈ Tb := inTb (tb_3 (List.mem_of_getElem? (i := 170) (by decide +kernel))) (by decide +kernel)
theorem im_X12_save : Cond.instanceMethod yX12_save ∈ Tb := inTb (tb_3 (List.mem_of_getElem? (i := 171) (by decide +kernel))) (by decide +kernel)
theorem se_X12_save : Cond.selects "ButtonRegistry" yX12_save yX12_save ∈ Tb := inTb (tb_3 (List.mem_of_getElem? (i := 172) (by decide +kernel))) (by decide +kernel)
theorem ml_L_400 : Cond.methodLink "ButtonRegistryLaw" 400 yL_makes ∈ Tb := inTb (tb_6 (List.mem_of_getElem? (i := 239) (by decide +kernel))) (by decide +kernel)
theorem st_L_makes : Cond.static yL_makes ∈ Tb := inTb (tb_7 (List.mem_of_getElem? (i := 0) (by decide +kernel))) (by decide +kernel)
theorem ml_L_404 : Cond.methodLink "ButtonRegistryLaw" 404 yL_thrown ∈ Tb := inTb (tb_8 (List.mem_of_getElem? (i := 50) (by decide +kernel))) (by decide +kernel)
theorem st_L_thrown : Cond.static yL_thrown ∈ Tb := inTb (tb_8 (List.mem_of_getElem? (i := 51) (by decide +kernel))) (by decide +kernel)
theorem ml_L_408 : Cond.methodLink "ButtonRegistryLaw" 408 yL_changes ∈ Tb := inTb (tb_8 (List.mem_of_getElem? (i := 17) (by decide +kernel))) (by decide +kernel)
theorem st_L_changes : Cond.static yL_changes ∈ Tb := inTb (tb_8 (List.mem_of_getElem? (i := 18) (by decide +kernel))) (by decide +kernel)

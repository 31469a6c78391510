theorem pm_J5_ensureCapacityInternal_d00df : Cond.privateMethod yJ5_ensureCapacityInternal_d00df ∈ lw_tbl := tb_2 (List.mem_of_getElem? (i := 73) (by decide +kernel))
theorem pm_J5_newCapacity_0f7a4 : Cond.privateMethod yJ5_newCapacity_0f7a4 ∈ lw_tbl := tb_2 (List.mem_of_getElem? (i := 77) (by decide +kernel))
theorem pm_J5_putStringAt_47b60 : Cond.privateMethod yJ5_putStringAt_47b60 ∈ lw_tbl := tb_2 (List.mem_of_getElem? (i := 148) (by decide +kernel))

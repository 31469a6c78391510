def vbT : List String := ["BUTTON", "BOND", "CUT", "FILE", "RULE", "HEAR", "APPEAL", "DROP", "CLOSE", "GIVE", "WAIT"]
abbrev st_V (i : Nat) : Term := .static "ButtonRegistry$Verb" (vbT.getD i "") "LButtonRegistry$Verb;"
abbrev st_VS : Term := .static "ButtonRegistry$ScriptReader" "VERBS" "[LButtonRegistry$Verb;"
abbrev st_SM : Term := .static "ButtonRegistry$1" "$SwitchMap$ButtonRegistry$Verb" "[I"
abbrev st_DT : Term := .static "java/lang/Integer" "DigitTens" "[B"
abbrev st_DO : Term := .static "java/lang/Integer" "DigitOnes" "[B"
abbrev st_DE : Term := .static "java/util/ArrayList" "DEFAULTCAPACITY_EMPTY_ELEMENTDATA" "[Ljava/lang/Object;"
abbrev st_FO : Term := .static "jdk/internal/util/Preconditions" "SIOOBE_FORMATTER" "Ljava/util/function/BiFunction;"
theorem st_v : ∀ i, i < 11 → Cond.exactly (st_V i) "ButtonRegistry$Verb" ∈ st_F ∧ Cond.eq (.field (st_V i) "java/lang/Enum" "ordinal" "I") (.int (nI i)) ∈ st_F ∧ Cond.eq (.field (st_V i) "ButtonRegistry$Verb" "form" "Ljava/lang/String;") (.string (strT.getD (45 + i) ("", 0, "")).1 (strT.getD (45 + i) ("", 0, "")).2.1) ∈ st_F ∧ Cond.eq (.elem st_VS (.int (Int32.ofNat i))) (st_V i) ∈ st_F ∧ Cond.eq (.elem st_SM (.int (Int32.ofNat i))) (.int (nI (i + 1))) ∈ st_F := by decide +kernel
theorem st_dT0 : (st_F.drop 119).take 100 = (List.range 100).map (fun i => Cond.eq (.elem st_DT (.int (Int32.ofNat i))) (.int (digT.getD i 0))) := by decide +kernel
theorem st_dT : ∀ i, i < 100 → Cond.eq (.elem st_DT (.int (Int32.ofNat i))) (.int (digT.getD i 0)) ∈ st_F := fun i hi => by
  have h := List.mem_map_of_mem (f := fun i => Cond.eq (.elem st_DT (.int (Int32.ofNat i))) (.int (digT.getD i 0))) (List.mem_range.mpr hi)
  rw [← st_dT0] at h
  exact List.mem_of_mem_drop (List.mem_of_mem_take h)
theorem st_dO0 : (st_F.drop 16).take 100 = (List.range 100).map (fun i => Cond.eq (.elem st_DO (.int (Int32.ofNat i))) (.int (digO.getD i 0))) := by decide +kernel
theorem st_dO : ∀ i, i < 100 → Cond.eq (.elem st_DO (.int (Int32.ofNat i))) (.int (digO.getD i 0)) ∈ st_F := fun i hi => by
  have h := List.mem_map_of_mem (f := fun i => Cond.eq (.elem st_DO (.int (Int32.ofNat i))) (.int (digO.getD i 0))) (List.mem_range.mpr hi)
  rw [← st_dO0] at h
  exact List.mem_of_mem_drop (List.mem_of_mem_take h)
theorem st_ar : Cond.arrayOf st_DE (tyK 5) ∈ st_F ∧ Cond.eq (.length st_DE) (.int (Int32.ofNat 0)) ∈ st_F ∧ Cond.arrayOf st_DT (tyK 2) ∈ st_F ∧ Cond.eq (.length st_DT) (.int (Int32.ofNat 100)) ∈ st_F ∧ Cond.arrayOf st_DO (tyK 2) ∈ st_F ∧ Cond.eq (.length st_DO) (.int (Int32.ofNat 100)) ∈ st_F ∧ Cond.arrayOf st_VS (tyK 6) ∈ st_F ∧ Cond.eq (.length st_VS) (.int (Int32.ofNat 11)) ∈ st_F ∧ Cond.arrayOf st_SM (tyK 0) ∈ st_F ∧ Cond.eq (.length st_SM) (.int (Int32.ofNat 11)) ∈ st_F := by decide +kernel
theorem st_ot : Cond.eq (.static "java/lang/String" "COMPACT_STRINGS" "Z") (.int 1) ∈ st_F ∧ Cond.isRef st_FO ∈ st_F ∧ Cond.isRef (.mirror "[Ljava/lang/Object;") ∈ st_F ∧ Cond.isRef (.static Bundle.tN "UNASSIGNED_STACK" Bundle.steD) ∈ st_F ∧ Cond.isRef (.static Bundle.tN "SUPPRESSED_SENTINEL" Bundle.listD) ∈ st_F := by decide +kernel
theorem st_ly : ∀ q ∈ stT, Cond.laysStatic q.1 q.2.1 q.2.2 ∈ lw_tbl ∧ Cond.initialized q.1 ∈ lw_tbl := by decide +kernel
theorem st_lt : Cond.laysStatic Bundle.tN "UNASSIGNED_STACK" Bundle.steD ∈ lw_tbl ∧ Cond.laysStatic Bundle.tN "SUPPRESSED_SENTINEL" Bundle.listD ∈ lw_tbl ∧ Cond.initialized Bundle.tN ∈ lw_tbl := by decide +kernel
theorem st_rows : Cond.arrayClass (tyK 0) ∈ lw_tbl ∧ Cond.arrayClass (tyK 1) ∈ lw_tbl ∧ Cond.arrayClass (tyK 2) ∈ lw_tbl ∧ Cond.arrayClass (tyK 3) ∈ lw_tbl ∧ Cond.arrayClass (tyK 4) ∈ lw_tbl ∧ Cond.arrayOver (tyK 5) ∈ lw_tbl := by decide +kernel

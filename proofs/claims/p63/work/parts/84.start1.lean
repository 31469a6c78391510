/-! THE START: what the law's entry gives: OK -/
def st_F : List Cond := flatC (Jvm.Cond.and given_1 narrow_1)
/-- what the premises say of a text constant -/
def st_cs (q : String × Nat × String) : List Cond := [.exactly (.string q.1 q.2.1) "java/lang/String", .eq (.field (.string q.1 q.2.1) "java/lang/String" "coder" "B") (.int 0), .arrayOf (.field (.string q.1 q.2.1) "java/lang/String" "value" "[B") .byte, .eq (.length (.field (.string q.1 q.2.1) "java/lang/String" "value" "[B")) (.int (Int32.ofNat (chars q.2.2).length))] ++ (List.range (chars q.2.2).length).map fun j => .eq (.elem (.field (.string q.1 q.2.1) "java/lang/String" "value" "[B") (.int (Int32.ofNat j))) (.int ((chars q.2.2).getD j 0))
/-- where they begin -/
def st_off : List Nat := [470, 501, 508, 522, 538, 543, 573, 591, 621, 651, 675, 711, 739, 759, 775, 796, 830, 859, 863, 868, 874, 920, 940, 973, 992, 1007, 1014, 1026, 1037, 1049, 1066, 1082, 1103, 1123, 1140, 1156, 1180, 1186, 1210, 1239, 1244, 1262, 1283, 1294, 1299, 1304, 1314, 1328, 1339, 1359, 1371, 1381, 1393, 1403, 1414, 1428]
theorem st_p0 : ∀ i, i < 7 → 0 ≤ i → (st_F.drop (st_off.getD i 0)).take (st_cs (strT.getD i ("", 0, ""))).length = st_cs (strT.getD i ("", 0, "")) := by decide +kernel
theorem st_p1 : ∀ i, i < 14 → 7 ≤ i → (st_F.drop (st_off.getD i 0)).take (st_cs (strT.getD i ("", 0, ""))).length = st_cs (strT.getD i ("", 0, "")) := by decide +kernel
theorem st_p2 : ∀ i, i < 21 → 14 ≤ i → (st_F.drop (st_off.getD i 0)).take (st_cs (strT.getD i ("", 0, ""))).length = st_cs (strT.getD i ("", 0, "")) := by decide +kernel
theorem st_p3 : ∀ i, i < 28 → 21 ≤ i → (st_F.drop (st_off.getD i 0)).take (st_cs (strT.getD i ("", 0, ""))).length = st_cs (strT.getD i ("", 0, "")) := by decide +kernel
theorem st_p4 : ∀ i, i < 35 → 28 ≤ i → (st_F.drop (st_off.getD i 0)).take (st_cs (strT.getD i ("", 0, ""))).length = st_cs (strT.getD i ("", 0, "")) := by decide +kernel
theorem st_p5 : ∀ i, i < 42 → 35 ≤ i → (st_F.drop (st_off.getD i 0)).take (st_cs (strT.getD i ("", 0, ""))).length = st_cs (strT.getD i ("", 0, "")) := by decide +kernel
theorem st_p6 : ∀ i, i < 49 → 42 ≤ i → (st_F.drop (st_off.getD i 0)).take (st_cs (strT.getD i ("", 0, ""))).length = st_cs (strT.getD i ("", 0, "")) := by decide +kernel
theorem st_p7 : ∀ i, i < 56 → 49 ≤ i → (st_F.drop (st_off.getD i 0)).take (st_cs (strT.getD i ("", 0, ""))).length = st_cs (strT.getD i ("", 0, "")) := by decide +kernel
theorem st_pos {i : Nat} (hi : i < 56) : (st_F.drop (st_off.getD i 0)).take (st_cs (strT.getD i ("", 0, ""))).length = st_cs (strT.getD i ("", 0, "")) := by
  rcases Nat.lt_or_ge i 7 with h | h
  · exact st_p0 i h (by omega)
  rcases Nat.lt_or_ge i 14 with h2 | h2
  · exact st_p1 i h2 h
  rcases Nat.lt_or_ge i 21 with h3 | h3
  · exact st_p2 i h3 h2
  rcases Nat.lt_or_ge i 28 with h4 | h4
  · exact st_p3 i h4 h3
  rcases Nat.lt_or_ge i 35 with h5 | h5
  · exact st_p4 i h5 h4
  rcases Nat.lt_or_ge i 42 with h6 | h6
  · exact st_p5 i h6 h5
  rcases Nat.lt_or_ge i 49 with h7 | h7
  · exact st_p6 i h7 h6
  · exact st_p7 i hi h7
theorem st_mem {i : Nat} (hi : i < 56) : ∀ c ∈ st_cs (strT.getD i ("", 0, "")), c ∈ st_F := fun c hc => by
  rw [← st_pos hi] at hc
  exact List.mem_of_mem_drop (List.mem_of_mem_take hc)
theorem st_ref : ∀ q ∈ strT, Cond.stringRef q.1 q.2.1 q.2.2 ∈ lw_tbl := by decide +kernel
theorem st_asc : ∀ q ∈ strT, (∀ x ∈ chars q.2.2, 0 ≤ x ∧ x < 128) ∧ (chars q.2.2).length < 2 ^ 20 := by decide +kernel
theorem st_nc : ∀ q ∈ ncT, Cond.not (.castable q.1 q.2) ∈ st_F := by decide +kernel

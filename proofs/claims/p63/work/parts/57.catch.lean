theorem ckL_13 : Cond.classLink "ButtonRegistryLaw" 13 "java/lang/IllegalStateException" ∈ Tb := inTb (tb_3 (List.mem_of_getElem? (i := 180) (by decide +kernel))) (by decide +kernel)
theorem cas_13 : Cond.castable "java/lang/IllegalStateException" "java/lang/IllegalStateException" ∈ Tc := inTc (tb_4 (List.mem_of_getElem? (i := 53) (by decide +kernel))) (by decide +kernel)
theorem ckL_21 : Cond.classLink "ButtonRegistryLaw" 21 "java/lang/IllegalArgumentException" ∈ Tb := inTb (tb_4 (List.mem_of_getElem? (i := 112) (by decide +kernel))) (by decide +kernel)
theorem cas_21 : Cond.castable "java/lang/IllegalArgumentException" "java/lang/IllegalArgumentException" ∈ Tc := inTc (tb_2 (List.mem_of_getElem? (i := 237) (by decide +kernel))) (by decide +kernel)
theorem ckL_27 : Cond.classLink "ButtonRegistryLaw" 27 "java/util/NoSuchElementException" ∈ Tb := inTb (tb_4 (List.mem_of_getElem? (i := 145) (by decide +kernel))) (by decide +kernel)
theorem cas_27 : Cond.castable "java/util/NoSuchElementException" "java/util/NoSuchElementException" ∈ Tc := inTc (tb_4 (List.mem_of_getElem? (i := 69) (by decide +kernel))) (by decide +kernel)
theorem ckL_37 : Cond.classLink "ButtonRegistryLaw" 37 "java/lang/UnsupportedOperationException" ∈ Tb := inTb (tb_4 (List.mem_of_getElem? (i := 146) (by decide +kernel))) (by decide +kernel)
theorem cas_37 : Cond.castable "java/lang/UnsupportedOperationException" "java/lang/UnsupportedOperationException" ∈ Tc := inTc (tb_4 (List.mem_of_getElem? (i := 85) (by decide +kernel))) (by decide +kernel)
theorem ckL_19 : Cond.classLink "ButtonRegistryLaw" 19 "java/lang/IndexOutOfBoundsException" ∈ Tb := inTb (tb_6 (List.mem_of_getElem? (i := 198) (by decide +kernel))) (by decide +kernel)
theorem cas_19 : Cond.castable "java/lang/IndexOutOfBoundsException" "java/lang/IndexOutOfBoundsException" ∈ Tc := inTc (tb_4 (List.mem_of_getElem? (i := 37) (by decide +kernel))) (by decide +kernel)
theorem ckL_130 : Cond.classLink "ButtonRegistryLaw" 130 "java/lang/ArithmeticException" ∈ Tb := inTb (tb_7 (List.mem_of_getElem? (i := 29) (by decide +kernel))) (by decide +kernel)
theorem cas_130 : Cond.castable "java/lang/ArithmeticException" "java/lang/ArithmeticException" ∈ Tc := inTc (tb_7 (List.mem_of_getElem? (i := 41) (by decide +kernel))) (by decide +kernel)
def Ps (K : MT) (E : String) (z : Nat × Nat × Nat × Nat) : Prop := z.2.2.2 ≠ 0 ∧ ∃ nm : String, Cond.classLink K.1.cls z.2.2.2 nm ∈ Tb ∧ (E, nm) ∈ ncT
theorem VX_catch {G : GT} {K : MT} {d c s : Nat} {Q : Option Value → Heap → Prop} {X : String → Heap → Prop} {H : Heap} {L : List (Option Value)} {pc : Nat} {E name : String} (pre : List (Nat × Nat × Nat × Nat)) (x : Nat × Nat × Nat × Nat) (suf : List (Nat × Nat × Nat × Nat)) (ht : K.2.2.2.2 = pre ++ x :: suf) (hpass : ∀ z ∈ pre, Ps K E z) (hx : x.1 ≤ pc ∧ pc < x.2.1) (h0 : x.2.2.2 ≠ 0) (hl : Cond.classLink K.1.cls x.2.2.2 name ∈ Tb) (hc : Cond.castable E name ∈ Tc) (kk : ∀ q : Nat, V G K d c s Q X x.2.2.1 L [.ref q] H) : VX G K d c s Q X pc L E H := by
  intro p e R st m args below meth co ls locs ce sl rest q cell hC hL hS hcc hss h1 h2 h3
  have hw := hC.w
  have htc := hC.tc
  refine vx_catch (c := co) (own := K.1.cls) (name := name) (E := E) hC.own (tableOf pre) { startPc := x.1, endPc := x.2.1, handlerPc := x.2.2.1, catchType := x.2.2.2 } (tableOf suf) ?_ ?_ ?_ h0 (hw _ hl) (htc _ hc) h1 h2 h3 ?_
  · rw [hC.tab, ht]; simp [tableOf]
  · intro z hz
    rw [tableOf] at hz
    obtain ⟨y, hy, rfl⟩ := List.mem_map.mp hz
    obtain ⟨a1, nm, a2, a3⟩ := hpass y hy
    obtain ⟨hk1, hk2, hk3⟩ := hC.ku
    exact Or.inr ⟨a1, nm, hw _ a2, (hk1.2.2.2.2.2.1 _ a3).moved hk2.alike⟩
  · show covers _ pc = true
    simp [covers, tableOf, hx.1, hx.2]
  · exact kk q p e R st m args below meth co ls locs ce sl hC hL hS hcc hss

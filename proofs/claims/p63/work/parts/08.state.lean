def hasB (n x : Int32) : Bool := decide (¬ x < 0 ∧ ¬ n ≤ x)
set_option maxRecDepth 100000 in
theorem c_hasButton {G : GT} {H : Heap} {g : Nat → Nat} {t a : Nat} {X : String → Heap → Prop} {bal ten : List Int32} {cs : List CaseC} {ps : List PrecC} {n ch td nx : Int32} (h : MS G H g t a (bal, ten, cs, ps, n, ch, td, nx)) (x : Int32) {F : Int32 → Heap → Prop} (kk : F (b2i (hasB n x)) H) : Call G kX9_hasButton 1 0 0 [.ref a, .int x] H (qi F) X := by
  obtain ⟨hbl, htl, b, k, u, v, ho, hbal, hten, hcs, hps⟩ := h
  refine startL (L0 := [some (.ref a), some (.int x)]) rfl rfl pl_X9_hasButton (Nat.le_of_ble_eq_true rfl) ?_
  refine V_iload_1 dX9_hasButton_0 ?_
  refine V_if_lt (tgt := 16) dX9_hasButton_1 (by decide) (fun c_1 => ?_) (fun c_1 => ?_)
  · refine V_iconst (v := 0) dX9_hasButton_16 rfl ?_
    exact V_retb (hasB n x) dX9_hasButton_17 rfl (by simp [hasB, b2i, c_1]) kk
  · refine V_iload_1 dX9_hasButton_4 ?_
    refine V_aload_0 dX9_hasButton_5 ?_
    refine V_getf dX9_hasButton_6 fl_X9_28 ho.ro rfl ?_
    refine V_icmp_ge (tgt := 16) dX9_hasButton_9 (by decide) (fun c_9 => ?_) (fun c_9 => ?_)
    · refine V_iconst (v := 0) dX9_hasButton_16 rfl ?_
      exact V_retb (hasB n x) dX9_hasButton_17 rfl (by simp [hasB, b2i, c_1, c_9]) kk
    · refine V_iconst (v := 1) dX9_hasButton_12 rfl ?_
      refine V_goto (tgt := 17) dX9_hasButton_13 (by decide) ?_
      exact V_retb (hasB n x) dX9_hasButton_17 rfl (by simp [hasB, b2i, c_1, c_9]) kk
def inB (m i : Int32) : Bool := decide (¬ i < 0 ∧ ¬ m ≤ i)
/-- a row at an index that may be outside it: 0 then -/
def rd (l : List Int32) (m i : Int32) : Int32 := if inB m i then gI l i else 0
set_option maxRecDepth 100000 in
theorem c_balanceOf {G : GT} {H : Heap} {g : Nat → Nat} {t a : Nat} {X : String → Heap → Prop} {bal ten : List Int32} {cs : List CaseC} {ps : List PrecC} {n ch td nx : Int32} (h : MS G H g t a (bal, ten, cs, ps, n, ch, td, nx)) (x : Int32) {F : Int32 → Heap → Prop} (kk : F (rd bal 8 x) H) : Call G kX9_balanceOf 1 0 0 [.ref a, .int x] H (qi F) X := by
  obtain ⟨hbl, htl, b, k, u, v, ho, hbal, hten, hcs, hps⟩ := h
  refine startL (L0 := [some (.ref a), some (.int x)]) rfl rfl pl_X9_balanceOf (Nat.le_of_ble_eq_true rfl) ?_
  refine V_iload_1 dX9_balanceOf_0 ?_
  refine V_if_lt (tgt := 22) dX9_balanceOf_1 (by decide) (fun c_1 => ?_) (fun c_1 => ?_)
  · refine V_iconst (v := 0) dX9_balanceOf_22 rfl ?_
    exact V_reti dX9_balanceOf_23 rfl (by simp [rd, inB, c_1]) kk
  · refine V_iload_1 dX9_balanceOf_4 ?_
    refine V_aload_0 dX9_balanceOf_5 ?_
    refine V_getf dX9_balanceOf_6 fl_X9_9 ho.ro rfl ?_
    refine V_alen (v := 8) dX9_balanceOf_9 hbal.ra (by rw [hbl]; rfl) ?_
    refine V_icmp_ge (tgt := 22) dX9_balanceOf_10 (by decide) (fun c_10 => ?_) (fun c_10 => ?_)
    · refine V_iconst (v := 0) dX9_balanceOf_22 rfl ?_
      exact V_reti dX9_balanceOf_23 rfl (by simp [rd, inB, c_1, c_10]) kk
    · refine V_aload_0 dX9_balanceOf_13 ?_
      refine V_getf dX9_balanceOf_14 fl_X9_9 ho.ro rfl ?_
      refine V_iload_1 dX9_balanceOf_17 ?_
      refine V_iald (v := .int (gI bal x)) dX9_balanceOf_18 hbal.ra (hbl ▸ inR (n := 8) rfl (by decide) c_1 c_10) rfl ?_
      refine V_goto (tgt := 23) dX9_balanceOf_19 (by decide) ?_
      exact V_reti dX9_balanceOf_23 rfl (by simp [rd, inB, c_1, c_10]) kk
set_option maxRecDepth 100000 in
theorem c_tensionBetween {G : GT} {H : Heap} {g : Nat → Nat} {t a : Nat} {X : String → Heap → Prop} {bal ten : List Int32} {cs : List CaseC} {ps : List PrecC} {n ch td nx : Int32} (h : MS G H g t a (bal, ten, cs, ps, n, ch, td, nx)) (x y : Int32) {F : Int32 → Heap → Prop} (kk : F (rd ten 64 (x * 8 + y)) H) : Call G kX9_tensionBetween 1 0 0 [.ref a, .int x, .int y] H (qi F) X := by
  obtain ⟨hbl, htl, b, k, u, v, ho, hbal, hten, hcs, hps⟩ := h
  refine startL (L0 := [some (.ref a), some (.int x), some (.int y), none]) rfl rfl pl_X9_tensionBetween (Nat.le_of_ble_eq_true rfl) ?_
  refine V_iload_1 dX9_tensionBetween_0 ?_
  refine V_bipush (v := 8) dX9_tensionBetween_1 (by decide) ?_
  refine V_imul dX9_tensionBetween_3 ?_
  refine V_iload_2 dX9_tensionBetween_4 ?_
  refine V_iadd dX9_tensionBetween_5 ?_
  refine V_istore_3 dX9_tensionBetween_6 rfl ?_
  refine V_iload_3 dX9_tensionBetween_7 ?_
  refine V_if_lt (tgt := 29) dX9_tensionBetween_8 (by decide) (fun c_8 => ?_) (fun c_8 => ?_)
  · refine V_iconst (v := 0) dX9_tensionBetween_29 rfl ?_
    exact V_reti dX9_tensionBetween_30 rfl (by simp [rd, inB, c_8]) kk
  · refine V_iload_3 dX9_tensionBetween_11 ?_
    refine V_aload_0 dX9_tensionBetween_12 ?_
    refine V_getf dX9_tensionBetween_13 fl_X9_15 ho.ro rfl ?_
    refine V_alen (v := 64) dX9_tensionBetween_16 hten.ra (by rw [htl]; rfl) ?_
    refine V_icmp_ge (tgt := 29) dX9_tensionBetween_17 (by decide) (fun c_17 => ?_) (fun c_17 => ?_)
    · refine V_iconst (v := 0) dX9_tensionBetween_29 rfl ?_
      exact V_reti dX9_tensionBetween_30 rfl (by simp [rd, inB, c_8, c_17]) kk
    · refine V_aload_0 dX9_tensionBetween_20 ?_
      refine V_getf dX9_tensionBetween_21 fl_X9_15 ho.ro rfl ?_
      refine V_iload_3 dX9_tensionBetween_24 ?_
      refine V_iald (v := .int (gI ten (x * 8 + y))) dX9_tensionBetween_25 hten.ra (htl ▸ inR (n := 64) rfl (by decide) c_8 c_17) rfl ?_
      refine V_goto (tgt := 30) dX9_tensionBetween_26 (by decide) ?_
      exact V_reti dX9_tensionBetween_30 rfl (by simp [rd, inB, c_8, c_17]) kk

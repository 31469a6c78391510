theorem nI_nlt0 {j : Nat} (h : j < 2 ^ 31) : ¬ nI j < 0 := nI_pos h
set_option maxHeartbeats 4000000 in
set_option maxRecDepth 100000 in
theorem c_checkIndex3 {G : GT} {H : Heap} {X : String → Heap → Prop} {f : Value} (hf : f = .null ∨ ∃ x : Nat, f = .ref x) {j n : Nat} (hj : j < n) (hn : n < 2 ^ 31) {F : Int32 → Heap → Prop} (kk : F (nI j) H) : Call G kJ3_checkIndex_8e157 1 0 0 [.int (nI j), .int (nI n), f] H (qi F) X := by
  rcases hf with rfl | ⟨y, rfl⟩
  · refine startL (L0 := [some (.int (nI j)), some (.int (nI n)), some (.null)]) rfl rfl pl_J3_checkIndex_8e157 (Nat.le_of_ble_eq_true rfl) ?_
    refine V_iload_0 dJ3_checkIndex_8e157_0 ?_
    refine V_if_lt (tgt := 9) dJ3_checkIndex_8e157_1 (by decide) (fun c_1 => ?_) (fun c_1 => ?_)
    · exact absurd c_1 (nI_nlt0 (by omega))
    · refine V_iload_0 dJ3_checkIndex_8e157_4 ?_
      refine V_iload_1 dJ3_checkIndex_8e157_5 ?_
      refine V_icmp_lt (tgt := 16) dJ3_checkIndex_8e157_6 (by decide) (fun c_6 => ?_) (fun c_6 => ?_)
      · refine V_iload_0 dJ3_checkIndex_8e157_16 ?_
        exact V_reti dJ3_checkIndex_8e157_17 rfl rfl kk
      · exact absurd (nI_lt hj hn) c_6
  · refine startL (L0 := [some (.int (nI j)), some (.int (nI n)), some (.ref y)]) rfl rfl pl_J3_checkIndex_8e157 (Nat.le_of_ble_eq_true rfl) ?_
    refine V_iload_0 dJ3_checkIndex_8e157_0 ?_
    refine V_if_lt (tgt := 9) dJ3_checkIndex_8e157_1 (by decide) (fun c_1 => ?_) (fun c_1 => ?_)
    · exact absurd c_1 (nI_nlt0 (by omega))
    · refine V_iload_0 dJ3_checkIndex_8e157_4 ?_
      refine V_iload_1 dJ3_checkIndex_8e157_5 ?_
      refine V_icmp_lt (tgt := 16) dJ3_checkIndex_8e157_6 (by decide) (fun c_6 => ?_) (fun c_6 => ?_)
      · refine V_iload_0 dJ3_checkIndex_8e157_16 ?_
        exact V_reti dJ3_checkIndex_8e157_17 rfl rfl kk
      · exact absurd (nI_lt hj hn) c_6
set_option maxHeartbeats 4000000 in
set_option maxRecDepth 100000 in
theorem c_checkIndex2 {G : GT} {H : Heap} {X : String → Heap → Prop} {j n : Nat} (hj : j < n) (hn : n < 2 ^ 31) {F : Int32 → Heap → Prop} (kk : F (nI j) H) : Call G kJ15_checkIndex_7cf53 2 0 0 [.int (nI j), .int (nI n)] H (qi F) X := by
  refine startL (L0 := [some (.int (nI j)), some (.int (nI n))]) rfl rfl pl_J15_checkIndex_7cf53 (Nat.le_of_ble_eq_true rfl) ?_
  refine V_iload_0 dJ15_checkIndex_7cf53_0 ?_
  refine V_iload_1 dJ15_checkIndex_7cf53_1 ?_
  refine V_null dJ15_checkIndex_7cf53_2 ?_
  refine V_call_i (runS3 dJ15_checkIndex_7cf53_3 ce_J3_checkIndex_8e157 rfl ml_J15_105 st_J3_checkIndex_8e157 (Nat.le_of_ble_eq_true rfl)) (Nat.le_of_ble_eq_true rfl) (Nat.le_of_ble_eq_true rfl) (Nat.le_of_ble_eq_true rfl) (c_checkIndex3 (Or.inl rfl) hj hn ?_)
  exact V_reti dJ15_checkIndex_7cf53_6 rfl rfl kk
set_option maxHeartbeats 4000000 in
set_option maxRecDepth 100000 in
theorem c_alsize {G : GT} {H : Heap} {g : Nat → Nat} {t a : Nat} {X : String → Heap → Prop} {rs : List Nat} (h : AL G H g t a rs) {F : Int32 → Heap → Prop} (kk : F (nI rs.length) H) : Call G kJx4a65c_size_8abf5 1 0 0 [.ref a] H (qi F) X := by
  obtain ⟨b, mc, ho, hb, hlen, hel⟩ := h
  refine startL (L0 := [some (.ref a)]) rfl rfl pl_Jx4a65c_size_8abf5 (Nat.le_of_ble_eq_true rfl) ?_
  refine V_aload_0 dJx4a65c_size_8abf5_0 ?_
  refine V_getf dJx4a65c_size_8abf5_1 fl_Jx4a65c_48 ho.ro rfl ?_
  exact V_reti dJx4a65c_size_8abf5_4 rfl rfl kk
set_option maxHeartbeats 4000000 in
set_option maxRecDepth 100000 in
theorem c_alempty {G : GT} {H : Heap} {g : Nat → Nat} {t a : Nat} {X : String → Heap → Prop} {rs : List Nat} (h : AL G H g t a rs) {F : Int32 → Heap → Prop} (kk : F (b2i (decide (rs = []))) H) : Call G kJx4a65c_isEmpty_aae02 1 0 0 [.ref a] H (qi F) X := by
  obtain ⟨b, mc, ho, hb, hlen, hel⟩ := h
  refine startL (L0 := [some (.ref a)]) rfl rfl pl_Jx4a65c_isEmpty_aae02 (Nat.le_of_ble_eq_true rfl) ?_
  refine V_aload_0 dJx4a65c_isEmpty_aae02_0 ?_
  refine V_getf dJx4a65c_isEmpty_aae02_1 fl_Jx4a65c_48 ho.ro rfl ?_
  refine V_if_ne (tgt := 11) dJx4a65c_isEmpty_aae02_4 (by decide) (fun c_4 => ?_) (fun c_4 => ?_)
  · refine V_iconst (v := 0) dJx4a65c_isEmpty_aae02_11 rfl ?_
    exact V_retb (decide (rs = [])) dJx4a65c_isEmpty_aae02_12 rfl (by have h0 : ¬ rs = [] := fun z => c_4 (by rw [z]; rfl); simp [h0, b2i]) kk
  · refine V_iconst (v := 1) dJx4a65c_isEmpty_aae02_7 rfl ?_
    refine V_goto (tgt := 12) dJx4a65c_isEmpty_aae02_8 (by decide) ?_
    exact V_retb (decide (rs = [])) dJx4a65c_isEmpty_aae02_12 rfl (by have h0 : rs = [] := List.eq_nil_of_length_eq_zero ((nI_eq (b := 0) (by omega) (by decide)).mp c_4); simp [h0, b2i]) kk
theorem ALb.at {G : GT} {H : Heap} {g : Nat → Nat} {t b j r : Nat} {rs : List Nat} (h : ALb G H g t b rs) (hj : rs[j]? = some r) : ∃ arr : List (Option Nat), Oa G H g t b arr ∧ j < arr.length ∧ arr.getD j none = some r := by
  rcases h with ⟨-, rfl⟩ | ⟨arr, h1, h2, h3⟩
  · simp at hj
  · have hl : j < rs.length := (List.getElem?_eq_some_iff.mp hj).1
    refine ⟨arr, h1, by omega, ?_⟩
    have h4 : (arr.take rs.length)[j]? = (rs.map some)[j]? := by rw [h2]
    rw [List.getElem?_take, if_pos hl, List.getElem?_map, hj] at h4
    rw [List.getD_eq_getElem?_getD, h4]
    rfl
set_option maxHeartbeats 4000000 in
set_option maxRecDepth 100000 in
theorem c_alelem {G : GT} {H : Heap} {g : Nat → Nat} {t a : Nat} {X : String → Heap → Prop} {rs : List Nat} (h : AL G H g t a rs) {j r : Nat} (hj : rs[j]? = some r) {F : Nat → Heap → Prop} (kk : F r H) : Call G kJx4a65c_elementData_915e3 1 0 0 [.ref a, .int (nI j)] H (qa F) X := by
  obtain ⟨b, mc, ho, hb, hlen, hel⟩ := h
  obtain ⟨arr, ha, hja, hr⟩ := hb.at hj
  refine startL (L0 := [some (.ref a), some (.int (nI j))]) rfl rfl pl_Jx4a65c_elementData_915e3 (Nat.le_of_ble_eq_true rfl) ?_
  refine V_aload_0 dJx4a65c_elementData_915e3_0 ?_
  refine V_getf dJx4a65c_elementData_915e3_1 fl_Jx4a65c_9 ho.ro rfl ?_
  refine V_iload_1 dJx4a65c_elementData_915e3_4 ?_
  have hj31 : j < 2 ^ 31 := by have := ha.1.2; omega
  refine V_aald (v := .ref r) dJx4a65c_elementData_915e3_5 ha.ra (by decide) (vp_in_nI hja (by have := ha.1.2; omega)) (by rw [nI_clamp hj31]; unfold ov; rw [hr]; rfl) ?_
  exact V_reta dJx4a65c_elementData_915e3_6 rfl (Or.inl ⟨_, rfl⟩) kk
set_option maxHeartbeats 4000000 in
set_option maxRecDepth 100000 in
theorem c_alget {G : GT} {H : Heap} {g : Nat → Nat} {t a : Nat} {X : String → Heap → Prop} {rs : List Nat} (h : AL G H g t a rs) {j r : Nat} (hj : rs[j]? = some r) {F : Nat → Heap → Prop} (kk : F r H) : Call G kJx4a65c_get_915e3 3 0 0 [.ref a, .int (nI j)] H (qa F) X := by
  have h0 := h
  obtain ⟨b, mc, ho, hb, hlen, hel⟩ := h
  have hl : j < rs.length := (List.getElem?_eq_some_iff.mp hj).1
  refine startL (L0 := [some (.ref a), some (.int (nI j))]) rfl rfl pl_Jx4a65c_get_915e3 (Nat.le_of_ble_eq_true rfl) ?_
  refine V_iload_1 dJx4a65c_get_915e3_0 ?_
  refine V_aload_0 dJx4a65c_get_915e3_1 ?_
  refine V_getf dJx4a65c_get_915e3_2 fl_Jx4a65c_48 ho.ro rfl ?_
  refine V_call_i (runS2 dJx4a65c_get_915e3_5 ce_J15_checkIndex_7cf53 rfl ml_Jx4a65c_118 st_J15_checkIndex_7cf53 (Nat.le_of_ble_eq_true rfl)) (Nat.le_of_ble_eq_true rfl) (Nat.le_of_ble_eq_true rfl) (Nat.le_of_ble_eq_true rfl) (c_checkIndex2 hl (by omega) ?_)
  refine V_pop dJx4a65c_get_915e3_8 rfl ?_
  refine V_aload_0 dJx4a65c_get_915e3_9 ?_
  refine V_iload_1 dJx4a65c_get_915e3_10 ?_
  refine V_call_a (runV1 dJx4a65c_get_915e3_11 ce_Jx4a65c_elementData_915e3 rfl ml_Jx4a65c_123 im_Jx4a65c_elementData_915e3 se_Jx4a65c_elementData_915e3 ho.ro ⟨_, rfl, rfl⟩ (Nat.le_of_ble_eq_true rfl)) (Nat.le_of_ble_eq_true rfl) (Nat.le_of_ble_eq_true rfl) (Nat.le_of_ble_eq_true rfl) (c_alelem h0 hj ?_)
  exact V_reta dJx4a65c_get_915e3_14 rfl (Or.inl ⟨_, rfl⟩) kk

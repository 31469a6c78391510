set_option maxHeartbeats 1000000 in
set_option maxRecDepth 100000 in
theorem c_chkFTn {G : GT} {H : Heap} {X : String → Heap → Prop} {q k n u : Nat} (hqk : q ≤ k) (hkn : k ≤ n) (hn : n < 2 ^ 31) {F : Int32 → Heap → Prop} (kk : F (nI q) H) : Call G kJ3_checkFromToIndex_8c36e 0 0 0 [.int (nI q), .int (nI k), .int (nI n), .null] H (qi F) X := by
  refine startL (L0 := [some (.int (nI q)), some (.int (nI k)), some (.int (nI n)), some (.null)]) rfl rfl pl_J3_checkFromToIndex_8c36e (Nat.le_of_ble_eq_true rfl) ?_
  refine V_iload_0 dJ3_checkFromToIndex_8c36e_0 ?_
  refine V_if_lt (tgt := 14) dJ3_checkFromToIndex_8c36e_1 (by decide) (fun c_1 => ?_) (fun c_1 => ?_)
  · exact absurd c_1 (nI_pos (by omega))
  · refine V_iload_0 dJ3_checkFromToIndex_8c36e_4 ?_
    refine V_iload_1 dJ3_checkFromToIndex_8c36e_5 ?_
    refine V_icmp_gt (tgt := 14) dJ3_checkFromToIndex_8c36e_6 (by decide) (fun c_6 => ?_) (fun c_6 => ?_)
    · exact absurd (nI_le hqk (by omega)) (Int32.not_le.mpr c_6)
    · refine V_iload_1 dJ3_checkFromToIndex_8c36e_9 ?_
      refine V_iload_2 dJ3_checkFromToIndex_8c36e_10 ?_
      refine V_icmp_le (tgt := 22) dJ3_checkFromToIndex_8c36e_11 (by decide) (fun c_11 => ?_) (fun c_11 => ?_)
      · refine V_iload_0 dJ3_checkFromToIndex_8c36e_22 ?_
        exact V_reti dJ3_checkFromToIndex_8c36e_23 rfl rfl kk
      · exact absurd (nI_le hkn (by omega)) c_11
set_option maxHeartbeats 1000000 in
set_option maxRecDepth 100000 in
theorem c_chkFTr {G : GT} {H : Heap} {X : String → Heap → Prop} {q k n u : Nat} (hqk : q ≤ k) (hkn : k ≤ n) (hn : n < 2 ^ 31) {F : Int32 → Heap → Prop} (kk : F (nI q) H) : Call G kJ3_checkFromToIndex_8c36e 0 0 0 [.int (nI q), .int (nI k), .int (nI n), .ref u] H (qi F) X := by
  refine startL (L0 := [some (.int (nI q)), some (.int (nI k)), some (.int (nI n)), some (.ref u)]) rfl rfl pl_J3_checkFromToIndex_8c36e (Nat.le_of_ble_eq_true rfl) ?_
  refine V_iload_0 dJ3_checkFromToIndex_8c36e_0 ?_
  refine V_if_lt (tgt := 14) dJ3_checkFromToIndex_8c36e_1 (by decide) (fun c_1 => ?_) (fun c_1 => ?_)
  · exact absurd c_1 (nI_pos (by omega))
  · refine V_iload_0 dJ3_checkFromToIndex_8c36e_4 ?_
    refine V_iload_1 dJ3_checkFromToIndex_8c36e_5 ?_
    refine V_icmp_gt (tgt := 14) dJ3_checkFromToIndex_8c36e_6 (by decide) (fun c_6 => ?_) (fun c_6 => ?_)
    · exact absurd (nI_le hqk (by omega)) (Int32.not_le.mpr c_6)
    · refine V_iload_1 dJ3_checkFromToIndex_8c36e_9 ?_
      refine V_iload_2 dJ3_checkFromToIndex_8c36e_10 ?_
      refine V_icmp_le (tgt := 22) dJ3_checkFromToIndex_8c36e_11 (by decide) (fun c_11 => ?_) (fun c_11 => ?_)
      · refine V_iload_0 dJ3_checkFromToIndex_8c36e_22 ?_
        exact V_reti dJ3_checkFromToIndex_8c36e_23 rfl rfl kk
      · exact absurd (nI_le hkn (by omega)) c_11
theorem v6_two (G : GT) : v6 G = .null ∨ ∃ u, v6 G = .ref u := by
  unfold v6
  split
  · exact Or.inl rfl
  · exact Or.inr ⟨_, rfl⟩
set_option maxHeartbeats 1000000 in
set_option maxRecDepth 100000 in
theorem c_chkBE {G : GT} {H : Heap} {X : String → Heap → Prop} {q k n : Nat} (hqk : q ≤ k) (hkn : k ≤ n) (hn : n < 2 ^ 31) {F : Heap → Prop} (kk : F H) : Call G kJ0_checkBoundsBeginEnd_23922 1 0 0 [.int (nI q), .int (nI k), .int (nI n)] H (qv F) X := by
  rcases v6_two G with hv | ⟨u, hv⟩
  · refine startL (L0 := [some (.int (nI q)), some (.int (nI k)), some (.int (nI n))]) rfl rfl pl_J0_checkBoundsBeginEnd_23922 (Nat.le_of_ble_eq_true rfl) ?_
    refine V_iload_0 dJ0_checkBoundsBeginEnd_23922_0 ?_
    refine V_iload_1 dJ0_checkBoundsBeginEnd_23922_1 ?_
    refine V_iload_2 dJ0_checkBoundsBeginEnd_23922_2 ?_
    refine V_gets (i := 6) (v := .null) dJ0_checkBoundsBeginEnd_23922_3 rfl fs_J0_1053 hv ?_
    refine V_call_i (runS4 dJ0_checkBoundsBeginEnd_23922_6 ce_J3_checkFromToIndex_8c36e rfl ml_J0_1062 st_J3_checkFromToIndex_8c36e (Nat.le_of_ble_eq_true rfl)) (by omega) (by omega) (by omega) (c_chkFTn (u := 0) hqk hkn hn ?_)
    refine V_pop dJ0_checkBoundsBeginEnd_23922_9 rfl ?_
    exact V_retv dJ0_checkBoundsBeginEnd_23922_10 rfl kk
  · refine startL (L0 := [some (.int (nI q)), some (.int (nI k)), some (.int (nI n))]) rfl rfl pl_J0_checkBoundsBeginEnd_23922 (Nat.le_of_ble_eq_true rfl) ?_
    refine V_iload_0 dJ0_checkBoundsBeginEnd_23922_0 ?_
    refine V_iload_1 dJ0_checkBoundsBeginEnd_23922_1 ?_
    refine V_iload_2 dJ0_checkBoundsBeginEnd_23922_2 ?_
    refine V_gets (i := 6) (v := .ref u) dJ0_checkBoundsBeginEnd_23922_3 rfl fs_J0_1053 hv ?_
    refine V_call_i (runS4 dJ0_checkBoundsBeginEnd_23922_6 ce_J3_checkFromToIndex_8c36e rfl ml_J0_1062 st_J3_checkFromToIndex_8c36e (Nat.le_of_ble_eq_true rfl)) (by omega) (by omega) (by omega) (c_chkFTr hqk hkn hn ?_)
    refine V_pop dJ0_checkBoundsBeginEnd_23922_9 rfl ?_
    exact V_retv dJ0_checkBoundsBeginEnd_23922_10 rfl kk
set_option maxHeartbeats 1000000 in
set_option maxRecDepth 100000 in
theorem c_substr {G : GT} {H : Heap} {g : Nat → Nat} {a q k : Nat} {X : String → Heap → Prop} {l : List Int32} (hz : Sz G H g a l) (hqk : q + k ≤ l.length) (hk : 0 < k) {F : Nat → Heap → Prop} (kk : ∀ (r : Nat) (H1 : Heap) (g1 : Nat → Nat), Sz G H1 g1 r ((l.drop q).take k) → Ext G [33] H g H1 g1 → F r H1) : Call G kJ0_substring_37a41 4 2 (k + 4) [.ref a, .int (nI q), .int (nI (q + k))] H (qa F) X := by
  have hs := hz.str
  obtain ⟨hfa, hfl, b2, x2, z2, ⟨hms, hmt⟩, hmb, hbt⟩ := id hz
  refine startL (L0 := [some (.ref a), some (.int (nI q)), some (.int (nI (q + k))), none, none]) rfl rfl pl_J0_substring_37a41 (Nat.le_of_ble_eq_true rfl) ?_
  refine V_aload_0 dJ0_substring_37a41_0 ?_
  refine V_call_i (runV0 dJ0_substring_37a41_1 ce_J0_length_8abf5 rfl ml_J0_505 im_J0_length_8abf5 se_J0_length_8abf5 hms ⟨_, rfl, rfl⟩ (Nat.le_of_ble_eq_true rfl)) (by omega) (by omega) (by omega) (c_slen hs ?_)
  refine V_istore_3 dJ0_substring_37a41_4 rfl ?_
  refine V_iload_1 dJ0_substring_37a41_5 ?_
  refine V_iload_2 dJ0_substring_37a41_6 ?_
  refine V_iload_3 dJ0_substring_37a41_7 ?_
  refine V_call_v (runS3 dJ0_substring_37a41_8 ce_J0_checkBoundsBeginEnd_23922 rfl ml_J0_521 st_J0_checkBoundsBeginEnd_23922 (Nat.le_of_ble_eq_true rfl)) (by omega) (by omega) (by omega) (c_chkBE (Nat.le_add_right _ _) hqk (by omega) ?_)
  refine V_iload_1 dJ0_substring_37a41_11 ?_
  refine V_if_ne (tgt := 22) dJ0_substring_37a41_12 (by decide) (fun c_12 => ?_) (fun c_12 => ?_)
  · refine V_iload_2 dJ0_substring_37a41_22 ?_
    refine V_iload_1 dJ0_substring_37a41_23 ?_
    refine V_isub dJ0_substring_37a41_24 ?_
    refine V_int (y := nI k) ((nI_sub (Nat.le_add_right _ _)).trans (congrArg nI (by omega))) ?_
    refine V_istore_4 dJ0_substring_37a41_25 rfl ?_
    refine V_aload_0 dJ0_substring_37a41_27 ?_
    refine V_call_i (runV0 dJ0_substring_37a41_28 ce_J0_isLatin1_aae02 rfl ml_J0_492 im_J0_isLatin1_aae02 se_J0_isLatin1_aae02 hms ⟨_, rfl, rfl⟩ (Nat.le_of_ble_eq_true rfl)) (by omega) (by omega) (by omega) (c_slatin hs ?_)
    refine V_if_eq (tgt := 47) dJ0_substring_37a41_31 (by decide) (fun c_31 => ?_) (fun c_31 => ?_)
    · exact absurd c_31 (by decide)
    · refine V_aload_0 dJ0_substring_37a41_34 ?_
      refine V_getf dJ0_substring_37a41_35 fl_J0_9 hms rfl ?_
      refine V_iload_1 dJ0_substring_37a41_38 ?_
      refine V_iload_4 dJ0_substring_37a41_39 ?_
      refine V_call_a (runS3 dJ0_substring_37a41_41 ce_J1_newString_b4f7a rfl ml_J0_685 st_J1_newString_b4f7a (Nat.le_of_ble_eq_true rfl)) (by omega) (by omega) (by omega) (c_newStr (g := g) hmb rfl hfl hqk (fun z => c_12 (congrArg nI z.1)) hk hfa fun r H1 g1 hr e1 => ?_)
      refine V_goto (tgt := 57) dJ0_substring_37a41_44 (by decide) ?_
      exact V_reta dJ0_substring_37a41_57 rfl (Or.inl ⟨_, rfl⟩) (kk r H1 g1 hr e1)
  · refine V_iload_2 dJ0_substring_37a41_15 ?_
    refine V_iload_3 dJ0_substring_37a41_16 ?_
    refine V_icmp_ne (tgt := 22) dJ0_substring_37a41_17 (by decide) (fun c_17 => ?_) (fun c_17 => ?_)
    · refine V_iload_2 dJ0_substring_37a41_22 ?_
      refine V_iload_1 dJ0_substring_37a41_23 ?_
      refine V_isub dJ0_substring_37a41_24 ?_
      refine V_int (y := nI k) ((nI_sub (Nat.le_add_right _ _)).trans (congrArg nI (by omega))) ?_
      refine V_istore_4 dJ0_substring_37a41_25 rfl ?_
      refine V_aload_0 dJ0_substring_37a41_27 ?_
      refine V_call_i (runV0 dJ0_substring_37a41_28 ce_J0_isLatin1_aae02 rfl ml_J0_492 im_J0_isLatin1_aae02 se_J0_isLatin1_aae02 hms ⟨_, rfl, rfl⟩ (Nat.le_of_ble_eq_true rfl)) (by omega) (by omega) (by omega) (c_slatin hs ?_)
      refine V_if_eq (tgt := 47) dJ0_substring_37a41_31 (by decide) (fun c_31 => ?_) (fun c_31 => ?_)
      · exact absurd c_31 (by decide)
      · refine V_aload_0 dJ0_substring_37a41_34 ?_
        refine V_getf dJ0_substring_37a41_35 fl_J0_9 hms rfl ?_
        refine V_iload_1 dJ0_substring_37a41_38 ?_
        refine V_iload_4 dJ0_substring_37a41_39 ?_
        refine V_call_a (runS3 dJ0_substring_37a41_41 ce_J1_newString_b4f7a rfl ml_J0_685 st_J1_newString_b4f7a (Nat.le_of_ble_eq_true rfl)) (by omega) (by omega) (by omega) (c_newStr (g := g) hmb rfl hfl hqk (fun z => c_17 (congrArg nI z.2)) hk hfa fun r H1 g1 hr e1 => ?_)
        refine V_goto (tgt := 57) dJ0_substring_37a41_44 (by decide) ?_
        exact V_reta dJ0_substring_37a41_57 rfl (Or.inl ⟨_, rfl⟩) (kk r H1 g1 hr e1)
    · refine V_aload_0 dJ0_substring_37a41_20 ?_
      have q0 := (nI_eq (b := 0) (by omega) (by decide)).mp c_12
      have q1 := (nI_eq (by omega) (by omega)).mp c_17
      subst q0
      exact V_reta dJ0_substring_37a41_21 rfl (Or.inl ⟨_, rfl⟩) (kk a H g (by rw [List.drop_zero, List.take_of_length_le (by omega)]; exact hz) Ext.rf)

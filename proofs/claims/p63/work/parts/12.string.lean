theorem Sz.str {G : GT} {H : Heap} {g : Nat → Nat} {a : Nat} {l : List Int32} (h : Sz G H g a l) : isStr G H a l := by
  obtain ⟨h1, h2, b, x, z, ⟨h3, -⟩, h4, -⟩ := h
  exact ⟨h1, h2, b, x, z, h3, h4⟩
theorem isStr.o {G : GT} {H : Heap} {a : Nat} {l : List Int32} (h : isStr G H a l) : ∃ fs, ro G H a 0 fs := by
  obtain ⟨h1, h2, b, x, z, h3, h4⟩ := h
  exact ⟨_, h3⟩
set_option maxHeartbeats 4000000 in
set_option maxRecDepth 100000 in
theorem c_scoder {G : GT} {H : Heap} {X : String → Heap → Prop} {a : Nat} {l : List Int32} (h : isStr G H a l) {F : Int32 → Heap → Prop} (kk : F 0 H) : Call G kJ0_coder_7d493 1 0 0 [.ref a] H (qi F) X := by
  obtain ⟨ha, hl, b, hv, zv, ho, hb⟩ := id h
  refine startL (L0 := [some (.ref a)]) rfl rfl pl_J0_coder_7d493 (Nat.le_of_ble_eq_true rfl) ?_
  refine V_gets (i := 0) (v := .int 1) dJ0_coder_7d493_0 rfl fs_J0_38 rfl ?_
  refine V_if_eq (tgt := 13) dJ0_coder_7d493_3 (by decide) (fun c_3 => ?_) (fun c_3 => ?_)
  · exact absurd c_3 (by decide)
  · refine V_aload_0 dJ0_coder_7d493_6 ?_
    refine V_getf dJ0_coder_7d493_7 fl_J0_15 ho rfl ?_
    refine V_goto (tgt := 14) dJ0_coder_7d493_10 (by decide) ?_
    exact V_retz dJ0_coder_7d493_14 rfl rfl rfl kk
set_option maxHeartbeats 4000000 in
set_option maxRecDepth 100000 in
theorem c_slatin {G : GT} {H : Heap} {X : String → Heap → Prop} {a : Nat} {l : List Int32} (h : isStr G H a l) {F : Int32 → Heap → Prop} (kk : F 1 H) : Call G kJ0_isLatin1_aae02 1 0 0 [.ref a] H (qi F) X := by
  obtain ⟨ha, hl, b, hv, zv, ho, hb⟩ := id h
  refine startL (L0 := [some (.ref a)]) rfl rfl pl_J0_isLatin1_aae02 (Nat.le_of_ble_eq_true rfl) ?_
  refine V_gets (i := 0) (v := .int 1) dJ0_isLatin1_aae02_0 rfl fs_J0_38 rfl ?_
  refine V_if_eq (tgt := 17) dJ0_isLatin1_aae02_3 (by decide) (fun c_3 => ?_) (fun c_3 => ?_)
  · exact absurd c_3 (by decide)
  · refine V_aload_0 dJ0_isLatin1_aae02_6 ?_
    refine V_getf dJ0_isLatin1_aae02_7 fl_J0_15 ho rfl ?_
    refine V_if_ne (tgt := 17) dJ0_isLatin1_aae02_10 (by decide) (fun c_10 => ?_) (fun c_10 => ?_)
    · exact absurd c_10 (by decide)
    · refine V_iconst (v := 1) dJ0_isLatin1_aae02_13 rfl ?_
      refine V_goto (tgt := 18) dJ0_isLatin1_aae02_14 (by decide) ?_
      exact V_retz dJ0_isLatin1_aae02_18 rfl rfl rfl kk
set_option maxHeartbeats 4000000 in
set_option maxRecDepth 100000 in
theorem c_sempty {G : GT} {H : Heap} {X : String → Heap → Prop} {a : Nat} {l : List Int32} (h : isStr G H a l) {F : Int32 → Heap → Prop} (kk : F (b2i (decide (l = []))) H) : Call G kJ0_isEmpty_aae02 0 0 0 [.ref a] H (qi F) X := by
  obtain ⟨ha, hl, b, hv, zv, ho, hb⟩ := id h
  refine startL (L0 := [some (.ref a)]) rfl rfl pl_J0_isEmpty_aae02 (Nat.le_of_ble_eq_true rfl) ?_
  refine V_aload_0 dJ0_isEmpty_aae02_0 ?_
  refine V_getf dJ0_isEmpty_aae02_1 fl_J0_9 ho rfl ?_
  refine V_alen (v := nI l.length) dJ0_isEmpty_aae02_4 hb rfl ?_
  refine V_if_ne (tgt := 12) dJ0_isEmpty_aae02_5 (by decide) (fun c_5 => ?_) (fun c_5 => ?_)
  · refine V_iconst (v := 0) dJ0_isEmpty_aae02_12 rfl ?_
    exact V_retb (decide (l = [])) dJ0_isEmpty_aae02_13 rfl (by have h0 : ¬ l = [] := fun z => c_5 (by rw [z]; rfl); simp [h0, b2i]) kk
  · refine V_iconst (v := 1) dJ0_isEmpty_aae02_8 rfl ?_
    refine V_goto (tgt := 13) dJ0_isEmpty_aae02_9 (by decide) ?_
    exact V_retb (decide (l = [])) dJ0_isEmpty_aae02_13 rfl (by have h0 : l = [] := List.eq_nil_of_length_eq_zero ((nI_eq (b := 0) (by omega) (by decide)).mp c_5); simp [h0, b2i]) kk
theorem shr0 {n : Nat} (h : n < 2 ^ 20) : nI n >>> (0 &&& 31) = nI n := by
  apply Int32.toBitVec_inj.mp
  simp [Int32.toBitVec_shiftRight]
set_option maxHeartbeats 4000000 in
set_option maxRecDepth 100000 in
theorem c_slen {G : GT} {H : Heap} {X : String → Heap → Prop} {a : Nat} {l : List Int32} (h : isStr G H a l) {F : Int32 → Heap → Prop} (kk : F (nI l.length) H) : Call G kJ0_length_8abf5 2 0 0 [.ref a] H (qi F) X := by
  obtain ⟨ha, hl, b, hv, zv, ho, hb⟩ := id h
  refine startL (L0 := [some (.ref a)]) rfl rfl pl_J0_length_8abf5 (Nat.le_of_ble_eq_true rfl) ?_
  refine V_aload_0 dJ0_length_8abf5_0 ?_
  refine V_getf dJ0_length_8abf5_1 fl_J0_9 ho rfl ?_
  refine V_alen (v := nI l.length) dJ0_length_8abf5_4 hb rfl ?_
  refine V_aload_0 dJ0_length_8abf5_5 ?_
  refine V_call_i (runV0 dJ0_length_8abf5_6 ce_J0_coder_7d493 rfl ml_J0_335 im_J0_coder_7d493 se_J0_coder_7d493 ho ⟨_, rfl, rfl⟩ (Nat.le_of_ble_eq_true rfl)) (by omega) (by omega) (by omega) (c_scoder h ?_)
  refine V_ishr dJ0_length_8abf5_9 ?_
  refine V_int (y := nI l.length) (shr0 hl) ?_
  exact V_reti dJ0_length_8abf5_10 rfl rfl kk
set_option maxHeartbeats 4000000 in
set_option maxRecDepth 100000 in
theorem c_scheck {G : GT} {H : Heap} {X : String → Heap → Prop} {j n : Nat} (hj : j < n) (hn : n < 2 ^ 31) {F : Heap → Prop} (kk : F H) : Call G kJ0_checkIndex_df160 2 0 0 [.int (nI j), .int (nI n)] H (qv F) X := by
  refine startL (L0 := [some (.int (nI j)), some (.int (nI n))]) rfl rfl pl_J0_checkIndex_df160 (Nat.le_of_ble_eq_true rfl) ?_
  refine V_iload_0 dJ0_checkIndex_df160_0 ?_
  refine V_iload_1 dJ0_checkIndex_df160_1 ?_
  refine V_gets (i := 6) (v := v6 G) dJ0_checkIndex_df160_2 rfl fs_J0_1053 rfl ?_
  refine V_call_i (runS3 dJ0_checkIndex_df160_5 ce_J3_checkIndex_8e157 rfl ml_J0_1059 st_J3_checkIndex_8e157 (Nat.le_of_ble_eq_true rfl)) (by omega) (by omega) (by omega) (c_checkIndex3 (v6_cases G) hj hn ?_)
  refine V_pop dJ0_checkIndex_df160_8 rfl ?_
  exact V_retv dJ0_checkIndex_df160_9 rfl kk
theorem asc_at {l : List Int32} (h : asc l) (j : Nat) : 0 ≤ l.getD j 0 ∧ l.getD j 0 < 128 := by
  rw [List.getD_eq_getElem?_getD]
  cases hq : l[j]? with
  | none => exact ⟨by decide, by decide⟩
  | some x => exact h x (List.mem_of_getElem? hq)
theorem small {x : Int32} (h : 0 ≤ x ∧ x < 128) : ∃ n : Nat, n < 128 ∧ x = nI n := by
  obtain ⟨j, hj, rfl⟩ := nI_of (Int32.not_lt.mpr h.1)
  exact ⟨j, (nI_ltI (b := 128) hj (by decide)).mp h.2, rfl⟩
theorem chr_small : ∀ n, n < 128 → ((nI n &&& 255).toUInt32 % 65536).toInt32 = nI n := by decide +kernel
theorem chr_ok : ∀ n, n < 128 → narrow .char (.int (nI n)) = .int (nI n) := by decide +kernel
theorem chr_a {x : Int32} (h : 0 ≤ x ∧ x < 128) : ((x &&& 255).toUInt32 % 65536).toInt32 = x := by
  obtain ⟨n, hn, rfl⟩ := small h
  exact chr_small n hn
theorem chr_n {x : Int32} (h : 0 ≤ x ∧ x < 128) : narrow .char (.int x) = .int x := by
  obtain ⟨n, hn, rfl⟩ := small h
  exact chr_ok n hn
set_option maxHeartbeats 4000000 in
set_option maxRecDepth 100000 in
theorem c_lcharAt {G : GT} {H : Heap} {X : String → Heap → Prop} {b n j : Nat} {f : Nat → Value} {x : Int32} (hb : ra G H b 2 n f) (hj : j < n) (hn : n < 2 ^ 31) (hx : f j = .int x) (ha : 0 ≤ x ∧ x < 128) {F : Int32 → Heap → Prop} (kk : F x H) : Call G kJ1_charAt_3b067 3 0 0 [.ref b, .int (nI j)] H (qi F) X := by
  refine startL (L0 := [some (.ref b), some (.int (nI j))]) rfl rfl pl_J1_charAt_3b067 (Nat.le_of_ble_eq_true rfl) ?_
  refine V_iload_1 dJ1_charAt_3b067_0 ?_
  refine V_aload_0 dJ1_charAt_3b067_1 ?_
  refine V_alen (v := nI n) dJ1_charAt_3b067_2 hb rfl ?_
  refine V_call_v (runS2 dJ1_charAt_3b067_3 ce_J0_checkIndex_df160 rfl ml_J1_9 st_J0_checkIndex_df160 (Nat.le_of_ble_eq_true rfl)) (by omega) (by omega) (by omega) (c_scheck hj hn ?_)
  refine V_aload_0 dJ1_charAt_3b067_6 ?_
  refine V_iload_1 dJ1_charAt_3b067_7 ?_
  refine V_bald (v := .int x) dJ1_charAt_3b067_8 hb (vp_in_nI hj hn) (by rw [nI_clamp (by omega)]; exact hx) ?_
  refine V_sipush (v := 255) dJ1_charAt_3b067_9 (by decide) ?_
  refine V_iand dJ1_charAt_3b067_12 ?_
  refine V_i2c (v := x) dJ1_charAt_3b067_13 (chr_a ha) ?_
  exact V_retz dJ1_charAt_3b067_14 rfl (chr_n ha) rfl kk
set_option maxHeartbeats 4000000 in
set_option maxRecDepth 100000 in
theorem c_scharN {G : GT} {H : Heap} {X : String → Heap → Prop} {a : Nat} {l : List Int32} (h : isStr G H a l) {j : Nat} (hj : j < l.length) {F : Int32 → Heap → Prop} (kk : F (l.getD j 0) H) : Call G kJ0_charAt_5068e 4 0 0 [.ref a, .int (nI j)] H (qi F) X := by
  obtain ⟨ha, hl, b, hv, zv, ho, hb⟩ := id h
  refine startL (L0 := [some (.ref a), some (.int (nI j))]) rfl rfl pl_J0_charAt_5068e (Nat.le_of_ble_eq_true rfl) ?_
  refine V_aload_0 dJ0_charAt_5068e_0 ?_
  refine V_call_i (runV0 dJ0_charAt_5068e_1 ce_J0_isLatin1_aae02 rfl ml_J0_492 im_J0_isLatin1_aae02 se_J0_isLatin1_aae02 ho ⟨_, rfl, rfl⟩ (Nat.le_of_ble_eq_true rfl)) (by omega) (by omega) (by omega) (c_slatin h ?_)
  refine V_if_eq (tgt := 16) dJ0_charAt_5068e_4 (by decide) (fun c_4 => ?_) (fun c_4 => ?_)
  · exact absurd c_4 (by decide)
  · refine V_aload_0 dJ0_charAt_5068e_7 ?_
    refine V_getf dJ0_charAt_5068e_8 fl_J0_9 ho rfl ?_
    refine V_iload_1 dJ0_charAt_5068e_11 ?_
    refine V_call_i (runS2 dJ0_charAt_5068e_12 ce_J1_charAt_3b067 rfl ml_J0_495 st_J1_charAt_3b067 (Nat.le_of_ble_eq_true rfl)) (by omega) (by omega) (by omega) (c_lcharAt (x := l.getD j 0) hb hj (by omega) rfl (asc_at ha j) ?_)
    exact V_retz dJ0_charAt_5068e_15 rfl (chr_n (asc_at ha j)) rfl kk
theorem c_schar {G : GT} {H : Heap} {X : String → Heap → Prop} {a : Nat} {l : List Int32} (h : isStr G H a l) {i : Int32} (h0 : ¬ i < 0) (h1 : ¬ nI l.length ≤ i) {F : Int32 → Heap → Prop} (kk : F (gI l i) H) : Call G kJ0_charAt_5068e 4 0 0 [.ref a, .int i] H (qi F) X := by
  obtain ⟨j, hj, rfl⟩ := nI_of h0
  have hl : j < l.length := by
    rcases Nat.lt_or_ge j l.length with q | q
    · exact q
    · exact absurd (nI_le q hj) h1
  have e : gI l (nI j) = l.getD j 0 := by unfold gI; rw [nI_clamp hj]
  exact c_scharN h hl (e ▸ kk)

set_option maxHeartbeats 1000000 in
set_option maxRecDepth 100000 in
theorem c_sbCharA {G : GT} {H : Heap} {g : Nat → Nat} {t a cp : Nat} {X : String → Heap → Prop} {l : List Int32} (h : SB G H g t a l cp) {j : Nat} (hj : j < l.length) {F : Int32 → Heap → Prop} (kk : F (l.getD j 0) H) : Call G kJ5_charAt_5068e 3 0 0 [.ref a, .int (nI j)] H (qi F) X := by
  have hla := h.asc
  obtain ⟨b, mb, row, ho, hb, hcp, htk, hle, hac, hc18⟩ := id h
  refine startL (L0 := [some (.ref a), some (.int (nI j)), none, none, none]) rfl rfl pl_J5_charAt_5068e (Nat.le_of_ble_eq_true rfl) ?_
  refine V_aload_0 dJ5_charAt_5068e_0 ?_
  refine V_getf dJ5_charAt_5068e_1 fl_J5_22 ho.ro rfl ?_
  refine V_istore_2 dJ5_charAt_5068e_4 rfl ?_
  refine V_aload_0 dJ5_charAt_5068e_5 ?_
  refine V_getf dJ5_charAt_5068e_6 fl_J5_15 ho.ro rfl ?_
  refine V_astore_3 dJ5_charAt_5068e_9 rfl ?_
  refine V_aload_0 dJ5_charAt_5068e_10 ?_
  refine V_getf dJ5_charAt_5068e_11 fl_J5_79 ho.ro rfl ?_
  refine V_aload_3 dJ5_charAt_5068e_14 ?_
  refine V_alen (v := nI cp) dJ5_charAt_5068e_15 hb.ra (by rw [hcp]; rfl) ?_
  refine V_iload_2 dJ5_charAt_5068e_16 ?_
  refine V_ishr dJ5_charAt_5068e_17 ?_
  refine V_int (y := nI cp) (shr0 (by omega)) ?_
  refine V_mmin dJ5_charAt_5068e_18 ml_J5_138 ex_minS ex_mth ex_minC (Nat.le_of_ble_eq_true rfl) (Nat.le_of_ble_eq_true rfl) ?_
  refine V_int (y := nI l.length) (by rw [imin_nI (by omega) (by omega), Nat.min_eq_left hle]) ?_
  refine V_istore_4 dJ5_charAt_5068e_21 rfl ?_
  refine V_iload_1 dJ5_charAt_5068e_23 ?_
  refine V_iload_4 dJ5_charAt_5068e_24 ?_
  refine V_call_v (runS2 dJ5_charAt_5068e_26 ce_J0_checkIndex_df160 rfl ml_J5_144 st_J0_checkIndex_df160 (Nat.le_of_ble_eq_true rfl)) (by omega) (by omega) (by omega) (c_scheck hj (by omega) ?_)
  refine V_iload_2 dJ5_charAt_5068e_29 ?_
  refine V_if_ne (tgt := 42) dJ5_charAt_5068e_30 (by decide) (fun c_30 => ?_) (fun c_30 => ?_)
  · exact absurd rfl c_30
  · refine V_aload_3 dJ5_charAt_5068e_33 ?_
    refine V_iload_1 dJ5_charAt_5068e_34 ?_
    refine V_bald (v := .int (l.getD j 0)) dJ5_charAt_5068e_35 hb.ra (vp_in_nI (by omega) (by omega)) (by rw [nI_clamp (by omega)]; show Value.int (row.getD j 0) = _; congr 1; rw [← htk, List.getD_eq_getElem?_getD, List.getD_eq_getElem?_getD, List.getElem?_take, if_pos hj]) ?_
    refine V_sipush (v := 255) dJ5_charAt_5068e_36 (by decide) ?_
    refine V_iand dJ5_charAt_5068e_39 ?_
    refine V_i2c (v := l.getD j 0) dJ5_charAt_5068e_40 (chr_a (asc_at hla j)) ?_
    exact V_retz dJ5_charAt_5068e_41 rfl (chr_n (asc_at hla j)) rfl kk

theorem shl0 {n : Nat} : nI n <<< (0 &&& 31) = nI n := by
  apply Int32.toBitVec_inj.mp
  simp [Int32.toBitVec_shiftLeft]
set_option maxHeartbeats 1000000 in
set_option maxRecDepth 100000 in
theorem c_newCap {G : GT} {H : Heap} {g : Nat → Nat} {t a cp : Nat} {X : String → Heap → Prop} {l : List Int32} (h : SB G H g t a l cp) {q : Nat} (hq : cp < q) (hq2 : q < 2 ^ 18) {F : Int32 → Heap → Prop} (kk : F (nI (cp + max (q - cp) (cp + 2))) H) : Call G kJ5_newCapacity_0f7a4 3 0 0 [.ref a, .int (nI q)] H (qi F) X := by
  obtain ⟨b, mb, row, ho, hb, hcp, htk, hle, hac, hc18⟩ := id h
  refine startL (L0 := [some (.ref a), some (.int (nI q)), none, none, none, none]) rfl rfl pl_J5_newCapacity_0f7a4 (Nat.le_of_ble_eq_true rfl) ?_
  refine V_aload_0 dJ5_newCapacity_0f7a4_0 ?_
  refine V_getf dJ5_newCapacity_0f7a4_1 fl_J5_15 ho.ro rfl ?_
  refine V_alen (v := nI cp) dJ5_newCapacity_0f7a4_4 hb.ra (by rw [hcp]; rfl) ?_
  refine V_istore_2 dJ5_newCapacity_0f7a4_5 rfl ?_
  refine V_iload_1 dJ5_newCapacity_0f7a4_6 ?_
  refine V_aload_0 dJ5_newCapacity_0f7a4_7 ?_
  refine V_getf dJ5_newCapacity_0f7a4_8 fl_J5_22 ho.ro rfl ?_
  refine V_ishl dJ5_newCapacity_0f7a4_11 ?_
  refine V_int (y := nI q) shl0 ?_
  refine V_istore_3 dJ5_newCapacity_0f7a4_12 rfl ?_
  refine V_iload_3 dJ5_newCapacity_0f7a4_13 ?_
  refine V_iload_2 dJ5_newCapacity_0f7a4_14 ?_
  refine V_isub dJ5_newCapacity_0f7a4_15 ?_
  refine V_int (y := nI (q - cp)) (nI_sub (by omega)) ?_
  refine V_istore_4 dJ5_newCapacity_0f7a4_16 rfl ?_
  refine V_iload_2 dJ5_newCapacity_0f7a4_18 ?_
  refine V_iload_4 dJ5_newCapacity_0f7a4_19 ?_
  refine V_iload_2 dJ5_newCapacity_0f7a4_21 ?_
  refine V_iconst (v := 2) dJ5_newCapacity_0f7a4_22 rfl ?_
  refine V_aload_0 dJ5_newCapacity_0f7a4_23 ?_
  refine V_getf dJ5_newCapacity_0f7a4_24 fl_J5_22 ho.ro rfl ?_
  refine V_ishl dJ5_newCapacity_0f7a4_27 ?_
  refine V_int (y := nI 2) (by decide) ?_
  refine V_iadd dJ5_newCapacity_0f7a4_28 ?_
  refine V_int (y := nI (cp + 2)) (nI_add _ _) ?_
  refine V_call_i (runS3 dJ5_newCapacity_0f7a4_29 ce_J8_newLength_cabcc rfl ml_J5_114 st_J8_newLength_cabcc (Nat.le_of_ble_eq_true rfl)) (by omega) (by omega) (by omega) (c_newLength (k := cp + max (q - cp) (cp + 2)) (by rw [imax_nI (by omega) (by omega), nI_add]) (by omega) (by omega) ?_)
  refine V_istore_5 dJ5_newCapacity_0f7a4_32 rfl ?_
  refine V_iload_5 dJ5_newCapacity_0f7a4_34 ?_
  refine V_ldci (v := 2147483647) dJ5_newCapacity_0f7a4_36 cn_J5_39 ?_
  refine V_icmp_ne (tgt := 51) dJ5_newCapacity_0f7a4_38 (by decide) (fun c_38 => ?_) (fun c_38 => ?_)
  · refine V_iload_5 dJ5_newCapacity_0f7a4_51 ?_
    refine V_aload_0 dJ5_newCapacity_0f7a4_53 ?_
    refine V_getf dJ5_newCapacity_0f7a4_54 fl_J5_22 ho.ro rfl ?_
    refine V_ishr dJ5_newCapacity_0f7a4_57 ?_
    refine V_int (y := nI (cp + max (q - cp) (cp + 2))) (shr0 (by omega)) ?_
    exact V_reti dJ5_newCapacity_0f7a4_58 rfl rfl kk
  · exact absurd ((nI_eq (b := 2147483647) (by omega) (by decide)).mp c_38) (by omega)

theorem shl0 {n : Nat} : nI n <<< (0 &&& 31) = nI n := by
  apply Int32.toBitVec_inj.mp
  simp [Int32.toBitVec_shiftLeft]
set_option maxHeartbeats 1000000 in
set_option maxRecDepth 100000 in
theorem c_newCap {G : GT} {H : Heap} {g : Nat → Nat} {t a cp : Nat} {X : String → Heap → Prop} {l : List Int32} (h : SB G H g t a l cp) {q : Nat} (hq : cp < q) (hq2 : q < 2 ^ 18) {F : Int32 → Heap → Prop} (kk : F (nI (cp + max (q - cp) (cp + 2))) H) : Call G kJ5_newCapacity_0f7a4 3 0 0 [.ref a, .int (nI q)] H (qi F) X := by
  obtain ⟨b, mb, row, ho, hb, hcp, htk, hle, hac, hc18⟩ := id h
  refine startL (L0 := [some (.ref a), some (.int (nI q)), none, none, none, none]) rfl rfl pl_J5_newCapacity_0f7a4 (Nat.le_of_ble_eq_true rfl) ?_
  refine V_aload_0 dJ5_newCapacity_0f7a4_0 ?_
  refine V_getf dJ5_newCapacity_0f7a4_1 fl_J5_15 ho.ro rfl ?_
  refine V_alen (v := nI cp) dJ5_newCapacity_0f7a4_4 hb.ra (by rw [hcp]; rfl) ?_
  refine V_istore_2 dJ5_newCapacity_0f7a4_5 rfl ?_
  refine V_iload_1 dJ5_newCapacity_0f7a4_6 ?_
  refine V_aload_0 dJ5_newCapacity_0f7a4_7 ?_
  refine V_getf dJ5_newCapacity_0f7a4_8 fl_J5_22 ho.ro rfl ?_
  refine V_ishl dJ5_newCapacity_0f7a4_11 ?_
  refine V_int (y := nI q) shl0 ?_
  refine V_istore_3 dJ5_newCapacity_0f7a4_12 rfl ?_
  refine V_iload_3 dJ5_newCapacity_0f7a4_13 ?_
  refine V_iload_2 dJ5_newCapacity_0f7a4_14 ?_
  refine V_isub dJ5_newCapacity_0f7a4_15 ?_
  refine V_int (y := nI (q - cp)) (nI_sub (by omega)) ?_
  refine V_istore_4 dJ5_newCapacity_0f7a4_16 rfl ?_
  refine V_iload_2 dJ5_newCapacity_0f7a4_18 ?_
  refine V_iload_4 dJ5_newCapacity_0f7a4_19 ?_
  refine V_iload_2 dJ5_newCapacity_0f7a4_21 ?_
  refine V_iconst (v := 2) dJ5_newCapacity_0f7a4_22 rfl ?_
  refine V_aload_0 dJ5_newCapacity_0f7a4_23 ?_
  refine V_getf dJ5_newCapacity_0f7a4_24 fl_J5_22 ho.ro rfl ?_
  refine V_ishl dJ5_newCapacity_0f7a4_27 ?_
  refine V_int (y := nI 2) (by decide) ?_
  refine V_iadd dJ5_newCapacity_0f7a4_28 ?_
  refine V_int (y := nI (cp + 2)) (nI_add _ _) ?_
  refine V_call_i (runS3 dJ5_newCapacity_0f7a4_29 ce_J8_newLength_cabcc rfl ml_J5_114 st_J8_newLength_cabcc (Nat.le_of_ble_eq_true rfl)) (by omega) (by omega) (by omega) (c_newLength (k := cp + max (q - cp) (cp + 2)) (by rw [imax_nI (by omega) (by omega), nI_add]) (by omega) (by omega) ?_)
  refine V_istore_5 dJ5_newCapacity_0f7a4_32 rfl ?_
  refine V_iload_5 dJ5_newCapacity_0f7a4_34 ?_
  refine V_ldci (v := 2147483647) dJ5_newCapacity_0f7a4_36 cn_J5_39 ?_
  refine V_icmp_ne (tgt := 51) dJ5_newCapacity_0f7a4_38 (by decide) (fun c_38 => ?_) (fun c_38 => ?_)
  · refine V_iload_5 dJ5_newCapacity_0f7a4_51 ?_
    refine V_aload_0 dJ5_newCapacity_0f7a4_53 ?_
    refine V_getf dJ5_newCapacity_0f7a4_54 fl_J5_22 ho.ro rfl ?_
    refine V_ishr dJ5_newCapacity_0f7a4_57 ?_
    refine V_int (y := nI (cp + max (q - cp) (cp + 2))) (shr0 (by omega)) ?_
    exact V_reti dJ5_newCapacity_0f7a4_58 rfl rfl kk
  · exact absurd ((nI_eq (b := 2147483647) (by omega) (by decide)).mp c_38) (by omega)
theorem layI_take {l m : List Int32} {n : Nat} (hn : n = l.length) (hm : n ≤ m.length) : (layI l m 0 0 n).take n = l := by
  subst hn
  apply List.ext_getElem?
  intro i
  unfold layI
  by_cases h : i < l.length
  · rw [List.getElem?_take, if_pos h, List.getElem?_map, List.getElem?_range (by omega)]
    simp [h, List.getD_eq_getElem?_getD]
  · rw [List.getElem?_take, if_neg h, List.getElem?_eq_none (by omega)]
set_option maxHeartbeats 1000000 in
set_option maxRecDepth 100000 in
theorem c_copyOfB {G : GT} {H : Heap} {g : Nat → Nat} {t t1 b n k : Nat} {X : String → Heap → Prop} {l : List Int32} (hb : Ia G H g t b 2 l) (hbl : l.length = n) (hac : asc l) (hnk : n < k) (hk : k < 2 ^ 18) (ht1 : t1 ≠ 0) {F : Nat → Heap → Prop} (kk : ∀ (q : Nat) (H1 : Heap) (g1 : Nat → Nat) (l1 : List Int32), Ia G H1 g1 t1 q 2 l1 → l1.length = k → l1.take n = l → asc l1 → q = H.size → Ext G [] H g H1 g1 → F q H1) : Call G kJ7_copyOf_9075b 1 1 k [.ref b, .int (nI k)] H (qa F) X := by
  refine startL (L0 := [some (.ref b), some (.int (nI k)), none]) rfl rfl pl_J7_copyOf_9075b (Nat.le_of_ble_eq_true rfl) ?_
  refine V_iload_1 dJ7_copyOf_9075b_0 ?_
  refine V_aload_0 dJ7_copyOf_9075b_1 ?_
  refine V_alen (v := nI n) dJ7_copyOf_9075b_2 hb.ra (by rw [hbl]; rfl) ?_
  refine V_icmp_ne (tgt := 14) dJ7_copyOf_9075b_3 (by decide) (fun c_3 => ?_) (fun c_3 => ?_)
  · refine V_iload_1 dJ7_copyOf_9075b_14 ?_
    refine V_mkI (g := g) t1 (kk := 2) dJ7_copyOf_9075b_15 ac_byte rfl rfl rfl (fun C h => by cases h) (nI_pos (by omega)) (N := k) (nI_clamp (by omega)) (by omega) (by show k * 1 ≤ _; omega) (by omega) (by omega) fun q H1 g1 hq e1 z1 => ?_
    replace hb := hb.fr e1 (by simp)
    refine V_astore_2 dJ7_copyOf_9075b_17 rfl ?_
    refine V_aload_0 dJ7_copyOf_9075b_18 ?_
    refine V_iconst (v := 0) dJ7_copyOf_9075b_19 rfl ?_
    refine V_aload_2 dJ7_copyOf_9075b_20 ?_
    refine V_iconst (v := 0) dJ7_copyOf_9075b_21 rfl ?_
    refine V_aload_0 dJ7_copyOf_9075b_22 ?_
    refine V_alen (v := nI n) dJ7_copyOf_9075b_23 hb.ra (by rw [hbl]; rfl) ?_
    refine V_iload_1 dJ7_copyOf_9075b_24 ?_
    refine V_mmin dJ7_copyOf_9075b_25 ml_J7_304 ex_minS ex_mth ex_minC (Nat.le_of_ble_eq_true rfl) (Nat.le_of_ble_eq_true rfl) ?_
    refine V_int (y := nI n) (by rw [imin_nI (by omega) (by omega), Nat.min_eq_left (by omega)]) ?_
    refine V_cpI2 dJ7_copyOf_9075b_28 ml_J7_150 ex_acN ex_acS ex_sys (by omega) (Nat.le_of_ble_eq_true rfl) hb.ra hq ht1 (by decide) (by decide) (by decide) (nI_pos (by omega)) (by rw [nI_clamp (by omega), hbl]; show 0 + n ≤ _; omega) (by rw [nI_clamp (by omega), List.length_replicate]; show 0 + n ≤ _; omega) (fun i hi => fits_a (asc_at hac _)) fun H2 hq2 o2 z2 => ?_
    refine V_aload_2 dJ7_copyOf_9075b_31 ?_
    rw [nI_clamp (by omega)] at hq2
    exact V_reta dJ7_copyOf_9075b_32 rfl (Or.inr ⟨_, rfl⟩) (kk q H2 g1 _ hq2 (by rw [layI_len, List.length_replicate]) (layI_take hbl.symm (by rw [List.length_replicate]; omega)) (asc_lay hac (fun x hx => by rw [List.eq_of_mem_replicate hx]; decide)) z1 (e1.new (by omega) o2 z2))
  · exact absurd ((nI_eq (by omega) (by omega)).mp c_3) (by omega)

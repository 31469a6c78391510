theorem nI_sub_le {a b : Nat} (h : a ≤ b) (hb : b < 2 ^ 30) : nI a - nI b ≤ 0 := by
  rw [Int32.le_iff_toInt_le, Int32.toInt_sub, nI_toInt (by omega), nI_toInt (by omega), Int.bmod_eq_of_le (by omega) (by omega)]
  show (a : Int) - b ≤ 0
  omega
set_option maxHeartbeats 1000000 in
set_option maxRecDepth 100000 in
theorem c_ensure {G : GT} {H : Heap} {g : Nat → Nat} {t a cp : Nat} {X : String → Heap → Prop} {l : List Int32} (h : SB G H g t a l cp) {q : Nat} (hq2 : q < 2 ^ 17) (ht : t ≠ 0) {F : Heap → Prop} (kk : ∀ (H1 : Heap) (g1 : Nat → Nat) (cp1 : Nat), SB G H1 g1 t a l cp1 → q ≤ cp1 → (q ≤ cp ∧ cp1 = cp ∨ cp < q ∧ cp1 = cp + max (q - cp) (cp + 2)) → Ext G [t] H g H1 g1 → F H1) : Call G kJ5_ensureCapacityInternal_d00df 4 1 (cp + max (q - cp) (cp + 2)) [.ref a, .int (nI q)] H (qv F) X := by
  have h0 := h
  obtain ⟨b, mb, row, ho, hb, hcp, htk, hle, hac, hc18⟩ := id h
  refine startL (L0 := [some (.ref a), some (.int (nI q)), none]) rfl rfl pl_J5_ensureCapacityInternal_d00df (Nat.le_of_ble_eq_true rfl) ?_
  refine V_aload_0 dJ5_ensureCapacityInternal_d00df_0 ?_
  refine V_getf dJ5_ensureCapacityInternal_d00df_1 fl_J5_15 ho.ro rfl ?_
  refine V_alen (v := nI cp) dJ5_ensureCapacityInternal_d00df_4 hb.ra (by rw [hcp]; rfl) ?_
  refine V_aload_0 dJ5_ensureCapacityInternal_d00df_5 ?_
  refine V_getf dJ5_ensureCapacityInternal_d00df_6 fl_J5_22 ho.ro rfl ?_
  refine V_ishr dJ5_ensureCapacityInternal_d00df_9 ?_
  refine V_int (y := nI cp) (shr0 (by omega)) ?_
  refine V_istore_2 dJ5_ensureCapacityInternal_d00df_10 rfl ?_
  refine V_iload_1 dJ5_ensureCapacityInternal_d00df_11 ?_
  refine V_iload_2 dJ5_ensureCapacityInternal_d00df_12 ?_
  refine V_isub dJ5_ensureCapacityInternal_d00df_13 ?_
  refine V_if_le (tgt := 38) dJ5_ensureCapacityInternal_d00df_14 (by decide) (fun c_14 => ?_) (fun c_14 => ?_)
  · have hle2 : q ≤ cp := by rcases Nat.lt_or_ge cp q with z | z; exact absurd c_14 (by rw [nI_sub (by omega)]; exact nI_nle (by omega) (by omega)); exact z
    exact V_retv dJ5_ensureCapacityInternal_d00df_38 rfl (kk H g cp h0 hle2 (Or.inl ⟨hle2, rfl⟩) Ext.rf)
  · have hlt : cp < q := by rcases Nat.lt_or_ge cp q with z | z; exact z; exact absurd (nI_sub_le z (by omega)) c_14
    refine V_aload_0 dJ5_ensureCapacityInternal_d00df_17 ?_
    refine V_aload_0 dJ5_ensureCapacityInternal_d00df_18 ?_
    refine V_getf dJ5_ensureCapacityInternal_d00df_19 fl_J5_15 ho.ro rfl ?_
    refine V_aload_0 dJ5_ensureCapacityInternal_d00df_22 ?_
    refine V_iload_1 dJ5_ensureCapacityInternal_d00df_23 ?_
    refine V_call_i (runP (y2 := yJ5_getValue_6d5f1) (As := [.int (nI q)]) dJ5_ensureCapacityInternal_d00df_24 ce_J5_newCapacity_0f7a4 rfl ml_J5_104 im_J5_newCapacity_0f7a4 ins_1 pm_J5_newCapacity_0f7a4 rfl im_J5_getValue_6d5f1 se_J5_getValue_6d5f1 ho.ro ⟨_, rfl, rfl⟩ rfl (Nat.le_of_ble_eq_true rfl)) (by omega) (by omega) (by omega) (c_newCap h0 hlt (by omega) ?_)
    refine V_aload_0 dJ5_ensureCapacityInternal_d00df_27 ?_
    refine V_getf dJ5_ensureCapacityInternal_d00df_28 fl_J5_22 ho.ro rfl ?_
    refine V_ishl dJ5_ensureCapacityInternal_d00df_31 ?_
    refine V_int (y := nI (cp + max (q - cp) (cp + 2))) shl0 ?_
    refine V_call_a (runS2 dJ5_ensureCapacityInternal_d00df_32 ce_J7_copyOf_9075b rfl ml_J5_108 st_J7_copyOf_9075b (Nat.le_of_ble_eq_true rfl)) (by omega) (by omega) (by omega) (c_copyOfB (t1 := t) hb hcp hac (by omega) (by omega) ht fun r H1 g1 l1 hr hl1 ht1 hac1 z1 e1 => ?_)
    have hra : r ≠ a := fun z => by have := ho.1.lt; omega
    replace ho := ho.fr e1 (by simp)
    refine V_putN dJ5_ensureCapacityInternal_d00df_35 fp_J5_ensureCapacityInternal_d00df_15 ho ht ⟨rfl, rfl⟩ (Nat.le_of_ble_eq_true rfl) rfl fun H2 ho e2 z2 => ?_
    replace hr := hr.ne hra z2
    exact V_retv dJ5_ensureCapacityInternal_d00df_38 rfl (kk H2 g1 _ ⟨r, mb, l1, ho, hr, hl1, by rw [show l.length = min l.length cp by omega, ← List.take_take, ht1]; exact htk, by omega, hac1, by omega⟩ (by omega) (Or.inr ⟨hlt, rfl⟩) ((e1.nil).trans e2))

set_option maxHeartbeats 1000000 in
set_option maxRecDepth 100000 in
theorem c_canEnc {G : GT} {H : Heap} {X : String → Heap → Prop} {x : Int32} (hx : 0 ≤ x ∧ x < 128) {F : Int32 → Heap → Prop} (kk : F 1 H) : Call G kJ1_canEncode_fc78d 0 0 0 [.int x] H (qi F) X := by
  refine startL (L0 := [some (.int x)]) rfl rfl pl_J1_canEncode_fc78d (Nat.le_of_ble_eq_true rfl) ?_
  refine V_iload_0 dJ1_canEncode_fc78d_0 ?_
  refine V_sipush (v := 255) dJ1_canEncode_fc78d_1 (by decide) ?_
  refine V_icmp_gt (tgt := 11) dJ1_canEncode_fc78d_4 (by decide) (fun c_4 => ?_) (fun c_4 => ?_)
  · exact absurd c_4 (Int32.not_lt.mpr (Int32.le_trans (Int32.le_of_lt hx.2) (by decide)))
  · refine V_iconst (v := 1) dJ1_canEncode_fc78d_7 rfl ?_
    refine V_goto (tgt := 12) dJ1_canEncode_fc78d_8 (by decide) ?_
    exact V_retz dJ1_canEncode_fc78d_12 rfl rfl rfl kk
theorem i2b_small : ∀ n, n < 128 → (nI n).toInt8.toInt32 = nI n := by decide +kernel
theorem i2b_a {x : Int32} (h : 0 ≤ x ∧ x < 128) : x.toInt8.toInt32 = x := by
  obtain ⟨n, hn, rfl⟩ := small h
  exact i2b_small n hn
theorem nb_small : ∀ n, n < 128 → narrow .byte (.int (nI n)) = .int (nI n) := by decide +kernel
theorem nb_a {x : Int32} (h : 0 ≤ x ∧ x < 128) : narrow .byte (.int x) = .int x := by
  obtain ⟨n, hn, rfl⟩ := small h
  exact nb_small n hn
theorem take_setI {row l : List Int32} {x : Int32} (h : row.take l.length = l) (hl : l.length < row.length) : (row.set l.length x).take (l ++ [x]).length = l ++ [x] := by
  apply List.ext_getElem?
  intro i
  have hg : ∀ j, j < l.length → row[j]? = l[j]? := fun j hj => by
    have h3 : (row.take l.length)[j]? = l[j]? := by rw [h]
    rwa [List.getElem?_take, if_pos hj] at h3
  rw [List.length_append, List.length_singleton, List.getElem?_take, List.getElem?_set, List.getElem?_append]
  by_cases h1 : i < l.length
  · rw [if_pos (by omega), if_neg (by omega), if_pos h1, hg i h1]
  · by_cases h2 : i = l.length
    · subst h2; simp [hl]
    · rw [if_neg (by omega), if_neg h1, List.getElem?_eq_none (by simp; omega)]
theorem asc_set {l : List Int32} {j : Nat} {x : Int32} (h : asc l) (hx : 0 ≤ x ∧ x < 128) : asc (l.set j x) := fun y hy => (List.mem_or_eq_of_mem_set hy).elim (h y) (fun e => e ▸ hx)
theorem V_bas2 {G : GT} {K : MT} {d c s : Nat} {Q : Option Value → Heap → Prop} {X : String → Heap → Prop} {H : Heap} {L : List (Option Value)} {rest : List Value} {pc : Nat} {g : Nat → Nat} {t a : Nat} {l : List Int32} {i x : Int32} (hd : decode K.2.1 pc = .ok (.bastore, 1)) (h : Ia G H g t a 2 l) (ht : t ≠ 0) (hi : vp_in i l.length) (hx : narrow .byte (.int x) = .int x)
    (kk : ∀ H1 : Heap, Ia G H1 g t a 2 (l.set i.toNatClampNeg x) → Ext G [t] H g H1 g → (∀ q : Nat, q ≠ a → H1[q]? = H[q]?) → V G K d c s Q X (pc + 1) L rest H1) : V G K d c s Q X pc L (.int x :: .int i :: .ref a :: rest) H :=
  V_bast hd h.1.1 (tg_pos (h.2 ▸ ht)) hi hx fun H1 h1 hz ho => kk H1 ⟨⟨h1, by rw [List.length_set]; exact h.1.2⟩, h.2⟩ (Ext.put hz ho (h.2 ▸ List.mem_singleton.mpr rfl)) ho
set_option maxHeartbeats 1000000 in
set_option maxRecDepth 100000 in
theorem c_asbAppC {G : GT} {H : Heap} {g : Nat → Nat} {t a cp : Nat} {X : String → Heap → Prop} {l : List Int32} (h : SB G H g t a l cp) {x : Int32} (hx : 0 ≤ x ∧ x < 128) (hl17 : l.length + 1 < 2 ^ 17) (ht : t ≠ 0) {F : Nat → Heap → Prop} (kk : ∀ (H1 : Heap) (g1 : Nat → Nat) (cp1 : Nat), SB G H1 g1 t a (l ++ [x]) cp1 → (l.length + 1 ≤ cp ∧ cp1 = cp ∨ cp < l.length + 1 ∧ cp1 = cp + max (l.length + 1 - cp) (cp + 2)) → Ext G [t] H g H1 g1 → F a H1) : Call G kJ5_append_3fe6f 5 1 (cp + max (l.length + 1 - cp) (cp + 2)) [.ref a, .int x] H (qa F) X := by
  obtain ⟨b, mb, row, ho, hb, hcp, htk, hle, hac, hc18⟩ := id h
  refine startL (L0 := [some (.ref a), some (.int x)]) rfl rfl pl_J5_append_3fe6f (Nat.le_of_ble_eq_true rfl) ?_
  refine V_aload_0 dJ5_append_3fe6f_0 ?_
  refine V_aload_0 dJ5_append_3fe6f_1 ?_
  refine V_getf dJ5_append_3fe6f_2 fl_J5_79 ho.ro rfl ?_
  refine V_iconst (v := 1) dJ5_append_3fe6f_5 rfl ?_
  refine V_iadd dJ5_append_3fe6f_6 ?_
  refine V_int (y := nI (l.length + 1)) (nI_1 _) ?_
  refine V_call_v (runP (y2 := yJ5_getValue_6d5f1) (As := [.int (nI (l.length + 1))]) dJ5_append_3fe6f_7 ce_J5_ensureCapacityInternal_d00df rfl ml_J5_100 im_J5_ensureCapacityInternal_d00df ins_1 pm_J5_ensureCapacityInternal_d00df rfl im_J5_getValue_6d5f1 se_J5_getValue_6d5f1 ho.ro ⟨_, rfl, rfl⟩ rfl (Nat.le_of_ble_eq_true rfl)) (by omega) (by omega) (by omega) (c_ensure h (by omega) ht fun H1 g1 cp1 h1 hq1 hcp1 e1 => ?_)
  clear ho hb htk hle hac hc18 hcp
  obtain ⟨b, mb, row, ho, hb, hcp, htk, hle, hac, hc18⟩ := id h1
  refine V_aload_0 dJ5_append_3fe6f_10 ?_
  refine V_call_i (runV0 dJ5_append_3fe6f_11 ce_J5_isLatin1_aae02 rfl ml_J5_83 im_J5_isLatin1_aae02 se_J5_isLatin1_aae02 ho.ro ⟨_, rfl, rfl⟩ (Nat.le_of_ble_eq_true rfl)) (by omega) (by omega) (by omega) (c_sbLatin h1 ?_)
  refine V_if_eq (tgt := 45) dJ5_append_3fe6f_14 (by decide) (fun c_14 => ?_) (fun c_14 => ?_)
  · exact absurd c_14 (by decide)
  · refine V_iload_1 dJ5_append_3fe6f_17 ?_
    refine V_call_i (runS1 dJ5_append_3fe6f_18 ce_J1_canEncode_fc78d rfl ml_J5_191 st_J1_canEncode_fc78d (Nat.le_of_ble_eq_true rfl)) (by omega) (by omega) (by omega) (c_canEnc hx ?_)
    refine V_if_eq (tgt := 45) dJ5_append_3fe6f_21 (by decide) (fun c_21 => ?_) (fun c_21 => ?_)
    · exact absurd c_21 (by decide)
    · refine V_aload_0 dJ5_append_3fe6f_24 ?_
      refine V_getf dJ5_append_3fe6f_25 fl_J5_15 ho.ro rfl ?_
      refine V_aload_0 dJ5_append_3fe6f_28 ?_
      refine V_dup dJ5_append_3fe6f_29 rfl ?_
      refine V_getf dJ5_append_3fe6f_30 fl_J5_79 ho.ro rfl ?_
      refine V_dup_x1 dJ5_append_3fe6f_33 rfl rfl ?_
      refine V_iconst (v := 1) dJ5_append_3fe6f_34 rfl ?_
      refine V_iadd dJ5_append_3fe6f_35 ?_
      refine V_int (y := nI (l ++ [x]).length) (by rw [List.length_append]; exact nI_1 _) ?_
      have hba := ho.1.ne_ia (i := 0) hb (Nat.le_of_ble_eq_true rfl) rfl ⟨_, rfl, by decide⟩
      refine V_putN dJ5_append_3fe6f_36 fp_J5_append_3fe6f_79 ho ht ⟨rfl, rfl⟩ (Nat.le_of_ble_eq_true rfl) rfl fun H2 ho e2 z2 => ?_
      replace hb := hb.ne hba z2
      refine V_iload_1 dJ5_append_3fe6f_39 ?_
      refine V_i2b (v := x) dJ5_append_3fe6f_40 (i2b_a hx) ?_
      refine V_bas2 dJ5_append_3fe6f_41 hb ht (vp_in_nI (by omega) (by omega)) (nb_a hx) fun H3 hb e3 z3 => ?_
      replace ho := ho.ne hba.symm z3
      rw [nI_clamp (by omega)] at hb
      refine V_goto (tgt := 75) dJ5_append_3fe6f_42 (by decide) ?_
      refine V_aload_0 dJ5_append_3fe6f_75 ?_
      exact V_reta dJ5_append_3fe6f_76 rfl (Or.inl ⟨_, rfl⟩) (kk H3 g1 cp1 ⟨b, mb, _, ho, hb, by rw [List.length_set]; exact hcp, take_setI htk (by omega), by rw [List.length_append]; exact hq1, asc_set hac hx, hc18⟩ hcp1 ((e1.trans e2).trans e3))

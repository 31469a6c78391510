section RUNU
variable {G : GT} {K : MT} {H : Heap} {rest : List Value} {pc : Nat}
/-- a call whose link names a method of the superclass and whose object's class overrides it -/
theorem runU0 {K2 Kx : MT} {C : String} {idx b ci : Nat} {fs : List Value} (hd : decode K.2.1 pc = .ok (.invokevirtual idx, 3)) (hce : CE K2 0) (hh : K2.2.2.2.2 = []) (hcx : CE Kx 0) (hhx : Kx.2.2.2.2 = []) (hl : Cond.methodLink K.1.cls idx Kx.1 ∈ Tb) (hsm : Cond.sameMethod Kx.1.cls Kx.1.cls Kx.1.name Kx.1.desc ∈ Tb) (hix : Cond.instanceMethod Kx.1 ∈ Tb) (hse : Cond.selects C Kx.1 K2.1 ∈ Tb) (hin : Cond.instanceMethod K2.1 ∈ Tb) (hr : ro G H b ci fs) (hci : ∃ q : vw_C, vwCl[ci]? = some q ∧ q.1 = C) (h8 : (rest.map fun v => v.category).sum ≤ 8) : RunsTo G K pc (.ref b :: rest) rest K2 [.ref b] H := by
  intro d c s d2 c2 s2 Q2 X2 hM h1 h2 h3 p e R st m args below meth co ls locs ce sl hC hls hS hc hs
  have hcw : Cond.code K2.1 K2.2.1 K2.2.2.1 K2.2.2.2.1 ∈ Tb := by have := hce.1; unfold hdK at this; rw [hh] at this; exact this
  have hcm : Cond.code K2.1 K2.2.1 K2.2.2.1 K2.2.2.2.1 ∈ hdK K2 :: Tb := List.mem_cons_of_mem _ hcw
  have hcy : Cond.code Kx.1 Kx.2.1 Kx.2.2.1 Kx.2.2.2.1 ∈ Tb := by have := hcx.1; unfold hdK at this; rw [hhx] at this; exact this
  exact vx_runU (Ts := Tb) (C := C) (owner := Kx.1.cls) (x := Kx.1) (As := []) (rest := rest) (g := F0 m pc ls (.ref b :: rest)) ⟨hC.1, hC.2.1, hC.2.2.1, hC.own, hC.w⟩ hM ⟨⟨rfl, rfl, Nat.le_trans h1 hC.fr, lo_ok hce h1 hC.lo, okTb hC.w hce.ws, hcm⟩, hC.w _ hcw, hC.w _ hce.2.1, hcx.2.2.1, hcx.ar, hC.w _ hl, hC.w _ hsm, va_Decl.of (hC.w _ hix) (hC.w _ hcy), hC.w _ hse, hC.w _ hin⟩ ⟨KU.blind, hr.cell hC hci, fun U hU hW => ⟨rfl, hU, KU.next hC hS hU hW⟩⟩ rfl rfl hls rfl (by show 2 * 0 + _ ≤ 8; omega) hd ⟨Nat.le_trans (Nat.add_le_add_left h2 ce) hc, Nat.le_trans (Nat.add_le_add_left h3 sl) hs⟩
end RUNU
set_option maxHeartbeats 1000000 in
set_option maxRecDepth 100000 in
theorem c_jLen {G : GT} {H : Heap} {g : Nat → Nat} {t a cp : Nat} {X : String → Heap → Prop} {l : List Int32} (h : SB G H g t a l cp) {F : Int32 → Heap → Prop} (kk : F (nI l.length) H) : Call G kJ4_length_8abf5 1 0 0 [.ref a] H (qi F) X := by
  obtain ⟨fs, hfs⟩ := h.o
  refine startL (L0 := [some (.ref a)]) rfl rfl pl_J4_length_8abf5 (Nat.le_of_ble_eq_true rfl) ?_
  refine V_aload_0 dJ4_length_8abf5_0 ?_
  refine V_call_i (runSU0 dJ4_length_8abf5_1 ce_J5_length_8abf5 rfl ml_J4_343 sm_J5_length_8abf5 su_J4_J5 im_J5_length_8abf5 (by decide) hfs ⟨_, rfl, rfl⟩ (Nat.le_of_ble_eq_true rfl)) (by omega) (by omega) (by omega) (c_sbLen h ?_)
  exact V_reti dJ4_length_8abf5_4 rfl rfl kk
set_option maxHeartbeats 1000000 in
set_option maxRecDepth 100000 in
theorem c_jChar {G : GT} {H : Heap} {g : Nat → Nat} {t a cp : Nat} {X : String → Heap → Prop} {l : List Int32} (h : SB G H g t a l cp) {j : Nat} (hj : j < l.length) {F : Int32 → Heap → Prop} (kk : F (l.getD j 0) H) : Call G kJ4_charAt_5068e 4 0 0 [.ref a, .int (nI j)] H (qi F) X := by
  obtain ⟨fs, hfs⟩ := h.o
  have hx := asc_at h.asc j
  refine startL (L0 := [some (.ref a), some (.int (nI j))]) rfl rfl pl_J4_charAt_5068e (Nat.le_of_ble_eq_true rfl) ?_
  refine V_aload_0 dJ4_charAt_5068e_0 ?_
  refine V_iload_1 dJ4_charAt_5068e_1 ?_
  refine V_call_i (runSU1 dJ4_charAt_5068e_2 ce_J5_charAt_5068e rfl ml_J4_329 sm_J5_charAt_5068e su_J4_J5 im_J5_charAt_5068e (by decide) hfs ⟨_, rfl, rfl⟩ (Nat.le_of_ble_eq_true rfl)) (by omega) (by omega) (by omega) (c_sbCharA h hj ?_)
  exact V_retz dJ4_charAt_5068e_5 rfl (chr_n hx) rfl kk
set_option maxHeartbeats 1000000 in
set_option maxRecDepth 100000 in
theorem c_jAppC {G : GT} {H : Heap} {g : Nat → Nat} {t a cp : Nat} {X : String → Heap → Prop} {l : List Int32} (h : SB G H g t a l cp) {x : Int32} (hx : 0 ≤ x ∧ x < 128) (hl17 : l.length + 1 < 2 ^ 17) (ht : t ≠ 0) {F : Nat → Heap → Prop} (kk : ∀ (H1 : Heap) (g1 : Nat → Nat) (cp1 : Nat), SB G H1 g1 t a (l ++ [x]) cp1 → (l.length + 1 ≤ cp ∧ cp1 = cp ∨ cp < l.length + 1 ∧ cp1 = cp + max (l.length + 1 - cp) (cp + 2)) → Ext G [t] H g H1 g1 → F a H1) : Call G kJ4_append_cf468 6 1 (cp + max (l.length + 1 - cp) (cp + 2)) [.ref a, .int x] H (qa F) X := by
  obtain ⟨fs, hfs⟩ := h.o
  refine startL (L0 := [some (.ref a), some (.int x)]) rfl rfl pl_J4_append_cf468 (Nat.le_of_ble_eq_true rfl) ?_
  refine V_aload_0 dJ4_append_cf468_0 ?_
  refine V_iload_1 dJ4_append_cf468_1 ?_
  refine V_call_a (runSU1 dJ4_append_cf468_2 ce_J5_append_3fe6f rfl ml_J4_50 sm_J5_append_3fe6f su_J4_J5 im_J5_append_3fe6f (by decide) hfs ⟨_, rfl, rfl⟩ (Nat.le_of_ble_eq_true rfl)) (by omega) (by omega) (by omega) (c_asbAppC h hx hl17 ht fun H1 g1 cp1 h1 hcp1 e1 => ?_)
  refine V_pop dJ4_append_cf468_5 rfl ?_
  refine V_aload_0 dJ4_append_cf468_6 ?_
  exact V_reta dJ4_append_cf468_7 rfl (Or.inl ⟨_, rfl⟩) (kk H1 g1 cp1 h1 hcp1 e1)
set_option maxHeartbeats 1000000 in
set_option maxRecDepth 100000 in
theorem c_ensNo {G : GT} {H : Heap} {g : Nat → Nat} {t a cp : Nat} {X : String → Heap → Prop} {l : List Int32} (h : SB G H g t a l cp) {q : Nat} (hq : q ≤ cp) {F : Heap → Prop} (kk : F H) : Call G kJ5_ensureCapacityInternal_d00df 0 0 0 [.ref a, .int (nI q)] H (qv F) X := by
  obtain ⟨b, mb, row, ho, hb, hcp, htk, hle, hac, hc18⟩ := id h
  refine startL (L0 := [some (.ref a), some (.int (nI q)), none]) rfl rfl pl_J5_ensureCapacityInternal_d00df (Nat.le_of_ble_eq_true rfl) ?_
  refine V_aload_0 dJ5_ensureCapacityInternal_d00df_0 ?_
  refine V_getf dJ5_ensureCapacityInternal_d00df_1 fl_J5_15 ho.ro rfl ?_
  refine V_alen (v := nI cp) dJ5_ensureCapacityInternal_d00df_4 hb.ra (by rw [hcp]; rfl) ?_
  refine V_aload_0 dJ5_ensureCapacityInternal_d00df_5 ?_
  refine V_getf dJ5_ensureCapacityInternal_d00df_6 fl_J5_22 ho.ro rfl ?_
  refine V_ishr dJ5_ensureCapacityInternal_d00df_9 ?_
  refine V_int (y := nI cp) (shr0 (by omega)) ?_
  refine V_istore_2 dJ5_ensureCapacityInternal_d00df_10 rfl ?_
  refine V_iload_1 dJ5_ensureCapacityInternal_d00df_11 ?_
  refine V_iload_2 dJ5_ensureCapacityInternal_d00df_12 ?_
  refine V_isub dJ5_ensureCapacityInternal_d00df_13 ?_
  refine V_if_le (tgt := 38) dJ5_ensureCapacityInternal_d00df_14 (by decide) (fun c_14 => ?_) (fun c_14 => ?_)
  · exact V_retv dJ5_ensureCapacityInternal_d00df_38 rfl kk
  · exact absurd (nI_sub_le hq (by omega)) c_14
set_option maxHeartbeats 1000000 in
set_option maxRecDepth 100000 in
theorem c_asbSet0 {G : GT} {H : Heap} {g : Nat → Nat} {t a cp : Nat} {X : String → Heap → Prop} {l : List Int32} (h : SB G H g t a l cp) (ht : t ≠ 0) {F : Heap → Prop} (kk : ∀ H1 : Heap, SB G H1 g t a [] cp → Ext G [t] H g H1 g → F H1) : Call G kJ5_setLength_d00df 1 0 0 [.ref a, .int 0] H (qv F) X := by
  obtain ⟨b, mb, row, ho, hb, hcp, htk, hle, hac, hc18⟩ := id h
  have E : Ext G [t] H g H g := Ext.rf
  refine startL (L0 := [some (.ref a), some (.int 0)]) rfl rfl pl_J5_setLength_d00df (Nat.le_of_ble_eq_true rfl) ?_
  refine V_iload_1 dJ5_setLength_d00df_0 ?_
  refine V_if_ge (tgt := 13) dJ5_setLength_d00df_1 (by decide) (fun c_1 => ?_) (fun c_1 => ?_)
  · refine V_aload_0 dJ5_setLength_d00df_13 ?_
    refine V_iload_1 dJ5_setLength_d00df_14 ?_
    refine V_int (y := nI 0) (by decide) ?_
    refine V_call_v (runP (y2 := yJ5_getValue_6d5f1) (As := [.int (nI 0)]) dJ5_setLength_d00df_15 ce_J5_ensureCapacityInternal_d00df rfl ml_J5_100 im_J5_ensureCapacityInternal_d00df ins_1 pm_J5_ensureCapacityInternal_d00df rfl im_J5_getValue_6d5f1 se_J5_getValue_6d5f1 ho.ro ⟨_, rfl, rfl⟩ rfl (Nat.le_of_ble_eq_true rfl)) (by omega) (by omega) (by omega) (c_ensNo h (Nat.zero_le _) ?_)
    refine V_aload_0 dJ5_setLength_d00df_18 ?_
    refine V_getf dJ5_setLength_d00df_19 fl_J5_79 ho.ro rfl ?_
    refine V_iload_1 dJ5_setLength_d00df_22 ?_
    refine V_icmp_ge (tgt := 63) dJ5_setLength_d00df_23 (by decide) (fun c_23 => ?_) (fun c_23 => ?_)
    · refine V_aload_0 dJ5_setLength_d00df_63 ?_
      refine V_getf dJ5_setLength_d00df_64 fl_J5_79 ho.ro rfl ?_
      refine V_iload_1 dJ5_setLength_d00df_67 ?_
      refine V_icmp_le (tgt := 76) dJ5_setLength_d00df_68 (by decide) (fun c_68 => ?_) (fun c_68 => ?_)
      · refine V_aload_0 dJ5_setLength_d00df_76 ?_
        refine V_iload_1 dJ5_setLength_d00df_77 ?_
        have hba := ho.1.ne_ia (i := 0) hb (Nat.le_of_ble_eq_true rfl) rfl ⟨_, rfl, by decide⟩
        refine V_putN dJ5_setLength_d00df_78 fp_J5_setLength_d00df_79 ho ht ⟨rfl, rfl⟩ (Nat.le_of_ble_eq_true rfl) rfl fun H1 ho e1 z1 => ?_
        replace hb := hb.ne hba z1
        replace E := E.trans e1
        exact V_retv dJ5_setLength_d00df_81 rfl (kk H1 ⟨b, _, row, ho, hb, hcp, List.take_zero, Nat.zero_le _, hac, hc18⟩ E)
      · refine V_aload_0 dJ5_setLength_d00df_71 ?_
        refine V_iconst (v := 1) dJ5_setLength_d00df_72 rfl ?_
        have hba := ho.1.ne_ia (i := 0) hb (Nat.le_of_ble_eq_true rfl) rfl ⟨_, rfl, by decide⟩
        refine V_putN dJ5_setLength_d00df_73 fp_J5_setLength_d00df_73 ho ht ⟨rfl, rfl⟩ (Nat.le_of_ble_eq_true rfl) rfl fun H1 ho e1 z1 => ?_
        replace hb := hb.ne hba z1
        replace E := E.trans e1
        refine V_aload_0 dJ5_setLength_d00df_76 ?_
        refine V_iload_1 dJ5_setLength_d00df_77 ?_
        have hba := ho.1.ne_ia (i := 0) hb (Nat.le_of_ble_eq_true rfl) rfl ⟨_, rfl, by decide⟩
        refine V_putN dJ5_setLength_d00df_78 fp_J5_setLength_d00df_79 ho ht ⟨rfl, rfl⟩ (Nat.le_of_ble_eq_true rfl) rfl fun H2 ho e2 z2 => ?_
        replace hb := hb.ne hba z2
        replace E := E.trans e2
        exact V_retv dJ5_setLength_d00df_81 rfl (kk H2 ⟨b, _, row, ho, hb, hcp, List.take_zero, Nat.zero_le _, hac, hc18⟩ E)
    · exact absurd (nI_le (a := 0) (Nat.zero_le l.length) (by omega)) c_23
  · exact absurd (by decide) c_1
set_option maxHeartbeats 1000000 in
set_option maxRecDepth 100000 in
theorem c_jSet0 {G : GT} {H : Heap} {g : Nat → Nat} {t a cp : Nat} {X : String → Heap → Prop} {l : List Int32} (h : SB G H g t a l cp) (ht : t ≠ 0) {F : Heap → Prop} (kk : ∀ H1 : Heap, SB G H1 g t a [] cp → Ext G [t] H g H1 g → F H1) : Call G kJ4_setLength_d00df 2 0 0 [.ref a, .int 0] H (qv F) X := by
  obtain ⟨fs, hfs⟩ := h.o
  refine startL (L0 := [some (.ref a), some (.int 0)]) rfl rfl pl_J4_setLength_d00df (Nat.le_of_ble_eq_true rfl) ?_
  refine V_aload_0 dJ4_setLength_d00df_0 ?_
  refine V_iload_1 dJ4_setLength_d00df_1 ?_
  refine V_call_v (runSU1 dJ4_setLength_d00df_2 ce_J5_setLength_d00df rfl ml_J4_333 sm_J5_setLength_d00df su_J4_J5 im_J5_setLength_d00df (by decide) hfs ⟨_, rfl, rfl⟩ (Nat.le_of_ble_eq_true rfl)) (by omega) (by omega) (by omega) (c_asbSet0 h ht fun H1 h1 e1 => ?_)
  exact V_retv dJ4_setLength_d00df_5 rfl (kk H1 h1 e1)
theorem lay_app {row l l2 : List Int32} (h : row.take l.length = l) (hl : l.length + l2.length ≤ row.length) : (layI l2 row 0 l.length l2.length).take (l ++ l2).length = l ++ l2 := by
  apply List.ext_getElem?
  intro i
  have hg : ∀ j, j < l.length → row[j]? = l[j]? := fun j hj => by
    have h3 : (row.take l.length)[j]? = l[j]? := by rw [h]
    rwa [List.getElem?_take, if_pos hj] at h3
  rw [List.length_append, List.getElem?_take, List.getElem?_append]
  unfold layI
  by_cases h1 : i < l.length + l2.length
  · rw [if_pos h1, List.getElem?_map, List.getElem?_range (by omega)]
    by_cases h2 : i < l.length
    · rw [if_pos h2, ← hg i h2]
      have h4 : ¬ l.length ≤ i := by omega
      have h5 : i < row.length := by omega
      simp [h4, h5, List.getD_eq_getElem?_getD]
    · rw [if_neg h2]
      have h4 : l.length ≤ i := by omega
      have h5 : i - l.length < l2.length := by omega
      simp [h4, h1, h5, List.getD_eq_getElem?_getD]
  · rw [if_neg h1, if_neg (by omega), List.getElem?_eq_none (by omega)]
set_option maxHeartbeats 1000000 in
set_option maxRecDepth 100000 in
theorem c_getBytes {G : GT} {H : Heap} {g : Nat → Nat} {X : String → Heap → Prop} {t m b q : Nat} {l2 row : List Int32} (hs : isStr G H m l2) (hb : Ia G H g t b 2 row) (ht : t ≠ 0) (hq : q + l2.length ≤ row.length) (hr18 : row.length < 2 ^ 18) {F : Heap → Prop} (kk : ∀ H1 : Heap, Ia G H1 g t b 2 (layI l2 row 0 q l2.length) → (∀ x : Nat, x ≠ b → H1[x]? = H[x]?) → H1.size = H.size → F H1) : Call G kJ0_getBytes_840e7 2 0 0 [.ref m, .ref b, .int (nI q), .int 0] H (qv F) X := by
  have hs0 := hs
  obtain ⟨hfa, hfl, b2, x2, z2, hms, hmb⟩ := id hs
  refine startL (L0 := [some (.ref m), some (.ref b), some (.int (nI q)), some (.int 0)]) rfl rfl pl_J0_getBytes_840e7 (Nat.le_of_ble_eq_true rfl) ?_
  refine V_aload_0 dJ0_getBytes_840e7_0 ?_
  refine V_call_i (runV0 dJ0_getBytes_840e7_1 ce_J0_coder_7d493 rfl ml_J0_335 im_J0_coder_7d493 se_J0_coder_7d493 hms ⟨_, rfl, rfl⟩ (Nat.le_of_ble_eq_true rfl)) (by omega) (by omega) (by omega) (c_scoder hs0 ?_)
  refine V_iload_3 dJ0_getBytes_840e7_4 ?_
  refine V_icmp_ne (tgt := 28) dJ0_getBytes_840e7_5 (by decide) (fun c_5 => ?_) (fun c_5 => ?_)
  · exact absurd rfl c_5
  · refine V_aload_0 dJ0_getBytes_840e7_8 ?_
    refine V_getf dJ0_getBytes_840e7_9 fl_J0_9 hms rfl ?_
    refine V_iconst (v := 0) dJ0_getBytes_840e7_12 rfl ?_
    refine V_aload_1 dJ0_getBytes_840e7_13 ?_
    refine V_iload_2 dJ0_getBytes_840e7_14 ?_
    refine V_iload_3 dJ0_getBytes_840e7_15 ?_
    refine V_ishl dJ0_getBytes_840e7_16 ?_
    refine V_int (y := nI q) shl0 ?_
    refine V_aload_0 dJ0_getBytes_840e7_17 ?_
    refine V_getf dJ0_getBytes_840e7_18 fl_J0_9 hms rfl ?_
    refine V_alen (v := nI l2.length) dJ0_getBytes_840e7_21 hmb rfl ?_
    refine V_cpI2 dJ0_getBytes_840e7_22 ml_J0_212 ex_acN ex_acS ex_sys (by omega) (Nat.le_of_ble_eq_true rfl) hmb hb ht (by decide) (by decide) (nI_pos (by omega)) (nI_pos (by omega)) (by rw [nI_clamp (by omega)]; show 0 + l2.length ≤ _; omega) (by rw [nI_clamp (by omega), nI_clamp (by omega)]; omega) (fun i hi => fits_a (asc_at hfa _)) fun H1 hb1 o1 z1 => ?_
    refine V_goto (tgt := 43) dJ0_getBytes_840e7_25 (by decide) ?_
    rw [nI_clamp (by omega), nI_clamp (by omega)] at hb1
    exact V_retv dJ0_getBytes_840e7_43 rfl (kk H1 hb1 o1 z1)
set_option maxHeartbeats 1000000 in
set_option maxRecDepth 100000 in
theorem c_inflIf {G : GT} {H : Heap} {g : Nat → Nat} {t a cp : Nat} {X : String → Heap → Prop} {l : List Int32} (h : SB G H g t a l cp) {m : Nat} {l2 : List Int32} (hs : isStr G H m l2) {F : Heap → Prop} (kk : F H) : Call G kJ5_inflateIfNeededFor_a7421 2 0 0 [.ref a, .ref m] H (qv F) X := by
  obtain ⟨fs2, hms⟩ := hs.o
  obtain ⟨b, mb, row, ho, hb, hcp, htk, hle, hac, hc18⟩ := id h
  refine startL (L0 := [some (.ref a), some (.ref m)]) rfl rfl pl_J5_inflateIfNeededFor_a7421 (Nat.le_of_ble_eq_true rfl) ?_
  refine V_gets (i := 0) (v := .int 1) dJ5_inflateIfNeededFor_a7421_0 rfl fs_J5_18 rfl ?_
  refine V_if_eq (tgt := 21) dJ5_inflateIfNeededFor_a7421_3 (by decide) (fun c_3 => ?_) (fun c_3 => ?_)
  · exact absurd c_3 (by decide)
  · refine V_aload_0 dJ5_inflateIfNeededFor_a7421_6 ?_
    refine V_getf dJ5_inflateIfNeededFor_a7421_7 fl_J5_22 ho.ro rfl ?_
    refine V_aload_1 dJ5_inflateIfNeededFor_a7421_10 ?_
    refine V_call_i (runV0 dJ5_inflateIfNeededFor_a7421_11 ce_J0_coder_7d493 rfl ml_J5_40 im_J0_coder_7d493 se_J0_coder_7d493 hms ⟨_, rfl, rfl⟩ (Nat.le_of_ble_eq_true rfl)) (by omega) (by omega) (by omega) (c_scoder hs ?_)
    refine V_icmp_eq (tgt := 21) dJ5_inflateIfNeededFor_a7421_14 (by decide) (fun c_14 => ?_) (fun c_14 => ?_)
    · exact V_retv dJ5_inflateIfNeededFor_a7421_21 rfl kk
    · exact absurd rfl c_14
set_option maxHeartbeats 1000000 in
set_option maxRecDepth 100000 in
theorem c_putStr {G : GT} {H : Heap} {g : Nat → Nat} {t a cp : Nat} {X : String → Heap → Prop} {l : List Int32} (h : SB G H g t a l cp) {m : Nat} {l2 : List Int32} (hs : isStr G H m l2) (ht : t ≠ 0) (hq : l.length + l2.length ≤ cp) {F : Heap → Prop} (kk : ∀ (H1 : Heap) (b : Nat) (mb : Int32) (row : List Int32), Ob G H1 g t a 1 [.ref b, .int 0, .int mb, .int (nI l.length)] → Ia G H1 g t b 2 row → row.length = cp → row.take (l ++ l2).length = l ++ l2 → asc row → Ext G [t] H g H1 g → F H1) : Call G kJ5_putStringAt_47b60 3 0 0 [.ref a, .int (nI l.length), .ref m] H (qv F) X := by
  obtain ⟨fs2, hms⟩ := hs.o
  obtain ⟨b, mb, row, ho, hb, hcp, htk, hle, hac, hc18⟩ := id h
  refine startL (L0 := [some (.ref a), some (.int (nI l.length)), some (.ref m)]) rfl rfl pl_J5_putStringAt_47b60 (Nat.le_of_ble_eq_true rfl) ?_
  refine V_aload_0 dJ5_putStringAt_47b60_0 ?_
  refine V_aload_2 dJ5_putStringAt_47b60_1 ?_
  refine V_call_v (runP (y2 := yJ5_getValue_6d5f1) (As := [.ref m]) dJ5_putStringAt_47b60_2 ce_J5_inflateIfNeededFor_a7421 rfl ml_J5_397 im_J5_inflateIfNeededFor_a7421 ins_1 pm_J5_inflateIfNeededFor_a7421 rfl im_J5_getValue_6d5f1 se_J5_getValue_6d5f1 ho.ro ⟨_, rfl, rfl⟩ rfl (Nat.le_of_ble_eq_true rfl)) (by omega) (by omega) (by omega) (c_inflIf h hs ?_)
  refine V_aload_2 dJ5_putStringAt_47b60_5 ?_
  refine V_aload_0 dJ5_putStringAt_47b60_6 ?_
  refine V_getf dJ5_putStringAt_47b60_7 fl_J5_15 ho.ro rfl ?_
  refine V_iload_1 dJ5_putStringAt_47b60_10 ?_
  refine V_aload_0 dJ5_putStringAt_47b60_11 ?_
  refine V_getf dJ5_putStringAt_47b60_12 fl_J5_22 ho.ro rfl ?_
  refine V_call_v (runV3 dJ5_putStringAt_47b60_15 ce_J0_getBytes_840e7 rfl ml_J5_399 im_J0_getBytes_840e7 se_J0_getBytes_840e7 hms ⟨_, rfl, rfl⟩ (Nat.le_of_ble_eq_true rfl)) (by omega) (by omega) (by omega) (c_getBytes hs hb ht (by omega) (by omega) fun H1 hb1 o1 z1 => ?_)
  have hba := ho.1.ne_ia (i := 0) hb (Nat.le_of_ble_eq_true rfl) rfl ⟨_, rfl, by decide⟩
  exact V_retv dJ5_putStringAt_47b60_18 rfl (kk H1 b mb _ (ho.ne hba.symm o1) hb1 (by rw [layI_len]; exact hcp) (lay_app htk (by omega)) (asc_lay hs.1 hac) (Ext.put z1 o1 (hb.2 ▸ List.mem_singleton.mpr rfl)))
set_option maxHeartbeats 1000000 in
set_option maxRecDepth 100000 in
theorem c_asbAppS {G : GT} {H : Heap} {g : Nat → Nat} {t a cp : Nat} {X : String → Heap → Prop} {l : List Int32} (h : SB G H g t a l cp) {m : Nat} {l2 : List Int32} (hs : Sz G H g m l2) (hl17 : l.length + l2.length < 2 ^ 17) (ht : t ≠ 0) {F : Nat → Heap → Prop} (kk : ∀ (H1 : Heap) (g1 : Nat → Nat) (cp1 : Nat), SB G H1 g1 t a (l ++ l2) cp1 → (l.length + l2.length ≤ cp ∧ cp1 = cp ∨ cp < l.length + l2.length ∧ cp1 = cp + max (l.length + l2.length - cp) (cp + 2)) → Ext G [t] H g H1 g1 → F a H1) : Call G kJ5_append_cf1ce 5 1 (cp + max (l.length + l2.length - cp) (cp + 2)) [.ref a, .ref m] H (qa F) X := by
  have hst := hs.str
  obtain ⟨fs2, hms⟩ := hst.o
  obtain ⟨b, mb, row, ho, hb, hcp, htk, hle, hac, hc18⟩ := id h
  refine startL (L0 := [some (.ref a), some (.ref m), none]) rfl rfl pl_J5_append_cf1ce (Nat.le_of_ble_eq_true rfl) ?_
  refine V_aload_1 dJ5_append_cf1ce_0 ?_
  refine V_nonnull (tgt := 9) dJ5_append_cf1ce_1 (by decide) ?_
  refine V_aload_1 dJ5_append_cf1ce_9 ?_
  refine V_call_i (runV0 dJ5_append_cf1ce_10 ce_J0_length_8abf5 rfl ml_J5_32 im_J0_length_8abf5 se_J0_length_8abf5 hms ⟨_, rfl, rfl⟩ (Nat.le_of_ble_eq_true rfl)) (by omega) (by omega) (by omega) (c_slen hst ?_)
  refine V_istore_2 dJ5_append_cf1ce_13 rfl ?_
  refine V_aload_0 dJ5_append_cf1ce_14 ?_
  refine V_aload_0 dJ5_append_cf1ce_15 ?_
  refine V_getf dJ5_append_cf1ce_16 fl_J5_79 ho.ro rfl ?_
  refine V_iload_2 dJ5_append_cf1ce_19 ?_
  refine V_iadd dJ5_append_cf1ce_20 ?_
  refine V_int (y := nI (l.length + l2.length)) (nI_add _ _) ?_
  refine V_call_v (runP (y2 := yJ5_getValue_6d5f1) (As := [.int (nI (l.length + l2.length))]) dJ5_append_cf1ce_21 ce_J5_ensureCapacityInternal_d00df rfl ml_J5_100 im_J5_ensureCapacityInternal_d00df ins_1 pm_J5_ensureCapacityInternal_d00df rfl im_J5_getValue_6d5f1 se_J5_getValue_6d5f1 ho.ro ⟨_, rfl, rfl⟩ rfl (Nat.le_of_ble_eq_true rfl)) (by omega) (by omega) (by omega) (c_ensure h (by omega) ht fun H1 g1 cp1 h1 hq1 hcp1 e1 => ?_)
  replace hs := hs.fr e1 (n1 (fun z => ht z.symm))
  replace hst := hs.str
  clear ho hb htk hle hac hc18 hcp
  obtain ⟨b, mb, row, ho, hb, hcp, htk, hle, hac, hc18⟩ := id h1
  refine V_aload_0 dJ5_append_cf1ce_24 ?_
  refine V_aload_0 dJ5_append_cf1ce_25 ?_
  refine V_getf dJ5_append_cf1ce_26 fl_J5_79 ho.ro rfl ?_
  refine V_aload_1 dJ5_append_cf1ce_29 ?_
  refine V_call_v (runP (y2 := yJ5_getValue_6d5f1) (As := [.int (nI l.length), .ref m]) dJ5_append_cf1ce_30 ce_J5_putStringAt_47b60 rfl ml_J5_208 im_J5_putStringAt_47b60 ins_1 pm_J5_putStringAt_47b60 rfl im_J5_getValue_6d5f1 se_J5_getValue_6d5f1 ho.ro ⟨_, rfl, rfl⟩ rfl (Nat.le_of_ble_eq_true rfl)) (by omega) (by omega) (by omega) (c_putStr h1 hst ht (by omega) fun H2 b2 mb2 row2 ho2 hb2 hcp2 htk2 hac2 e2 => ?_)
  refine V_aload_0 dJ5_append_cf1ce_33 ?_
  refine V_dup dJ5_append_cf1ce_34 rfl ?_
  refine V_getf dJ5_append_cf1ce_35 fl_J5_79 ho2.ro rfl ?_
  refine V_iload_2 dJ5_append_cf1ce_38 ?_
  refine V_iadd dJ5_append_cf1ce_39 ?_
  refine V_int (y := nI (l ++ l2).length) (by rw [List.length_append]; exact nI_add _ _) ?_
  have hba := ho2.1.ne_ia (i := 0) hb2 (Nat.le_of_ble_eq_true rfl) rfl ⟨_, rfl, by decide⟩
  refine V_putN dJ5_append_cf1ce_40 fp_J5_append_cf1ce_79 ho2 ht ⟨rfl, rfl⟩ (Nat.le_of_ble_eq_true rfl) rfl fun H3 ho3 e3 z3 => ?_
  refine V_aload_0 dJ5_append_cf1ce_43 ?_
  exact V_reta dJ5_append_cf1ce_44 rfl (Or.inl ⟨_, rfl⟩) (kk H3 g1 cp1 ⟨b2, mb2, row2, ho3, hb2.ne hba z3, hcp2, htk2, by rw [List.length_append]; exact hq1, hac2, hc18⟩ hcp1 ((e1.trans e2).trans e3))
set_option maxHeartbeats 1000000 in
set_option maxRecDepth 100000 in
theorem c_jAppS {G : GT} {H : Heap} {g : Nat → Nat} {t a cp : Nat} {X : String → Heap → Prop} {l : List Int32} (h : SB G H g t a l cp) {m : Nat} {l2 : List Int32} (hs : Sz G H g m l2) (hl17 : l.length + l2.length < 2 ^ 17) (ht : t ≠ 0) {F : Nat → Heap → Prop} (kk : ∀ (H1 : Heap) (g1 : Nat → Nat) (cp1 : Nat), SB G H1 g1 t a (l ++ l2) cp1 → (l.length + l2.length ≤ cp ∧ cp1 = cp ∨ cp < l.length + l2.length ∧ cp1 = cp + max (l.length + l2.length - cp) (cp + 2)) → Ext G [t] H g H1 g1 → F a H1) : Call G kJ4_append_15ec4 6 1 (cp + max (l.length + l2.length - cp) (cp + 2)) [.ref a, .ref m] H (qa F) X := by
  obtain ⟨fs, hfs⟩ := h.o
  refine startL (L0 := [some (.ref a), some (.ref m)]) rfl rfl pl_J4_append_15ec4 (Nat.le_of_ble_eq_true rfl) ?_
  refine V_aload_0 dJ4_append_15ec4_0 ?_
  refine V_aload_1 dJ4_append_15ec4_1 ?_
  refine V_call_a (runSU1 dJ4_append_15ec4_2 ce_J5_append_cf1ce rfl ml_J4_29 sm_J5_append_cf1ce su_J4_J5 im_J5_append_cf1ce (by decide) hfs ⟨_, rfl, rfl⟩ (Nat.le_of_ble_eq_true rfl)) (by omega) (by omega) (by omega) (c_asbAppS h hs hl17 ht fun H1 g1 cp1 h1 hcp1 e1 => ?_)
  refine V_pop dJ4_append_15ec4_5 rfl ?_
  refine V_aload_0 dJ4_append_15ec4_6 ?_
  exact V_reta dJ4_append_15ec4_7 rfl (Or.inl ⟨_, rfl⟩) (kk H1 g1 cp1 h1 hcp1 e1)

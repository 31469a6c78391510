/-- a builder of text: l what it holds, cp how long its row is -/
def SB (G : GT) (H : Heap) (g : Nat → Nat) (t a : Nat) (l : List Int32) (cp : Nat) : Prop := ∃ (b : Nat) (mb : Int32) (row : List Int32), Ob G H g t a 1 [.ref b, .int 0, .int mb, .int (nI l.length)] ∧ Ia G H g t b 2 row ∧ row.length = cp ∧ row.take l.length = l ∧ l.length ≤ cp ∧ asc row ∧ cp < 2 ^ 18
theorem SB.fr {G : GT} {H H1 : Heap} {g g1 : Nat → Nat} {ts : List Nat} {t a cp : Nat} {l : List Int32} (h : SB G H g t a l cp) (e : Ext G ts H g H1 g1) (ht : t ∉ ts) : SB G H1 g1 t a l cp := by
  obtain ⟨b, mb, row, h1, h2, h3⟩ := h
  exact ⟨b, mb, row, h1.fr e ht, h2.fr e ht, h3⟩
theorem SB.asc {G : GT} {H : Heap} {g : Nat → Nat} {t a cp : Nat} {l : List Int32} (h : SB G H g t a l cp) : asc l := by
  obtain ⟨b, mb, row, h1, h2, h3, h4, h5, h6, h7⟩ := h
  intro x hx
  rw [← h4] at hx
  exact h6 x (List.mem_of_mem_take hx)
theorem fits_small : ∀ n, n < 128 → fits (tyK 2) (.int (nI n)) = true := by decide +kernel
theorem fits_a {x : Int32} (h : 0 ≤ x ∧ x < 128) : fits (tyK 2) (.int x) = true := by
  obtain ⟨n, hn, rfl⟩ := small h
  exact fits_small n hn
theorem asc_lay {l m : List Int32} {sp dp n : Nat} (h1 : asc l) (h2 : asc m) : asc (layI l m sp dp n) := by
  intro x hx
  obtain ⟨j, -, rfl⟩ := List.mem_map.mp hx
  split
  · exact asc_at h1 _
  · exact asc_at h2 _
theorem SB.o {G : GT} {H : Heap} {g : Nat → Nat} {t a cp : Nat} {l : List Int32} (h : SB G H g t a l cp) : ∃ fs, ro G H a 1 fs := by
  obtain ⟨b, mb, row, h1, -⟩ := h
  exact ⟨_, h1.ro⟩
set_option maxHeartbeats 1000000 in
set_option maxRecDepth 100000 in
theorem c_sbLen {G : GT} {H : Heap} {g : Nat → Nat} {t a cp : Nat} {X : String → Heap → Prop} {l : List Int32} (h : SB G H g t a l cp) {F : Int32 → Heap → Prop} (kk : F (nI l.length) H) : Call G kJ5_length_8abf5 0 0 0 [.ref a] H (qi F) X := by
  obtain ⟨b, mb, row, ho, hb, hcp, htk, hle, hac, hc18⟩ := id h
  refine startL (L0 := [some (.ref a)]) rfl rfl pl_J5_length_8abf5 (Nat.le_of_ble_eq_true rfl) ?_
  refine V_aload_0 dJ5_length_8abf5_0 ?_
  refine V_getf dJ5_length_8abf5_1 fl_J5_79 ho.ro rfl ?_
  exact V_reti dJ5_length_8abf5_4 rfl rfl kk
set_option maxHeartbeats 1000000 in
set_option maxRecDepth 100000 in
theorem c_sbLatin {G : GT} {H : Heap} {g : Nat → Nat} {t a cp : Nat} {X : String → Heap → Prop} {l : List Int32} (h : SB G H g t a l cp) {F : Int32 → Heap → Prop} (kk : F 1 H) : Call G kJ5_isLatin1_aae02 0 0 0 [.ref a] H (qi F) X := by
  obtain ⟨b, mb, row, ho, hb, hcp, htk, hle, hac, hc18⟩ := id h
  refine startL (L0 := [some (.ref a)]) rfl rfl pl_J5_isLatin1_aae02 (Nat.le_of_ble_eq_true rfl) ?_
  refine V_gets (i := 0) (v := .int 1) dJ5_isLatin1_aae02_0 rfl fs_J5_18 rfl ?_
  refine V_if_eq (tgt := 17) dJ5_isLatin1_aae02_3 (by decide) (fun c_3 => ?_) (fun c_3 => ?_)
  · exact absurd c_3 (by decide)
  · refine V_aload_0 dJ5_isLatin1_aae02_6 ?_
    refine V_getf dJ5_isLatin1_aae02_7 fl_J5_22 ho.ro rfl ?_
    refine V_if_ne (tgt := 17) dJ5_isLatin1_aae02_10 (by decide) (fun c_10 => ?_) (fun c_10 => ?_)
    · exact absurd c_10 (by decide)
    · refine V_iconst (v := 1) dJ5_isLatin1_aae02_13 rfl ?_
      refine V_goto (tgt := 18) dJ5_isLatin1_aae02_14 (by decide) ?_
      exact V_retz dJ5_isLatin1_aae02_18 rfl rfl rfl kk
set_option maxHeartbeats 1000000 in
set_option maxRecDepth 100000 in
theorem c_asbInit {G : GT} {H : Heap} {g : Nat → Nat} {t a : Nat} {X : String → Heap → Prop} {v0 v1 : Value} (ho : Ob G H g t a 1 [v0, v1, .int 0, .int 0]) (ht : t ≠ 0) {F : Heap → Prop} (kk : ∀ (H1 : Heap) (g1 : Nat → Nat), SB G H1 g1 t a [] 16 → Ext G [t] H g H1 g1 → F H1) : Call G kJ5_init_d00df 1 1 16 [.ref a, .int 16] H (qv F) X := by
  refine startL (L0 := [some (.ref a), some (.int 16)]) rfl rfl pl_J5_init_d00df (Nat.le_of_ble_eq_true rfl) ?_
  refine V_aload_0 dJ5_init_d00df_0 ?_
  refine V_oinit dJ5_init_d00df_1 ml_J5_3 ex_oiI ex_oiC (Nat.le_of_ble_eq_true rfl) (Nat.le_of_ble_eq_true rfl) ?_
  refine V_gets (i := 0) (v := .int 1) dJ5_init_d00df_4 rfl fs_J5_18 rfl ?_
  refine V_if_eq (tgt := 25) dJ5_init_d00df_7 (by decide) (fun c_7 => ?_) (fun c_7 => ?_)
  · exact absurd c_7 (by decide)
  · refine V_aload_0 dJ5_init_d00df_10 ?_
    refine V_iload_1 dJ5_init_d00df_11 ?_
    refine V_mkI (g := g) t (kk := 2) dJ5_init_d00df_12 ac_byte rfl rfl rfl (fun C h => by cases h) (by decide) (N := 16) rfl (by decide) (by decide) (by omega) (by omega) fun b H1 g1 hb e1 z1 => ?_
    have hba : b ≠ a := fun z => by have := ho.1.lt; omega
    replace ho := ho.fr e1 (by simp)
    refine V_putN dJ5_init_d00df_14 fp_J5_init_d00df_15 ho ht ⟨rfl, rfl⟩ (Nat.le_of_ble_eq_true rfl) rfl fun H2 ho e2 z2 => ?_
    replace hb := hb.ne hba z2
    refine V_aload_0 dJ5_init_d00df_17 ?_
    refine V_iconst (v := 0) dJ5_init_d00df_18 rfl ?_
    refine V_putN dJ5_init_d00df_19 fp_J5_init_d00df_22 ho ht ⟨rfl, rfl⟩ (Nat.le_of_ble_eq_true rfl) rfl fun H3 ho e3 z3 => ?_
    replace hb := hb.ne hba z3
    refine V_goto (tgt := 38) dJ5_init_d00df_22 (by decide) ?_
    exact V_retv dJ5_init_d00df_38 rfl (kk H3 g1 ⟨b, _, _, ho, hb, rfl, rfl, by decide, (fun x hx => by rw [List.eq_of_mem_replicate hx]; decide), by decide⟩ ((e1.nil.trans e2).trans e3))
set_option maxHeartbeats 1000000 in
set_option maxRecDepth 100000 in
theorem c_sbInit {G : GT} {H : Heap} {g : Nat → Nat} {t a : Nat} {X : String → Heap → Prop} {v0 v1 : Value} (ho : Ob G H g t a 1 [v0, v1, .int 0, .int 0]) (ht : t ≠ 0) {F : Heap → Prop} (kk : ∀ (H1 : Heap) (g1 : Nat → Nat), SB G H1 g1 t a [] 16 → Ext G [t] H g H1 g1 → F H1) : Call G kJ4_init_da8c8 2 1 16 [.ref a] H (qv F) X := by
  refine startL (L0 := [some (.ref a)]) rfl rfl pl_J4_init_da8c8 (Nat.le_of_ble_eq_true rfl) ?_
  refine V_aload_0 dJ4_init_da8c8_0 ?_
  refine V_bipush (v := 16) dJ4_init_da8c8_1 (by decide) ?_
  refine V_call_v (runI1 dJ4_init_da8c8_3 ce_J5_init_d00df rfl rfl rfl ml_J4_1 im_J5_init_d00df (Nat.le_of_ble_eq_true rfl)) (by omega) (by omega) (by omega) (c_asbInit ho ht fun H1 g1 h1 e1 => ?_)
  exact V_retv dJ4_init_da8c8_6 rfl (kk H1 g1 h1 e1)

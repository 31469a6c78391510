theorem isCase.el {G : GT} {H : Heap} {g : Nat → Nat} {r : Nat} {x : CaseC} (h : isCase G H g r x) : elO G H r ∧ tg G g r = 0 := by
  obtain ⟨m, h1, h2⟩ := h
  exact ⟨⟨5, _, _, rfl, cso_5, h1.1⟩, h1.2⟩
theorem c_cladd {G : GT} {H : Heap} {g : Nat → Nat} {t a : Nat} {X : String → Heap → Prop} {r : Nat} {xs : List CaseC} {x : CaseC} (h : CL G H g t a xs) (hn : ¬ 40 < xs.length) (hr : isCase G H g r x) (ht : t ≠ 0) {F : Int32 → Heap → Prop} (kk : ∀ (H1 : Heap) (g1 : Nat → Nat), CL G H1 g1 t a (xs ++ [x]) → Ext G [t] H g H1 g1 → F 1 H1) : Call G kJx4a65c_add_9ea2d 7 1 61 [.ref a, .ref r] H (qi F) X := by
  obtain ⟨rs, h1, h2, h3⟩ := h
  refine c_aladd h1 (by omega) hr.el ht fun H1 g1 h4 e => kk H1 g1 ⟨rs ++ [r], h4, by rw [List.length_append, List.length_append, h2]; rfl, fun i q y hq hy => ?_⟩ e
  rw [List.getElem?_append] at hq hy
  rw [h2] at hq
  by_cases hi : i < xs.length
  · rw [if_pos hi] at hq hy
    exact (h3 i q y hq hy).fr e (n1 (by omega))
  · rw [if_neg hi] at hq hy
    have e0 : i - xs.length = 0 := by
      rcases Nat.eq_zero_or_pos (i - xs.length) with q0 | q0
      · exact q0
      · rw [List.getElem?_eq_none (by show 1 ≤ _; omega)] at hq; cases hq
    rw [e0] at hq hy
    cases hq
    cases hy
    exact hr.fr e (n1 (by omega))
theorem c_clset {G : GT} {H : Heap} {g : Nat → Nat} {t a : Nat} {X : String → Heap → Prop} {r : Nat} {xs : List CaseC} {x : CaseC} (h : CL G H g t a xs) {i : Int32} (h0 : ¬ i < 0) (hi : ¬ nI xs.length ≤ i) (hr : isCase G H g r x) (ht : t ≠ 0) {F : Nat → Heap → Prop} (kk : ∀ (q : Nat) (H1 : Heap) (g1 : Nat → Nat), CL G H1 g1 t a (xs.set i.toNatClampNeg x) → Ext G [t] H g H1 g1 → F q H1) : Call G kJx4a65c_set_bcc79 3 0 0 [.ref a, .int i, .ref r] H (qa F) X := by
  obtain ⟨rs, h1, h2, h3⟩ := h
  obtain ⟨j, hj, rfl⟩ := nI_of h0
  obtain ⟨b, mc, -, -, hlen, -⟩ := id h1
  have hl : j < xs.length := by
    rcases Nat.lt_or_ge j xs.length with q | q
    · exact q
    · exact absurd (nI_le q hj) hi
  rw [nI_clamp hj] at kk
  refine c_alset h1 (List.getElem?_eq_getElem (by omega)) hr.el ht fun H1 g1 h4 e => kk _ H1 g1 ⟨rs.set j r, h4, by rw [List.length_set, List.length_set, h2], fun i q y hq hy => ?_⟩ e
  rw [List.getElem?_set] at hq hy
  by_cases hi : j = i
  · rw [if_pos hi, if_pos (by omega)] at hq
    rw [if_pos hi, if_pos hl] at hy
    cases hq
    cases hy
    exact hr.fr e (n1 (by omega))
  · rw [if_neg hi] at hq hy
    exact (h3 i q y hq hy).fr e (n1 (by omega))
theorem c_clrem {G : GT} {H : Heap} {g : Nat → Nat} {t a : Nat} {X : String → Heap → Prop} {xs : List CaseC} (h : CL G H g t a xs) {i : Int32} (h0 : ¬ i < 0) (hi : ¬ nI xs.length ≤ i) (ht : t ≠ 0) {F : Nat → Heap → Prop} (kk : ∀ (q : Nat) (H1 : Heap) (g1 : Nat → Nat), CL G H1 g1 t a (xs.eraseIdx i.toNatClampNeg) → Ext G [t] H g H1 g1 → F q H1) : Call G kJx4a65c_remove_915e3 3 0 0 [.ref a, .int i] H (qa F) X := by
  obtain ⟨rs, h1, h2, h3⟩ := h
  obtain ⟨j, hj, rfl⟩ := nI_of h0
  obtain ⟨b, mc, -, -, hlen, -⟩ := id h1
  have hl : j < xs.length := by
    rcases Nat.lt_or_ge j xs.length with q | q
    · exact q
    · exact absurd (nI_le q hj) hi
  rw [nI_clamp hj] at kk
  refine c_alremove h1 (List.getElem?_eq_getElem (by omega)) ht fun H1 h4 e => kk _ H1 g ⟨rs.eraseIdx j, h4, by rw [List.length_eraseIdx, List.length_eraseIdx, h2], fun i q y hq hy => ?_⟩ e
  rw [List.getElem?_eraseIdx] at hq hy
  split at hq
  · rw [if_pos (by assumption)] at hy
    exact (h3 _ q y hq hy).fr e (n1 (by omega))
  · rw [if_neg (by assumption)] at hy
    exact (h3 _ q y hq hy).fr e (n1 (by omega))
theorem isPrec.el {G : GT} {H : Heap} {g : Nat → Nat} {r : Nat} {x : PrecC} (h : isPrec G H g r x) : elO G H r ∧ tg G g r = 0 := by
  obtain ⟨m, h1, h2⟩ := h
  exact ⟨⟨9, _, _, rfl, cso_9, h1.1⟩, h1.2⟩
theorem c_pladd {G : GT} {H : Heap} {g : Nat → Nat} {t a : Nat} {X : String → Heap → Prop} {r : Nat} {xs : List PrecC} {x : PrecC} (h : PL G H g t a xs) (hn : ¬ 40 < xs.length) (hr : isPrec G H g r x) (ht : t ≠ 0) {F : Int32 → Heap → Prop} (kk : ∀ (H1 : Heap) (g1 : Nat → Nat), PL G H1 g1 t a (xs ++ [x]) → Ext G [t] H g H1 g1 → F 1 H1) : Call G kJx4a65c_add_9ea2d 7 1 61 [.ref a, .ref r] H (qi F) X := by
  obtain ⟨rs, h1, h2, h3⟩ := h
  refine c_aladd h1 (by omega) hr.el ht fun H1 g1 h4 e => kk H1 g1 ⟨rs ++ [r], h4, by rw [List.length_append, List.length_append, h2]; rfl, fun i q y hq hy => ?_⟩ e
  rw [List.getElem?_append] at hq hy
  rw [h2] at hq
  by_cases hi : i < xs.length
  · rw [if_pos hi] at hq hy
    exact (h3 i q y hq hy).fr e (n1 (by omega))
  · rw [if_neg hi] at hq hy
    have e0 : i - xs.length = 0 := by
      rcases Nat.eq_zero_or_pos (i - xs.length) with q0 | q0
      · exact q0
      · rw [List.getElem?_eq_none (by show 1 ≤ _; omega)] at hq; cases hq
    rw [e0] at hq hy
    cases hq
    cases hy
    exact hr.fr e (n1 (by omega))
theorem c_plset {G : GT} {H : Heap} {g : Nat → Nat} {t a : Nat} {X : String → Heap → Prop} {r : Nat} {xs : List PrecC} {x : PrecC} (h : PL G H g t a xs) {i : Int32} (h0 : ¬ i < 0) (hi : ¬ nI xs.length ≤ i) (hr : isPrec G H g r x) (ht : t ≠ 0) {F : Nat → Heap → Prop} (kk : ∀ (q : Nat) (H1 : Heap) (g1 : Nat → Nat), PL G H1 g1 t a (xs.set i.toNatClampNeg x) → Ext G [t] H g H1 g1 → F q H1) : Call G kJx4a65c_set_bcc79 3 0 0 [.ref a, .int i, .ref r] H (qa F) X := by
  obtain ⟨rs, h1, h2, h3⟩ := h
  obtain ⟨j, hj, rfl⟩ := nI_of h0
  obtain ⟨b, mc, -, -, hlen, -⟩ := id h1
  have hl : j < xs.length := by
    rcases Nat.lt_or_ge j xs.length with q | q
    · exact q
    · exact absurd (nI_le q hj) hi
  rw [nI_clamp hj] at kk
  refine c_alset h1 (List.getElem?_eq_getElem (by omega)) hr.el ht fun H1 g1 h4 e => kk _ H1 g1 ⟨rs.set j r, h4, by rw [List.length_set, List.length_set, h2], fun i q y hq hy => ?_⟩ e
  rw [List.getElem?_set] at hq hy
  by_cases hi : j = i
  · rw [if_pos hi, if_pos (by omega)] at hq
    rw [if_pos hi, if_pos hl] at hy
    cases hq
    cases hy
    exact hr.fr e (n1 (by omega))
  · rw [if_neg hi] at hq hy
    exact (h3 i q y hq hy).fr e (n1 (by omega))
theorem c_plrem {G : GT} {H : Heap} {g : Nat → Nat} {t a : Nat} {X : String → Heap → Prop} {xs : List PrecC} (h : PL G H g t a xs) {i : Int32} (h0 : ¬ i < 0) (hi : ¬ nI xs.length ≤ i) (ht : t ≠ 0) {F : Nat → Heap → Prop} (kk : ∀ (q : Nat) (H1 : Heap) (g1 : Nat → Nat), PL G H1 g1 t a (xs.eraseIdx i.toNatClampNeg) → Ext G [t] H g H1 g1 → F q H1) : Call G kJx4a65c_remove_915e3 3 0 0 [.ref a, .int i] H (qa F) X := by
  obtain ⟨rs, h1, h2, h3⟩ := h
  obtain ⟨j, hj, rfl⟩ := nI_of h0
  obtain ⟨b, mc, -, -, hlen, -⟩ := id h1
  have hl : j < xs.length := by
    rcases Nat.lt_or_ge j xs.length with q | q
    · exact q
    · exact absurd (nI_le q hj) hi
  rw [nI_clamp hj] at kk
  refine c_alremove h1 (List.getElem?_eq_getElem (by omega)) ht fun H1 h4 e => kk _ H1 g ⟨rs.eraseIdx j, h4, by rw [List.length_eraseIdx, List.length_eraseIdx, h2], fun i q y hq hy => ?_⟩ e
  rw [List.getElem?_eraseIdx] at hq hy
  split at hq
  · rw [if_pos (by assumption)] at hy
    exact (h3 _ q y hq hy).fr e (n1 (by omega))
  · rw [if_neg (by assumption)] at hy
    exact (h3 _ q y hq hy).fr e (n1 (by omega))
theorem Ob.rz {G : GT} {H : Heap} {g : Nat → Nat} {t a ci : Nat} {fs : List Value} (h : Ob G H g t a ci fs) : Rz G H (gall G g [t] 0) a ci fs := ⟨h.ro, by rw [tg_gall (Or.inl rfl), if_pos (h.2 ▸ List.mem_singleton.mpr rfl)]⟩
theorem ext_frz {G : GT} {H : Heap} {g : Nat → Nat} {t : Nat} : Ext G [t] H g H (gall G g [t] 0) := Ext.gall (Or.inl rfl)
set_option maxHeartbeats 4000000 in
set_option maxRecDepth 100000 in
theorem c_precInit {G : GT} {H : Heap} {g : Nat → Nat} {t a : Nat} {X : String → Heap → Prop} {v0 v1 : Value} {m : Nat} {x : Int32} (ho : Ob G H g t a 9 [v0, v1]) (ht : t ≠ 0) {F : Heap → Prop} (kk : ∀ H1, Ob G H1 g t a 9 [.ref m, .int x] → Ext G [t] H g H1 g → F H1) : Call G kX5_init 1 0 0 [.ref a, .ref m, .int x] H (qv F) X := by
  refine startL (L0 := [some (.ref a), some (.ref m), some (.int x)]) rfl rfl pl_X5_init (Nat.le_of_ble_eq_true rfl) ?_
  refine V_aload_0 dX5_init_0 ?_
  refine V_oinit dX5_init_1 ml_X5_1 ex_oiI ex_oiC (Nat.le_of_ble_eq_true rfl) (Nat.le_of_ble_eq_true rfl) ?_
  refine V_aload_0 dX5_init_4 ?_
  refine V_aload_1 dX5_init_5 ?_
  refine V_put dX5_init_6 fp_X5_init_7 ho ht ⟨rfl, rfl⟩ (Nat.le_of_ble_eq_true rfl) rfl fun H1 ho e1 z1 => ?_
  refine V_aload_0 dX5_init_9 ?_
  refine V_iload_2 dX5_init_10 ?_
  refine V_put dX5_init_11 fp_X5_init_13 ho ht ⟨rfl, rfl⟩ (Nat.le_of_ble_eq_true rfl) rfl fun H2 ho e2 z2 => ?_
  exact V_retv dX5_init_14 rfl (kk H2 ho ((e1).trans e2))
set_option maxHeartbeats 4000000 in
set_option maxRecDepth 100000 in
theorem c_caseInit {G : GT} {H : Heap} {g : Nat → Nat} {t a : Nat} {X : String → Heap → Prop} {v0 v1 v2 v3 v4 v5 v6 v7 v8 v9 v10 v11 v12 v13 : Value} {x1 : Int32} {x2 : Int32} {x3 : Int32} {x4 : Int32} {x5 : Int32} {x6 : Int32} {m : Nat} (ho : Ob G H g t a 5 [v0, v1, v2, v3, v4, v5, v6, v7, v8, v9, v10, v11, v12, v13]) (ht : t ≠ 0) {F : Heap → Prop} (kk : ∀ H1, Ob G H1 g t a 5 [.int x1, .int x2, .int x3, .int x4, .int x5, .int x6, .ref m, .int 102, .int 0, .int 0, .int 0, .int (-1), .int (-1), .int 0] → Ext G [t] H g H1 g → F H1) : Call G kX1_init 1 0 0 [.ref a, .int x1, .int x2, .int x3, .int x4, .int x5, .int x6, .ref m] H (qv F) X := by
  refine startL (L0 := [some (.ref a), some (.int x1), some (.int x2), some (.int x3), some (.int x4), some (.int x5), some (.int x6), some (.ref m)]) rfl rfl pl_X1_init (Nat.le_of_ble_eq_true rfl) ?_
  refine V_aload_0 dX1_init_0 ?_
  refine V_oinit dX1_init_1 ml_X1_3 ex_oiI ex_oiC (Nat.le_of_ble_eq_true rfl) (Nat.le_of_ble_eq_true rfl) ?_
  refine V_aload_0 dX1_init_4 ?_
  refine V_bipush (v := 102) dX1_init_5 (by decide) ?_
  refine V_put dX1_init_7 fp_X1_init_9 ho ht ⟨rfl, rfl⟩ (Nat.le_of_ble_eq_true rfl) rfl fun H1 ho e1 z1 => ?_
  refine V_aload_0 dX1_init_10 ?_
  refine V_iconst (v := 0) dX1_init_11 rfl ?_
  refine V_put dX1_init_12 fp_X1_init_15 ho ht ⟨rfl, rfl⟩ (Nat.le_of_ble_eq_true rfl) rfl fun H2 ho e2 z2 => ?_
  refine V_aload_0 dX1_init_15 ?_
  refine V_iconst (v := 0) dX1_init_16 rfl ?_
  refine V_put dX1_init_17 fp_X1_init_19 ho ht ⟨rfl, rfl⟩ (Nat.le_of_ble_eq_true rfl) rfl fun H3 ho e3 z3 => ?_
  refine V_aload_0 dX1_init_20 ?_
  refine V_iconst (v := 0) dX1_init_21 rfl ?_
  refine V_put dX1_init_22 fp_X1_init_22 ho ht ⟨rfl, rfl⟩ (Nat.le_of_ble_eq_true rfl) rfl fun H4 ho e4 z4 => ?_
  refine V_aload_0 dX1_init_25 ?_
  refine V_iconst (v := (-1)) dX1_init_26 rfl ?_
  refine V_put dX1_init_27 fp_X1_init_25 ho ht ⟨rfl, rfl⟩ (Nat.le_of_ble_eq_true rfl) rfl fun H5 ho e5 z5 => ?_
  refine V_aload_0 dX1_init_30 ?_
  refine V_iconst (v := (-1)) dX1_init_31 rfl ?_
  refine V_put dX1_init_32 fp_X1_init_28 ho ht ⟨rfl, rfl⟩ (Nat.le_of_ble_eq_true rfl) rfl fun H6 ho e6 z6 => ?_
  refine V_aload_0 dX1_init_35 ?_
  refine V_iconst (v := 0) dX1_init_36 rfl ?_
  refine V_put dX1_init_37 fp_X1_init_31 ho ht ⟨rfl, rfl⟩ (Nat.le_of_ble_eq_true rfl) rfl fun H7 ho e7 z7 => ?_
  refine V_aload_0 dX1_init_40 ?_
  refine V_iload_1 dX1_init_41 ?_
  refine V_put dX1_init_42 fp_X1_init_35 ho ht ⟨rfl, rfl⟩ (Nat.le_of_ble_eq_true rfl) rfl fun H8 ho e8 z8 => ?_
  refine V_aload_0 dX1_init_45 ?_
  refine V_iload_2 dX1_init_46 ?_
  refine V_put dX1_init_47 fp_X1_init_38 ho ht ⟨rfl, rfl⟩ (Nat.le_of_ble_eq_true rfl) rfl fun H9 ho e9 z9 => ?_
  refine V_aload_0 dX1_init_50 ?_
  refine V_iload_3 dX1_init_51 ?_
  refine V_put dX1_init_52 fp_X1_init_41 ho ht ⟨rfl, rfl⟩ (Nat.le_of_ble_eq_true rfl) rfl fun H10 ho e10 z10 => ?_
  refine V_aload_0 dX1_init_55 ?_
  refine V_iload_4 dX1_init_56 ?_
  refine V_put dX1_init_58 fp_X1_init_44 ho ht ⟨rfl, rfl⟩ (Nat.le_of_ble_eq_true rfl) rfl fun H11 ho e11 z11 => ?_
  refine V_aload_0 dX1_init_61 ?_
  refine V_iload_5 dX1_init_62 ?_
  refine V_put dX1_init_64 fp_X1_init_47 ho ht ⟨rfl, rfl⟩ (Nat.le_of_ble_eq_true rfl) rfl fun H12 ho e12 z12 => ?_
  refine V_aload_0 dX1_init_67 ?_
  refine V_iload_6 dX1_init_68 ?_
  refine V_put dX1_init_70 fp_X1_init_50 ho ht ⟨rfl, rfl⟩ (Nat.le_of_ble_eq_true rfl) rfl fun H13 ho e13 z13 => ?_
  refine V_aload_0 dX1_init_73 ?_
  refine V_aload_7 dX1_init_74 ?_
  refine V_put dX1_init_76 fp_X1_init_53 ho ht ⟨rfl, rfl⟩ (Nat.le_of_ble_eq_true rfl) rfl fun H14 ho e14 z14 => ?_
  exact V_retv dX1_init_79 rfl (kk H14 ho ((((((((((((((e1).trans e2).trans e3).trans e4).trans e5).trans e6).trans e7).trans e8).trans e9).trans e10).trans e11).trans e12).trans e13).trans e14))
set_option maxHeartbeats 4000000 in
set_option maxRecDepth 100000 in
theorem c_caseCopy {G : GT} {H : Heap} {g : Nat → Nat} {r : Nat} {X : String → Heap → Prop} {x : CaseC} (h : isCase G H g r x) {F : Nat → Heap → Prop} (kk : ∀ (a m : Nat) (H1 : Heap) (g1 : Nat → Nat), Ob G H1 g1 15 a 5 (cFs x m) → Sz G H1 g1 m (cMt x) → Ext G [15] H g H1 g1 → F a H1) : Call G kX1_copy 2 1 14 [.ref r] H (qa F) X := by
  obtain ⟨mr, hr, hm⟩ := h.md
  obtain ⟨n1c, n2a, n2b, -⟩ := h.nr
  refine startL (L0 := [some (.ref r), none]) rfl rfl pl_X1_copy (Nat.le_of_ble_eq_true rfl) ?_
  refine V_mk (g := g) 15 dX1_copy_0 nw_X1_10 (by omega) (by decide) fun a H1 g1 ho e1 z1 => ?_
  replace hr := hr.fr e1 (by simp)
  replace hm := hm.fr e1 (by simp)
  refine V_dup dX1_copy_3 rfl ?_
  refine V_aload_0 dX1_copy_4 ?_
  refine V_getf dX1_copy_5 fl_X1_35 hr.1 rfl ?_
  refine V_aload_0 dX1_copy_8 ?_
  refine V_getf dX1_copy_9 fl_X1_38 hr.1 rfl ?_
  refine V_aload_0 dX1_copy_12 ?_
  refine V_getf dX1_copy_13 fl_X1_41 hr.1 rfl ?_
  refine V_aload_0 dX1_copy_16 ?_
  refine V_getf dX1_copy_17 fl_X1_44 hr.1 rfl ?_
  refine V_aload_0 dX1_copy_20 ?_
  refine V_getf dX1_copy_21 fl_X1_47 hr.1 rfl ?_
  refine V_aload_0 dX1_copy_24 ?_
  refine V_getf dX1_copy_25 fl_X1_50 hr.1 rfl ?_
  refine V_aload_0 dX1_copy_28 ?_
  refine V_getf dX1_copy_29 fl_X1_53 hr.1 rfl ?_
  refine V_call_v (runI7 dX1_copy_32 ce_X1_init rfl rfl rfl ml_X1_57 im_X1_init (Nat.le_of_ble_eq_true rfl)) (by omega) (by omega) (by omega) (c_caseInit ho (by decide) fun H2 ho e2 => ?_)
  replace hr := hr.fr e2 (by decide)
  replace hm := hm.fr e2 (by decide)
  refine V_astore_1 dX1_copy_35 rfl ?_
  refine V_aload_1 dX1_copy_36 ?_
  refine V_aload_0 dX1_copy_37 ?_
  refine V_getf dX1_copy_38 fl_X1_9 hr.1 rfl ?_
  refine V_put dX1_copy_41 fp_X1_copy_9 ho (by decide) n1c (Nat.le_of_ble_eq_true rfl) rfl fun H3 ho e3 z3 => ?_
  replace hr := hr.fr e3 (by decide)
  replace hm := hm.fr e3 (by decide)
  refine V_aload_1 dX1_copy_44 ?_
  refine V_aload_0 dX1_copy_45 ?_
  refine V_getf dX1_copy_46 fl_X1_15 hr.1 rfl ?_
  refine V_put dX1_copy_49 fp_X1_copy_15 ho (by decide) ⟨rfl, rfl⟩ (Nat.le_of_ble_eq_true rfl) rfl fun H4 ho e4 z4 => ?_
  replace hr := hr.fr e4 (by decide)
  replace hm := hm.fr e4 (by decide)
  refine V_aload_1 dX1_copy_52 ?_
  refine V_aload_0 dX1_copy_53 ?_
  refine V_getf dX1_copy_54 fl_X1_19 hr.1 rfl ?_
  refine V_put dX1_copy_57 fp_X1_copy_19 ho (by decide) ⟨rfl, rfl⟩ (Nat.le_of_ble_eq_true rfl) rfl fun H5 ho e5 z5 => ?_
  replace hr := hr.fr e5 (by decide)
  replace hm := hm.fr e5 (by decide)
  refine V_aload_1 dX1_copy_60 ?_
  refine V_aload_0 dX1_copy_61 ?_
  refine V_getf dX1_copy_62 fl_X1_22 hr.1 rfl ?_
  refine V_put dX1_copy_65 fp_X1_copy_22 ho (by decide) ⟨rfl, rfl⟩ (Nat.le_of_ble_eq_true rfl) rfl fun H6 ho e6 z6 => ?_
  replace hr := hr.fr e6 (by decide)
  replace hm := hm.fr e6 (by decide)
  refine V_aload_1 dX1_copy_68 ?_
  refine V_aload_0 dX1_copy_69 ?_
  refine V_getf dX1_copy_70 fl_X1_25 hr.1 rfl ?_
  refine V_put dX1_copy_73 fp_X1_copy_25 ho (by decide) ⟨rfl, rfl⟩ (Nat.le_of_ble_eq_true rfl) rfl fun H7 ho e7 z7 => ?_
  replace hr := hr.fr e7 (by decide)
  replace hm := hm.fr e7 (by decide)
  refine V_aload_1 dX1_copy_76 ?_
  refine V_aload_0 dX1_copy_77 ?_
  refine V_getf dX1_copy_78 fl_X1_28 hr.1 rfl ?_
  refine V_put dX1_copy_81 fp_X1_copy_28 ho (by decide) ⟨rfl, rfl⟩ (Nat.le_of_ble_eq_true rfl) rfl fun H8 ho e8 z8 => ?_
  replace hr := hr.fr e8 (by decide)
  replace hm := hm.fr e8 (by decide)
  refine V_aload_1 dX1_copy_84 ?_
  refine V_aload_0 dX1_copy_85 ?_
  refine V_getf dX1_copy_86 fl_X1_31 hr.1 rfl ?_
  refine V_put dX1_copy_89 fp_X1_copy_31 ho (by decide) ⟨n2a, n2b⟩ (Nat.le_of_ble_eq_true rfl) rfl fun H9 ho e9 z9 => ?_
  replace hr := hr.fr e9 (by decide)
  replace hm := hm.fr e9 (by decide)
  refine V_aload_1 dX1_copy_92 ?_
  exact V_reta dX1_copy_93 rfl (Or.inl ⟨_, rfl⟩) (kk a mr H9 g1 ho hm (((((((((e1.wide (by simp)).trans e2).trans e3).trans e4).trans e5).trans e6).trans e7).trans e8).trans e9))

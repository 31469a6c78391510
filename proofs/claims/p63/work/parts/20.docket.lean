def placeL (fd : List CaseC) (x : CaseC) : Nat → Int32 → Int32
  | 0, i => i
  | k + 1, i => if (nI fd.length) ≤ i then i else (if (cDl x) < (cDl (gC fd i)) then i else (placeL fd x k (i + 1)))
def place (fd : List CaseC) (x : CaseC)  : Int32 := placeL fd x (nI fd.length).toNatClampNeg 0
set_option maxHeartbeats 1000000 in
set_option maxRecDepth 100000 in
theorem c_placeL {G : GT} {X : String → Heap → Prop} {H0 : Heap} {g0 : Nat → Nat} {dk fl ba : Nat} {q mq : Nat} {fd : List CaseC} {x : CaseC} {F : Int32 → Heap → Prop} : ∀ (k : Nat) (i : Int32)  (H : Heap) (g : Nat → Nat), CL G H g 27 fl fd → Rz G H g dk 7 [.ref fl, .ref ba] → Rz G H g q 5 (cFs x mq) → Ext G [27] H0 g0 H g → (nI fd.length).toInt ≤ i.toInt + ((k : Nat) : Int) → ¬ i < 0 → (F (placeL fd x k i) H) → V G kX3_placeOf 4 0 0 (qi F) X 2 [some (.ref dk), some (.ref q), some (.int i)] [] H := by
  intro k
  induction k with
  | zero =>
    intro i H g hfd hdk hq E hm hi0 kk
    refine V_iload_2 dX3_placeOf_2 ?_
    refine V_aload_0 dX3_placeOf_3 ?_
    refine V_getf dX3_placeOf_4 fl_X3_12 hdk.1 rfl ?_
    obtain ⟨fu, hu⟩ := hfd.ro
    refine V_call_i (runV0 dX3_placeOf_7 ce_Jx4a65c_size_8abf5 rfl ml_X3_26 im_Jx4a65c_size_8abf5 se_Jx4a65c_size_8abf5 hu ⟨_, rfl, rfl⟩ (Nat.le_of_ble_eq_true rfl)) (by omega) (by omega) (by omega) (c_clsize hfd ?_)
    refine V_icmp_ge (tgt := 40) dX3_placeOf_10 (by decide) (fun c_10 => ?_) (fun c_10 => ?_)
    · refine V_iload_2 dX3_placeOf_40 ?_
      exact V_reti dX3_placeOf_41 rfl rfl (by rw [placeL] at kk; exact kk )
    · exact absurd (loop_end hm) c_10
  | succ k ih =>
    intro i H g hfd hdk hq E hm hi0 kk
    refine V_iload_2 dX3_placeOf_2 ?_
    refine V_aload_0 dX3_placeOf_3 ?_
    refine V_getf dX3_placeOf_4 fl_X3_12 hdk.1 rfl ?_
    obtain ⟨fu, hu⟩ := hfd.ro
    refine V_call_i (runV0 dX3_placeOf_7 ce_Jx4a65c_size_8abf5 rfl ml_X3_26 im_Jx4a65c_size_8abf5 se_Jx4a65c_size_8abf5 hu ⟨_, rfl, rfl⟩ (Nat.le_of_ble_eq_true rfl)) (by omega) (by omega) (by omega) (c_clsize hfd ?_)
    refine V_icmp_ge (tgt := 40) dX3_placeOf_10 (by decide) (fun c_10 => ?_) (fun c_10 => ?_)
    · refine V_iload_2 dX3_placeOf_40 ?_
      exact V_reti dX3_placeOf_41 rfl rfl (by rw [placeL, if_pos c_10] at kk; exact kk )
    · refine V_aload_0 dX3_placeOf_13 ?_
      refine V_getf dX3_placeOf_14 fl_X3_12 hdk.1 rfl ?_
      refine V_iload_2 dX3_placeOf_17 ?_
      obtain ⟨fu, hu⟩ := hfd.ro
      refine V_call_a (runV1 dX3_placeOf_18 ce_Jx4a65c_get_915e3 rfl ml_X3_30 im_Jx4a65c_get_915e3 se_Jx4a65c_get_915e3 hu ⟨_, rfl, rfl⟩ (Nat.le_of_ble_eq_true rfl)) (by omega) (by omega) (by omega) (c_clget hfd hi0 c_10 fun r hrx => ?_)
      obtain ⟨mr, hr, hrm⟩ := hrx.md
      have hrn := hrx.nr
      clear hrm
      refine V_castS (ci := 5) dX3_placeOf_21 rfl ck_X3_34 hr.1 ?_
      refine V_getf dX3_placeOf_24 fl_X3_55 hr.1 rfl ?_
      refine V_aload_1 dX3_placeOf_27 ?_
      refine V_getf dX3_placeOf_28 fl_X3_55 hq.1 rfl ?_
      refine V_icmp_gt (tgt := 40) dX3_placeOf_31 (by decide) (fun c_31 => ?_) (fun c_31 => ?_)
      · refine V_iload_2 dX3_placeOf_40 ?_
        exact V_reti dX3_placeOf_41 rfl rfl (by rw [placeL, if_neg c_10, if_pos c_31] at kk; exact kk )
      · refine V_iinc_2 (v := 1) dX3_placeOf_34 rfl rfl ?_
        refine V_goto (tgt := 2) dX3_placeOf_37 (by decide) ?_
        exact ih _ H g hfd hdk hq E (loop_step c_10 hm) (nn_step c_10 hi0) (by rw [placeL, if_neg c_10, if_neg c_31] at kk; exact kk)
set_option maxHeartbeats 1000000 in
set_option maxRecDepth 100000 in
theorem c_place {G : GT} {X : String → Heap → Prop} {H : Heap} {g : Nat → Nat} {dk fl ba : Nat} {q mq : Nat} {fd : List CaseC} {x : CaseC}   (hfd : CL G H g 27 fl fd) (hdk : Rz G H g dk 7 [.ref fl, .ref ba]) (hq : Rz G H g q 5 (cFs x mq)) {F : Int32 → Heap → Prop} (kk : F (place fd x) H) : Call G kX3_placeOf 4 0 0 [.ref dk, .ref q] H (qi F) X := by
  refine startL (L0 := [some (.ref dk), some (.ref q), none]) rfl rfl pl_X3_placeOf (Nat.le_of_ble_eq_true rfl) ?_
  refine V_iconst (v := 0) dX3_placeOf_0 rfl ?_
  refine V_istore_2 dX3_placeOf_1 rfl ?_
  exact c_placeL   (nI fd.length).toNatClampNeg _ H g hfd hdk hq (Ext.rf (ts := [27])) loop_init (by decide) (by rw [place] at kk; exact kk)
theorem placeL_ok {fd : List CaseC} {x : CaseC} : ∀ (k : Nat) (i : Int32), ¬ i < 0 → i ≤ nI fd.length → ¬ placeL fd x k i < 0 ∧ placeL fd x k i ≤ nI fd.length := by
  intro k
  induction k with
  | zero => intro i h0 h1; exact ⟨h0, h1⟩
  | succ k ih =>
    intro i h0 h1
    rw [placeL]
    split
    · exact ⟨h0, h1⟩
    · rename_i c
      split
      · exact ⟨h0, h1⟩
      · refine ih _ (nn_step c h0) (Int32.le_iff_toInt_le.mpr ?_)
        have h2 := Int32.lt_iff_toInt_lt.mp (Int32.not_le.mp c)
        rw [i_succ c]
        omega
theorem place_ok {G : GT} {H : Heap} {g : Nat → Nat} {t a : Nat} {fd : List CaseC} {x : CaseC} (h : CL G H g t a fd) : ∃ j : Nat, place fd x = nI j ∧ j ≤ fd.length := by
  obtain ⟨rs, ⟨b, mc, -, -, hlen, -⟩, h2, -⟩ := h
  obtain ⟨h3, h4⟩ := placeL_ok (fd := fd) (x := x) (nI fd.length).toNatClampNeg 0 (by decide) (nI_pos' (by omega))
  obtain ⟨j, hj, e⟩ := nI_of h3
  refine ⟨j, e, ?_⟩
  rw [e] at h4
  exact (nI_leI hj (by omega)).mp h4
theorem c_cladd_at {G : GT} {H : Heap} {g : Nat → Nat} {t a : Nat} {X : String → Heap → Prop} {r j : Nat} {xs : List CaseC} {x : CaseC} (h : CL G H g t a xs) (hn : ¬ 40 < xs.length) (hj : j ≤ xs.length) (hr : isCase G H g r x) (ht : t ≠ 0) {F : Heap → Prop} (kk : ∀ (H1 : Heap) (g1 : Nat → Nat), CL G H1 g1 t a (xs.insertIdx j x) → Ext G [t] H g H1 g1 → F H1) : Call G kJx4a65c_add_7a177 6 1 61 [.ref a, .int (nI j), .ref r] H (qv F) X := by
  obtain ⟨rs, h1, h2, h3⟩ := h
  refine c_aladdAt h1 (by omega) (by omega) hr.el ht fun H1 g1 h4 e => kk H1 g1 ⟨rs.insertIdx j r, h4, by rw [List.length_insertIdx_of_le_length (by omega), List.length_insertIdx_of_le_length hj, h2], fun i q y hq hy => ?_⟩ e
  rw [List.getElem?_insertIdx] at hq hy
  by_cases c1 : i < j
  · rw [if_pos c1] at hq hy
    exact (h3 _ q y hq hy).fr e (n1 (by omega))
  · rw [if_neg c1] at hq hy
    by_cases c2 : i = j
    · rw [if_pos c2] at hq hy
      rw [h2] at hq
      rw [if_pos (by omega)] at hq hy
      cases hq
      cases hy
      exact hr.fr e (n1 (by omega))
    · rw [if_neg c2] at hq hy
      exact (h3 _ q y hq hy).fr e (n1 (by omega))
theorem c_clclear {G : GT} {H : Heap} {g : Nat → Nat} {t a : Nat} {X : String → Heap → Prop} {xs : List CaseC} (h : CL G H g t a xs) (ht : t ≠ 0) {F : Heap → Prop} (kk : ∀ H1 : Heap, CL G H1 g t a [] → Ext G [t] H g H1 g → F H1) : Call G kJx4a65c_clear_da8c8 0 0 0 [.ref a] H (qv F) X := by
  obtain ⟨rs, h1, h2, h3⟩ := h
  exact c_alclear h1 ht fun H1 h4 e => kk H1 ⟨[], h4, rfl, fun i r x hr => by cases hr⟩ e
theorem CL.len {G : GT} {H : Heap} {g : Nat → Nat} {t a : Nat} {xs : List CaseC} (h : CL G H g t a xs) : xs.length < 2 ^ 18 := by
  obtain ⟨rs, ⟨b, mc, -, -, hlen, -⟩, h2, h3⟩ := h
  omega

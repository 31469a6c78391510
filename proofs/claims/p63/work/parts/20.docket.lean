def placeL (fd : List CaseC) (x : CaseC) : Nat → Int32 → Int32
  | 0, i => i
  | k + 1, i => if (nI fd.length) ≤ i then i else (if (cDl x) < (cDl (gC fd i)) then i else (placeL fd x k (i + 1)))
def place (fd : List CaseC) (x : CaseC)  : Int32 := placeL fd x (nI fd.length).toNatClampNeg 0
set_option maxHeartbeats 1000000 in
set_option maxRecDepth 100000 in
theorem c_placeL {G : GT} {X : String → Heap → Prop} {H0 : Heap} {g0 : Nat → Nat} {dk fl ba : Nat} {q mq : Nat} {fd : List CaseC} {x : CaseC} {F : Int32 → Heap → Prop} : ∀ (k : Nat) (i : Int32)  (H : Heap) (g : Nat → Nat), CL G H g 27 fl fd → Rz G H g dk 7 [.ref fl, .ref ba] → Rz G H g q 5 (cFs x mq) → Ext G [27] H0 g0 H g → (nI fd.length).toInt ≤ i.toInt + ((k : Nat) : Int) → ¬ i < 0 → (F (placeL fd x k i) H) → V G kX3_placeOf 4 0 0 (qi F) X 2 [some (.ref dk), some (.ref q), some (.int i)] [] H := by
  intro k
  induction k with
  | zero =>
    intro i H g hfd hdk hq E hm hi0 kk
    refine V_iload_2 dX3_placeOf_2 ?_
    refine V_aload_0 dX3_placeOf_3 ?_
    refine V_getf dX3_placeOf_4 fl_X3_12 hdk.1 rfl ?_
    obtain ⟨fu, hu⟩ := hfd.ro
    refine V_call_i (runV0 dX3_placeOf_7 ce_Jx4a65c_size_8abf5 rfl ml_X3_26 im_Jx4a65c_size_8abf5 se_Jx4a65c_size_8abf5 hu ⟨_, rfl, rfl⟩ (Nat.le_of_ble_eq_true rfl)) (by omega) (by omega) (by omega) (c_clsize hfd ?_)
    refine V_icmp_ge (tgt := 40) dX3_placeOf_10 (by decide) (fun c_10 => ?_) (fun c_10 => ?_)
    · refine V_iload_2 dX3_placeOf_40 ?_
      exact V_reti dX3_placeOf_41 rfl rfl (by rw [placeL] at kk; exact kk )
    · exact absurd (loop_end hm) c_10
  | succ k ih =>
    intro i H g hfd hdk hq E hm hi0 kk
    refine V_iload_2 dX3_placeOf_2 ?_
    refine V_aload_0 dX3_placeOf_3 ?_
    refine V_getf dX3_placeOf_4 fl_X3_12 hdk.1 rfl ?_
    obtain ⟨fu, hu⟩ := hfd.ro
    refine V_call_i (runV0 dX3_placeOf_7 ce_Jx4a65c_size_8abf5 rfl ml_X3_26 im_Jx4a65c_size_8abf5 se_Jx4a65c_size_8abf5 hu ⟨_, rfl, rfl⟩ (Nat.le_of_ble_eq_true rfl)) (by omega) (by omega) (by omega) (c_clsize hfd ?_)
    refine V_icmp_ge (tgt := 40) dX3_placeOf_10 (by decide) (fun c_10 => ?_) (fun c_10 => ?_)
    · refine V_iload_2 dX3_placeOf_40 ?_
      exact V_reti dX3_placeOf_41 rfl rfl (by rw [placeL, if_pos c_10] at kk; exact kk )
    · refine V_aload_0 dX3_placeOf_13 ?_
      refine V_getf dX3_placeOf_14 fl_X3_12 hdk.1 rfl ?_
      refine V_iload_2 dX3_placeOf_17 ?_
      obtain ⟨fu, hu⟩ := hfd.ro
      refine V_call_a (runV1 dX3_placeOf_18 ce_Jx4a65c_get_915e3 rfl ml_X3_30 im_Jx4a65c_get_915e3 se_Jx4a65c_get_915e3 hu ⟨_, rfl, rfl⟩ (Nat.le_of_ble_eq_true rfl)) (by omega) (by omega) (by omega) (c_clget hfd hi0 c_10 fun r hrx => ?_)
      obtain ⟨mr, hr, hrm⟩ := hrx.md
      have hrn := hrx.nr
      clear hrm
      refine V_castS (ci := 5) dX3_placeOf_21 rfl ck_X3_34 hr.1 ?_
      refine V_getf dX3_placeOf_24 fl_X3_55 hr.1 rfl ?_
      refine V_aload_1 dX3_placeOf_27 ?_
      refine V_getf dX3_placeOf_28 fl_X3_55 hq.1 rfl ?_
      refine V_icmp_gt (tgt := 40) dX3_placeOf_31 (by decide) (fun c_31 => ?_) (fun c_31 => ?_)
      · refine V_iload_2 dX3_placeOf_40 ?_
        exact V_reti dX3_placeOf_41 rfl rfl (by rw [placeL, if_neg c_10, if_pos c_31] at kk; exact kk )
      · refine V_iinc_2 (v := 1) dX3_placeOf_34 rfl rfl ?_
        refine V_goto (tgt := 2) dX3_placeOf_37 (by decide) ?_
        exact ih _ H g hfd hdk hq E (loop_step c_10 hm) (nn_step c_10 hi0) (by rw [placeL, if_neg c_10, if_neg c_31] at kk; exact kk)
set_option maxHeartbeats 1000000 in
set_option maxRecDepth 100000 in
theorem c_place {G : GT} {X : String → Heap → Prop} {H : Heap} {g : Nat → Nat} {dk fl ba : Nat} {q mq : Nat} {fd : List CaseC} {x : CaseC}   (hfd : CL G H g 27 fl fd) (hdk : Rz G H g dk 7 [.ref fl, .ref ba]) (hq : Rz G H g q 5 (cFs x mq)) {F : Int32 → Heap → Prop} (kk : F (place fd x) H) : Call G kX3_placeOf 4 0 0 [.ref dk, .ref q] H (qi F) X := by
  refine startL (L0 := [some (.ref dk), some (.ref q), none]) rfl rfl pl_X3_placeOf (Nat.le_of_ble_eq_true rfl) ?_
  refine V_iconst (v := 0) dX3_placeOf_0 rfl ?_
  refine V_istore_2 dX3_placeOf_1 rfl ?_
  exact c_placeL   (nI fd.length).toNatClampNeg _ H g hfd hdk hq (Ext.rf (ts := [27])) loop_init (by decide) (by rw [place] at kk; exact kk)
theorem placeL_ok {fd : List CaseC} {x : CaseC} : ∀ (k : Nat) (i : Int32), ¬ i < 0 → i ≤ nI fd.length → ¬ placeL fd x k i < 0 ∧ placeL fd x k i ≤ nI fd.length := by
  intro k
  induction k with
  | zero => intro i h0 h1; exact ⟨h0, h1⟩
  | succ k ih =>
    intro i h0 h1
    rw [placeL]
    split
    · exact ⟨h0, h1⟩
    · rename_i c
      split
      · exact ⟨h0, h1⟩
      · refine ih _ (nn_step c h0) (Int32.le_iff_toInt_le.mpr ?_)
        have h2 := Int32.lt_iff_toInt_lt.mp (Int32.not_le.mp c)
        rw [i_succ c]
        omega
theorem place_ok {G : GT} {H : Heap} {g : Nat → Nat} {t a : Nat} {fd : List CaseC} {x : CaseC} (h : CL G H g t a fd) : ∃ j : Nat, place fd x = nI j ∧ j ≤ fd.length := by
  obtain ⟨rs, ⟨b, mc, -, -, hlen, -⟩, h2, -⟩ := h
  obtain ⟨h3, h4⟩ := placeL_ok (fd := fd) (x := x) (nI fd.length).toNatClampNeg 0 (by decide) (nI_pos' (by omega))
  obtain ⟨j, hj, e⟩ := nI_of h3
  refine ⟨j, e, ?_⟩
  rw [e] at h4
  exact (nI_leI hj (by omega)).mp h4
theorem c_cladd_at {G : GT} {H : Heap} {g : Nat → Nat} {t a : Nat} {X : String → Heap → Prop} {r j : Nat} {xs : List CaseC} {x : CaseC} (h : CL G H g t a xs) (hn : ¬ 40 < xs.length) (hj : j ≤ xs.length) (hr : isCase G H g r x) (ht : t ≠ 0) {F : Heap → Prop} (kk : ∀ (H1 : Heap) (g1 : Nat → Nat), CL G H1 g1 t a (xs.insertIdx j x) → Ext G [t] H g H1 g1 → F H1) : Call G kJx4a65c_add_7a177 6 1 61 [.ref a, .int (nI j), .ref r] H (qv F) X := by
  obtain ⟨rs, h1, h2, h3⟩ := h
  refine c_aladdAt h1 (by omega) (by omega) hr.el ht fun H1 g1 h4 e => kk H1 g1 ⟨rs.insertIdx j r, h4, by rw [List.length_insertIdx_of_le_length (by omega), List.length_insertIdx_of_le_length hj, h2], fun i q y hq hy => ?_⟩ e
  rw [List.getElem?_insertIdx] at hq hy
  by_cases c1 : i < j
  · rw [if_pos c1] at hq hy
    exact (h3 _ q y hq hy).fr e (n1 (by omega))
  · rw [if_neg c1] at hq hy
    by_cases c2 : i = j
    · rw [if_pos c2] at hq hy
      rw [h2] at hq
      rw [if_pos (by omega)] at hq hy
      cases hq
      cases hy
      exact hr.fr e (n1 (by omega))
    · rw [if_neg c2] at hq hy
      exact (h3 _ q y hq hy).fr e (n1 (by omega))
theorem c_clclear {G : GT} {H : Heap} {g : Nat → Nat} {t a : Nat} {X : String → Heap → Prop} {xs : List CaseC} (h : CL G H g t a xs) (ht : t ≠ 0) {F : Heap → Prop} (kk : ∀ H1 : Heap, CL G H1 g t a [] → Ext G [t] H g H1 g → F H1) : Call G kJx4a65c_clear_da8c8 0 0 0 [.ref a] H (qv F) X := by
  obtain ⟨rs, h1, h2, h3⟩ := h
  exact c_alclear h1 ht fun H1 h4 e => kk H1 ⟨[], h4, rfl, fun i r x hr => by cases hr⟩ e
theorem CL.len {G : GT} {H : Heap} {g : Nat → Nat} {t a : Nat} {xs : List CaseC} (h : CL G H g t a xs) : xs.length < 2 ^ 18 := by
  obtain ⟨rs, ⟨b, mc, -, -, hlen, -⟩, h2, h3⟩ := h
  omega
def collL (cs : List CaseC) : Nat → Int32 → List CaseC → List CaseC
  | 0, i, fd => fd
  | k + 1, i, fd => if (nI cs.length) ≤ i then fd else (if (cSd (gC cs i)) = 102 then (if 12 ≤ (nI fd.length) then (collL cs k (i + 1) fd) else (collL cs k (i + 1) (fd.insertIdx (place fd (gC cs i)).toNatClampNeg (gC cs i)))) else (collL cs k (i + 1) fd))
def coll (cs : List CaseC) (fd : List CaseC) : List CaseC := collL cs (nI cs.length).toNatClampNeg 0 ([])
set_option maxHeartbeats 1000000 in
set_option maxRecDepth 100000 in
theorem c_collL {G : GT} {X : String → Heap → Prop} {H0 : Heap} {g0 : Nat → Nat} {dk fl ba : Nat} {bal ten : List Int32} {cs : List CaseC} {ps : List PrecC} {n ch td nx : Int32} {t a : Nat} (ht : t = 0 ∨ t = 10) (hfu : (nI cs.length).toNatClampNeg ≤ 12) {F : Heap → Prop} {c2 s2 : Nat} : ∀ (k : Nat) (i : Int32) (fd : List CaseC) (H : Heap) (g : Nat → Nat) (cc ss : Nat), CL G H g 27 fl fd → MS G H g t a (bal, ten, cs, ps, n, ch, td, nx) → Rz G H g dk 7 [.ref fl, .ref ba] → Ext G [27] H0 g0 H g → (nI cs.length).toInt ≤ i.toInt + ((k : Nat) : Int) → ¬ i < 0 → c2 + 1 * k ≤ cc → s2 + 61 * k ≤ ss → (∀ (H1 : Heap) (g1 : Nat → Nat), CL G H1 g1 27 fl (collL cs k i fd) → Ext G [27] H0 g0 H1 g1 → F H1) → V G kX3_collectFiled 7 cc ss (qv F) X 9 [some (.ref dk), some (.ref a), some (.int i), none] [] H := by
  intro k
  induction k with
  | zero =>
    intro i fd H g cc ss hfd h hdk E hm hi0 hcc hss kk
    refine V_iload_2 dX3_collectFiled_9 ?_
    refine V_aload_1 dX3_collectFiled_10 ?_
    obtain ⟨hbl, htl, b, k0, u, v, ho, hbal, hten, hcs, hps⟩ := id h
    refine V_getf dX3_collectFiled_11 fl_X3_67 ho.ro rfl ?_
    obtain ⟨fu, hu⟩ := hcs.ro
    refine V_call_i (runV0 dX3_collectFiled_14 ce_Jx4a65c_size_8abf5 rfl ml_X3_26 im_Jx4a65c_size_8abf5 se_Jx4a65c_size_8abf5 hu ⟨_, rfl, rfl⟩ (Nat.le_of_ble_eq_true rfl)) (by omega) (by omega) (by omega) (c_clsize hcs ?_)
    refine V_icmp_ge (tgt := 72) dX3_collectFiled_17 (by decide) (fun c_17 => ?_) (fun c_17 => ?_)
    · exact V_retv dX3_collectFiled_72 rfl (by rw [collL] at kk; exact kk H g hfd E)
    · exact absurd (loop_end hm) c_17
  | succ k ih =>
    intro i fd H g cc ss hfd h hdk E hm hi0 hcc hss kk
    refine V_iload_2 dX3_collectFiled_9 ?_
    refine V_aload_1 dX3_collectFiled_10 ?_
    obtain ⟨hbl, htl, b, k0, u, v, ho, hbal, hten, hcs, hps⟩ := id h
    refine V_getf dX3_collectFiled_11 fl_X3_67 ho.ro rfl ?_
    obtain ⟨fu, hu⟩ := hcs.ro
    refine V_call_i (runV0 dX3_collectFiled_14 ce_Jx4a65c_size_8abf5 rfl ml_X3_26 im_Jx4a65c_size_8abf5 se_Jx4a65c_size_8abf5 hu ⟨_, rfl, rfl⟩ (Nat.le_of_ble_eq_true rfl)) (by omega) (by omega) (by omega) (c_clsize hcs ?_)
    refine V_icmp_ge (tgt := 72) dX3_collectFiled_17 (by decide) (fun c_17 => ?_) (fun c_17 => ?_)
    · exact V_retv dX3_collectFiled_72 rfl (by rw [collL, if_pos c_17] at kk; exact kk H g hfd E)
    · refine V_aload_1 dX3_collectFiled_20 ?_
      refine V_getf dX3_collectFiled_21 fl_X3_67 ho.ro rfl ?_
      refine V_iload_2 dX3_collectFiled_24 ?_
      obtain ⟨fu, hu⟩ := hcs.ro
      refine V_call_a (runV1 dX3_collectFiled_25 ce_Jx4a65c_get_915e3 rfl ml_X3_30 im_Jx4a65c_get_915e3 se_Jx4a65c_get_915e3 hu ⟨_, rfl, rfl⟩ (Nat.le_of_ble_eq_true rfl)) (by omega) (by omega) (by omega) (c_clget hcs hi0 c_17 fun r hrx => ?_)
      obtain ⟨mr, hr, hrm⟩ := hrx.md
      have hrn := hrx.nr
      clear hrm
      refine V_castS (ci := 5) dX3_collectFiled_28 rfl ck_X3_34 hr.1 ?_
      refine V_astore_3 dX3_collectFiled_31 rfl ?_
      refine V_aload_3 dX3_collectFiled_32 ?_
      refine V_getf dX3_collectFiled_33 fl_X3_70 hr.1 rfl ?_
      refine V_bipush (v := 102) dX3_collectFiled_36 (by decide) ?_
      refine V_icmp_ne (tgt := 66) dX3_collectFiled_38 (by decide) (fun c_38 => ?_) (fun c_38 => ?_)
      · refine V_iinc_2 (v := 1) dX3_collectFiled_66 rfl rfl ?_
        refine V_goto (tgt := 9) dX3_collectFiled_69 (by decide) ?_
        refine V_drop 3 rfl ?_
        exact ih _ _ H g _ _ hfd h hdk E (loop_step c_17 hm) (nn_step c_17 hi0) (by omega) (by omega) (by rw [collL, if_neg c_17, if_neg c_38] at kk; exact kk)
      · refine V_aload_0 dX3_collectFiled_41 ?_
        refine V_getf dX3_collectFiled_42 fl_X3_12 hdk.1 rfl ?_
        obtain ⟨fu, hu⟩ := hfd.ro
        refine V_call_i (runV0 dX3_collectFiled_45 ce_Jx4a65c_size_8abf5 rfl ml_X3_26 im_Jx4a65c_size_8abf5 se_Jx4a65c_size_8abf5 hu ⟨_, rfl, rfl⟩ (Nat.le_of_ble_eq_true rfl)) (by omega) (by omega) (by omega) (c_clsize hfd ?_)
        refine V_bipush (v := 12) dX3_collectFiled_48 (by decide) ?_
        refine V_icmp_ge (tgt := 66) dX3_collectFiled_50 (by decide) (fun c_50 => ?_) (fun c_50 => ?_)
        · refine V_iinc_2 (v := 1) dX3_collectFiled_66 rfl rfl ?_
          refine V_goto (tgt := 9) dX3_collectFiled_69 (by decide) ?_
          refine V_drop 3 rfl ?_
          exact ih _ _ H g _ _ hfd h hdk E (loop_step c_17 hm) (nn_step c_17 hi0) (by omega) (by omega) (by rw [collL, if_neg c_17, if_pos c_38, if_pos c_50] at kk; exact kk)
        · refine V_aload_0 dX3_collectFiled_53 ?_
          refine V_getf dX3_collectFiled_54 fl_X3_12 hdk.1 rfl ?_
          refine V_aload_0 dX3_collectFiled_57 ?_
          refine V_aload_3 dX3_collectFiled_58 ?_
          refine V_call_i (runV1 dX3_collectFiled_59 ce_X3_placeOf rfl ml_X3_74 im_X3_placeOf se_X3_placeOf hdk.1 ⟨_, rfl, rfl⟩ (Nat.le_of_ble_eq_true rfl)) (by omega) (by omega) (by omega) (c_place hfd hdk hr ?_)
          obtain ⟨jp, ep, hjp⟩ := place_ok (x := gC cs i) hfd
          refine V_aload_3 dX3_collectFiled_62 ?_
          rw [ep]
          obtain ⟨fu2, hu2⟩ := hfd.ro
          refine V_call_v (runV2 dX3_collectFiled_63 ce_Jx4a65c_add_7a177 rfl ml_X3_78 im_Jx4a65c_add_7a177 se_Jx4a65c_add_7a177 hu2 ⟨_, rfl, rfl⟩ (Nat.le_of_ble_eq_true rfl)) (by omega) (by omega) (by omega) (c_cladd_at hfd (hfd.small (Int32.not_le.mp c_50) (by decide)) hjp hrx (by decide) fun H1 g1 hfd_ e1 => ?_)
          have ej : (place fd (gC cs i)).toNatClampNeg = jp := by rw [ep]; exact nI_clamp (by have := hfd.len; omega)
          replace h := h.fr e1 (tk_of ht (by decide))
          replace hdk := hdk.fr e1 (by decide)
          replace hr := hr.fr e1 (by decide)
          replace hrx := hrx.fr e1 (by decide)
          replace E := E.trans (e1.wide (by decide))
          rw [← ej] at hfd_
          replace hfd := hfd_
          clear hfd_
          refine V_iinc_2 (v := 1) dX3_collectFiled_66 rfl rfl ?_
          refine V_goto (tgt := 9) dX3_collectFiled_69 (by decide) ?_
          refine V_drop 3 rfl ?_
          exact ih _ _ H1 g1 _ _ hfd h hdk E (loop_step c_17 hm) (nn_step c_17 hi0) (by omega) (by omega) (by rw [collL, if_neg c_17, if_pos c_38, if_neg c_50] at kk; exact kk)
set_option maxHeartbeats 1000000 in
set_option maxRecDepth 100000 in
theorem c_coll {G : GT} {X : String → Heap → Prop} {H : Heap} {g : Nat → Nat} {dk fl ba : Nat} {bal ten : List Int32} {cs : List CaseC} {ps : List PrecC} {n ch td nx : Int32} {t a : Nat} (ht : t = 0 ∨ t = 10) (hfu : (nI cs.length).toNatClampNeg ≤ 12) {fd : List CaseC} (hfd : CL G H g 27 fl fd) (h : MS G H g t a (bal, ten, cs, ps, n, ch, td, nx)) (hdk : Rz G H g dk 7 [.ref fl, .ref ba]) {F : Heap → Prop} (kk : ∀ (H1 : Heap) (g1 : Nat → Nat), CL G H1 g1 27 fl (coll cs fd) → Ext G [27] H g H1 g1 → F H1) : Call G kX3_collectFiled 7 12 732 [.ref dk, .ref a] H (qv F) X := by
  have E : Ext G [27] H g H g := Ext.rf
  refine startL (L0 := [some (.ref dk), some (.ref a), none, none]) rfl rfl pl_X3_collectFiled (Nat.le_of_ble_eq_true rfl) ?_
  refine V_aload_0 dX3_collectFiled_0 ?_
  refine V_getf dX3_collectFiled_1 fl_X3_12 hdk.1 rfl ?_
  obtain ⟨fu, hu⟩ := hfd.ro
  refine V_call_v (runV0 dX3_collectFiled_4 ce_Jx4a65c_clear_da8c8 rfl ml_X3_64 im_Jx4a65c_clear_da8c8 se_Jx4a65c_clear_da8c8 hu ⟨_, rfl, rfl⟩ (Nat.le_of_ble_eq_true rfl)) (by omega) (by omega) (by omega) (c_clclear hfd (by decide) fun H1 hfd_ e1 => ?_)
  replace h := h.fr e1 (tk_of ht (by decide))
  replace hdk := hdk.fr e1 (by decide)
  replace E := E.trans (e1.wide (by decide))
  replace hfd := hfd_
  clear hfd_
  refine V_iconst (v := 0) dX3_collectFiled_7 rfl ?_
  refine V_istore_2 dX3_collectFiled_8 rfl ?_
  exact c_collL (c2 := 0) (s2 := 0) ht hfu  (nI cs.length).toNatClampNeg _ _ H1 g _ _ hfd h hdk (Ext.rf (ts := [27])) loop_init (by decide) (Nat.le_trans (Nat.add_le_add_left (Nat.mul_le_mul_left _ hfu) _) (by omega)) (Nat.le_trans (Nat.add_le_add_left (Nat.mul_le_mul_left _ hfu) _) (by omega)) (by rw [coll] at kk; exact fun Hz gz hfd_ ez => kk Hz gz hfd_ (E.trans ez))

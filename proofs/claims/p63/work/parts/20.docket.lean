def placeL (fd : List CaseC) (x : CaseC) : Nat → Int32 → Int32
  | 0, i => i
  | k + 1, i => if (nI fd.length) ≤ i then i else (if (cDl x) < (cDl (gC fd i)) then i else (placeL fd x k (i + 1)))
def place (fd : List CaseC) (x : CaseC)  : Int32 := placeL fd x (nI fd.length).toNatClampNeg 0
set_option maxHeartbeats 1000000 in
set_option maxRecDepth 100000 in
theorem c_placeL {G : GT} {X : String → Heap → Prop} {H0 : Heap} {g0 : Nat → Nat} {dk fl ba : Nat} {q mq : Nat} {fd : List CaseC} {x : CaseC} {F : Int32 → Heap → Prop} {cc ss : Nat} : ∀ (k : Nat) (i : Int32)  (H : Heap) (g : Nat → Nat), CL G H g 27 fl fd → Rz G H g dk 7 [.ref fl, .ref ba] → Rz G H g q 5 (cFs x mq) → Ext G [27] H0 g0 H g → (nI fd.length).toInt ≤ i.toInt + ((k : Nat) : Int) → ¬ i < 0 → (F (placeL fd x k i) H) → V G kX3_placeOf 4 cc ss (qi F) X 2 [some (.ref dk), some (.ref q), some (.int i)] [] H := by
  intro k
  induction k with
  | zero =>
    intro i H g hfd hdk hq E hm hi0 kk
    refine V_iload_2 dX3_placeOf_2 ?_
    refine V_aload_0 dX3_placeOf_3 ?_
    refine V_getf dX3_placeOf_4 fl_X3_12 hdk.1 rfl ?_
    obtain ⟨fu, hu⟩ := hfd.ro
    refine V_call_i (runV0 dX3_placeOf_7 ce_Jx4a65c_size_8abf5 rfl ml_X3_26 im_Jx4a65c_size_8abf5 se_Jx4a65c_size_8abf5 hu ⟨_, rfl, rfl⟩ (Nat.le_of_ble_eq_true rfl)) (by omega) (by omega) (by omega) (c_clsize hfd ?_)
    refine V_icmp_ge (tgt := 40) dX3_placeOf_10 (by decide) (fun c_10 => ?_) (fun c_10 => ?_)
    · refine V_iload_2 dX3_placeOf_40 ?_
      exact V_reti dX3_placeOf_41 rfl rfl (by rw [placeL] at kk; exact kk )
    · exact absurd (loop_end hm) c_10
  | succ k ih =>
    intro i H g hfd hdk hq E hm hi0 kk
    refine V_iload_2 dX3_placeOf_2 ?_
    refine V_aload_0 dX3_placeOf_3 ?_
    refine V_getf dX3_placeOf_4 fl_X3_12 hdk.1 rfl ?_
    obtain ⟨fu, hu⟩ := hfd.ro
    refine V_call_i (runV0 dX3_placeOf_7 ce_Jx4a65c_size_8abf5 rfl ml_X3_26 im_Jx4a65c_size_8abf5 se_Jx4a65c_size_8abf5 hu ⟨_, rfl, rfl⟩ (Nat.le_of_ble_eq_true rfl)) (by omega) (by omega) (by omega) (c_clsize hfd ?_)
    refine V_icmp_ge (tgt := 40) dX3_placeOf_10 (by decide) (fun c_10 => ?_) (fun c_10 => ?_)
    · refine V_iload_2 dX3_placeOf_40 ?_
      exact V_reti dX3_placeOf_41 rfl rfl (by rw [placeL, if_pos c_10] at kk; exact kk )
    · refine V_aload_0 dX3_placeOf_13 ?_
      refine V_getf dX3_placeOf_14 fl_X3_12 hdk.1 rfl ?_
      refine V_iload_2 dX3_placeOf_17 ?_
      obtain ⟨fu, hu⟩ := hfd.ro
      refine V_call_a (runV1 dX3_placeOf_18 ce_Jx4a65c_get_915e3 rfl ml_X3_30 im_Jx4a65c_get_915e3 se_Jx4a65c_get_915e3 hu ⟨_, rfl, rfl⟩ (Nat.le_of_ble_eq_true rfl)) (by omega) (by omega) (by omega) (c_clget hfd hi0 c_10 fun r hrx => ?_)
      obtain ⟨mr, hr, hrm⟩ := hrx.md
      have hrn := hrx.nr
      clear hrm
      refine V_castS (ci := 5) dX3_placeOf_21 rfl ck_X3_34 hr.1 ?_
      refine V_getf dX3_placeOf_24 fl_X3_55 hr.1 rfl ?_
      refine V_aload_1 dX3_placeOf_27 ?_
      refine V_getf dX3_placeOf_28 fl_X3_55 hq.1 rfl ?_
      refine V_icmp_gt (tgt := 40) dX3_placeOf_31 (by decide) (fun c_31 => ?_) (fun c_31 => ?_)
      · refine V_iload_2 dX3_placeOf_40 ?_
        exact V_reti dX3_placeOf_41 rfl rfl (by rw [placeL, if_neg c_10, if_pos c_31] at kk; exact kk )
      · refine V_iinc_2 (v := 1) dX3_placeOf_34 rfl rfl ?_
        refine V_goto (tgt := 2) dX3_placeOf_37 (by decide) ?_
        exact ih _ H g hfd hdk hq E (loop_step c_10 hm) (nn_step c_10 hi0) (by rw [placeL, if_neg c_10, if_neg c_31] at kk; exact kk)
set_option maxHeartbeats 1000000 in
set_option maxRecDepth 100000 in
theorem c_place {G : GT} {X : String → Heap → Prop} {H : Heap} {g : Nat → Nat} {dk fl ba : Nat} {q mq : Nat} {fd : List CaseC} {x : CaseC}   (hfd : CL G H g 27 fl fd) (hdk : Rz G H g dk 7 [.ref fl, .ref ba]) (hq : Rz G H g q 5 (cFs x mq)) {F : Int32 → Heap → Prop} (kk : F (place fd x) H) : Call G kX3_placeOf 4 0 0 [.ref dk, .ref q] H (qi F) X := by
  refine startL (L0 := [some (.ref dk), some (.ref q), none]) rfl rfl pl_X3_placeOf (Nat.le_of_ble_eq_true rfl) ?_
  refine V_iconst (v := 0) dX3_placeOf_0 rfl ?_
  refine V_istore_2 dX3_placeOf_1 rfl ?_
  exact c_placeL   (nI fd.length).toNatClampNeg 0 H g hfd hdk hq (Ext.rf (ts := [27])) loop_init (by decide) (by rw [place] at kk; exact kk)
theorem placeL_ok {fd : List CaseC} {x : CaseC} : ∀ (k : Nat) (i : Int32), ¬ i < 0 → i ≤ nI fd.length → ¬ placeL fd x k i < 0 ∧ placeL fd x k i ≤ nI fd.length := by
  intro k
  induction k with
  | zero => intro i h0 h1; exact ⟨h0, h1⟩
  | succ k ih =>
    intro i h0 h1
    rw [placeL]
    split
    · exact ⟨h0, h1⟩
    · rename_i c
      split
      · exact ⟨h0, h1⟩
      · refine ih _ (nn_step c h0) (Int32.le_iff_toInt_le.mpr ?_)
        have h2 := Int32.lt_iff_toInt_lt.mp (Int32.not_le.mp c)
        rw [i_succ c]
        omega
theorem place_ok {G : GT} {H : Heap} {g : Nat → Nat} {t a : Nat} {fd : List CaseC} {x : CaseC} (h : CL G H g t a fd) : ∃ j : Nat, place fd x = nI j ∧ j ≤ fd.length := by
  obtain ⟨rs, ⟨b, mc, -, -, hlen, -⟩, h2, -⟩ := h
  obtain ⟨h3, h4⟩ := placeL_ok (fd := fd) (x := x) (nI fd.length).toNatClampNeg 0 (by decide) (nI_pos' (by omega))
  obtain ⟨j, hj, e⟩ := nI_of h3
  refine ⟨j, e, ?_⟩
  rw [e] at h4
  exact (nI_leI hj (by omega)).mp h4
theorem c_cladd_at {G : GT} {H : Heap} {g : Nat → Nat} {t a : Nat} {X : String → Heap → Prop} {r j : Nat} {xs : List CaseC} {x : CaseC} (h : CL G H g t a xs) (hn : ¬ 40 < xs.length) (hj : j ≤ xs.length) (hr : isCase G H g r x) (ht : t ≠ 0) {F : Heap → Prop} (kk : ∀ (H1 : Heap) (g1 : Nat → Nat), CL G H1 g1 t a (xs.insertIdx j x) → Ext G [t] H g H1 g1 → F H1) : Call G kJx4a65c_add_7a177 6 1 61 [.ref a, .int (nI j), .ref r] H (qv F) X := by
  obtain ⟨rs, h1, h2, h3⟩ := h
  refine c_aladdAt h1 (by omega) (by omega) hr.el ht fun H1 g1 h4 e => kk H1 g1 ⟨rs.insertIdx j r, h4, by rw [List.length_insertIdx_of_le_length (by omega), List.length_insertIdx_of_le_length hj, h2], fun i q y hq hy => ?_⟩ e
  rw [List.getElem?_insertIdx] at hq hy
  by_cases c1 : i < j
  · rw [if_pos c1] at hq hy
    exact (h3 _ q y hq hy).fr e (n1 (by omega))
  · rw [if_neg c1] at hq hy
    by_cases c2 : i = j
    · rw [if_pos c2] at hq hy
      rw [h2] at hq
      rw [if_pos (by omega)] at hq hy
      cases hq
      cases hy
      exact hr.fr e (n1 (by omega))
    · rw [if_neg c2] at hq hy
      exact (h3 _ q y hq hy).fr e (n1 (by omega))
theorem c_clclear {G : GT} {H : Heap} {g : Nat → Nat} {t a : Nat} {X : String → Heap → Prop} {xs : List CaseC} (h : CL G H g t a xs) (ht : t ≠ 0) {F : Heap → Prop} (kk : ∀ H1 : Heap, CL G H1 g t a [] → Ext G [t] H g H1 g → F H1) : Call G kJx4a65c_clear_da8c8 0 0 0 [.ref a] H (qv F) X := by
  obtain ⟨rs, h1, h2, h3⟩ := h
  exact c_alclear h1 ht fun H1 h4 e => kk H1 ⟨[], h4, rfl, fun i r x hr => by cases hr⟩ e
theorem CL.len {G : GT} {H : Heap} {g : Nat → Nat} {t a : Nat} {xs : List CaseC} (h : CL G H g t a xs) : xs.length < 2 ^ 18 := by
  obtain ⟨rs, ⟨b, mc, -, -, hlen, -⟩, h2, h3⟩ := h
  omega
def collL (cs : List CaseC) : Nat → Int32 → List CaseC → List CaseC
  | 0, i, fd => fd
  | k + 1, i, fd => if (nI cs.length) ≤ i then fd else (if (cSd (gC cs i)) = 102 then (if 12 ≤ (nI fd.length) then (collL cs k (i + 1) fd) else (collL cs k (i + 1) (fd.insertIdx (place fd (gC cs i)).toNatClampNeg (gC cs i)))) else (collL cs k (i + 1) fd))
def coll (cs : List CaseC) (fd : List CaseC) : List CaseC := collL cs (nI cs.length).toNatClampNeg 0 ([])
set_option maxHeartbeats 1000000 in
set_option maxRecDepth 100000 in
theorem c_collL {G : GT} {X : String → Heap → Prop} {H0 : Heap} {g0 : Nat → Nat} {dk fl ba : Nat} {bal ten : List Int32} {cs : List CaseC} {ps : List PrecC} {n ch td nx : Int32} {t a : Nat} (ht : t = 0 ∨ t = 10) (hfu : (nI cs.length).toNatClampNeg ≤ 12) {F : Heap → Prop} {c2 s2 : Nat} : ∀ (k : Nat) (i : Int32) (fd : List CaseC) (H : Heap) (g : Nat → Nat) (cc ss : Nat), CL G H g 27 fl fd → MS G H g t a (bal, ten, cs, ps, n, ch, td, nx) → Rz G H g dk 7 [.ref fl, .ref ba] → Ext G [27] H0 g0 H g → (nI cs.length).toInt ≤ i.toInt + ((k : Nat) : Int) → ¬ i < 0 → c2 + 1 * k ≤ cc → s2 + 61 * k ≤ ss → (∀ (H1 : Heap) (g1 : Nat → Nat), CL G H1 g1 27 fl (collL cs k i fd) → Ext G [27] H0 g0 H1 g1 → F H1) → V G kX3_collectFiled 7 cc ss (qv F) X 9 [some (.ref dk), some (.ref a), some (.int i), none] [] H := by
  intro k
  induction k with
  | zero =>
    intro i fd H g cc ss hfd h hdk E hm hi0 hcc hss kk
    refine V_iload_2 dX3_collectFiled_9 ?_
    refine V_aload_1 dX3_collectFiled_10 ?_
    obtain ⟨hbl, htl, b, k0, u, v, ho, hbal, hten, hcs, hps⟩ := id h
    refine V_getf dX3_collectFiled_11 fl_X3_67 ho.ro rfl ?_
    obtain ⟨fu, hu⟩ := hcs.ro
    refine V_call_i (runV0 dX3_collectFiled_14 ce_Jx4a65c_size_8abf5 rfl ml_X3_26 im_Jx4a65c_size_8abf5 se_Jx4a65c_size_8abf5 hu ⟨_, rfl, rfl⟩ (Nat.le_of_ble_eq_true rfl)) (by omega) (by omega) (by omega) (c_clsize hcs ?_)
    refine V_icmp_ge (tgt := 72) dX3_collectFiled_17 (by decide) (fun c_17 => ?_) (fun c_17 => ?_)
    · exact V_retv dX3_collectFiled_72 rfl (by rw [collL] at kk; exact kk H g hfd E)
    · exact absurd (loop_end hm) c_17
  | succ k ih =>
    intro i fd H g cc ss hfd h hdk E hm hi0 hcc hss kk
    refine V_iload_2 dX3_collectFiled_9 ?_
    refine V_aload_1 dX3_collectFiled_10 ?_
    obtain ⟨hbl, htl, b, k0, u, v, ho, hbal, hten, hcs, hps⟩ := id h
    refine V_getf dX3_collectFiled_11 fl_X3_67 ho.ro rfl ?_
    obtain ⟨fu, hu⟩ := hcs.ro
    refine V_call_i (runV0 dX3_collectFiled_14 ce_Jx4a65c_size_8abf5 rfl ml_X3_26 im_Jx4a65c_size_8abf5 se_Jx4a65c_size_8abf5 hu ⟨_, rfl, rfl⟩ (Nat.le_of_ble_eq_true rfl)) (by omega) (by omega) (by omega) (c_clsize hcs ?_)
    refine V_icmp_ge (tgt := 72) dX3_collectFiled_17 (by decide) (fun c_17 => ?_) (fun c_17 => ?_)
    · exact V_retv dX3_collectFiled_72 rfl (by rw [collL, if_pos c_17] at kk; exact kk H g hfd E)
    · refine V_aload_1 dX3_collectFiled_20 ?_
      refine V_getf dX3_collectFiled_21 fl_X3_67 ho.ro rfl ?_
      refine V_iload_2 dX3_collectFiled_24 ?_
      obtain ⟨fu, hu⟩ := hcs.ro
      refine V_call_a (runV1 dX3_collectFiled_25 ce_Jx4a65c_get_915e3 rfl ml_X3_30 im_Jx4a65c_get_915e3 se_Jx4a65c_get_915e3 hu ⟨_, rfl, rfl⟩ (Nat.le_of_ble_eq_true rfl)) (by omega) (by omega) (by omega) (c_clget hcs hi0 c_17 fun r hrx => ?_)
      obtain ⟨mr, hr, hrm⟩ := hrx.md
      have hrn := hrx.nr
      clear hrm
      refine V_castS (ci := 5) dX3_collectFiled_28 rfl ck_X3_34 hr.1 ?_
      refine V_astore_3 dX3_collectFiled_31 rfl ?_
      refine V_aload_3 dX3_collectFiled_32 ?_
      refine V_getf dX3_collectFiled_33 fl_X3_70 hr.1 rfl ?_
      refine V_bipush (v := 102) dX3_collectFiled_36 (by decide) ?_
      refine V_icmp_ne (tgt := 66) dX3_collectFiled_38 (by decide) (fun c_38 => ?_) (fun c_38 => ?_)
      · refine V_iinc_2 (v := 1) dX3_collectFiled_66 rfl rfl ?_
        refine V_goto (tgt := 9) dX3_collectFiled_69 (by decide) ?_
        refine V_drop 3 rfl ?_
        exact ih _ _ H g _ _ hfd h hdk E (loop_step c_17 hm) (nn_step c_17 hi0) (by omega) (by omega) (by rw [collL, if_neg c_17, if_neg c_38] at kk; exact kk)
      · refine V_aload_0 dX3_collectFiled_41 ?_
        refine V_getf dX3_collectFiled_42 fl_X3_12 hdk.1 rfl ?_
        obtain ⟨fu, hu⟩ := hfd.ro
        refine V_call_i (runV0 dX3_collectFiled_45 ce_Jx4a65c_size_8abf5 rfl ml_X3_26 im_Jx4a65c_size_8abf5 se_Jx4a65c_size_8abf5 hu ⟨_, rfl, rfl⟩ (Nat.le_of_ble_eq_true rfl)) (by omega) (by omega) (by omega) (c_clsize hfd ?_)
        refine V_bipush (v := 12) dX3_collectFiled_48 (by decide) ?_
        refine V_icmp_ge (tgt := 66) dX3_collectFiled_50 (by decide) (fun c_50 => ?_) (fun c_50 => ?_)
        · refine V_iinc_2 (v := 1) dX3_collectFiled_66 rfl rfl ?_
          refine V_goto (tgt := 9) dX3_collectFiled_69 (by decide) ?_
          refine V_drop 3 rfl ?_
          exact ih _ _ H g _ _ hfd h hdk E (loop_step c_17 hm) (nn_step c_17 hi0) (by omega) (by omega) (by rw [collL, if_neg c_17, if_pos c_38, if_pos c_50] at kk; exact kk)
        · refine V_aload_0 dX3_collectFiled_53 ?_
          refine V_getf dX3_collectFiled_54 fl_X3_12 hdk.1 rfl ?_
          refine V_aload_0 dX3_collectFiled_57 ?_
          refine V_aload_3 dX3_collectFiled_58 ?_
          refine V_call_i (runV1 dX3_collectFiled_59 ce_X3_placeOf rfl ml_X3_74 im_X3_placeOf se_X3_placeOf hdk.1 ⟨_, rfl, rfl⟩ (Nat.le_of_ble_eq_true rfl)) (by omega) (by omega) (by omega) (c_place hfd hdk hr ?_)
          obtain ⟨jp, ep, hjp⟩ := place_ok (x := gC cs i) hfd
          refine V_aload_3 dX3_collectFiled_62 ?_
          rw [ep]
          obtain ⟨fu2, hu2⟩ := hfd.ro
          refine V_call_v (runV2 dX3_collectFiled_63 ce_Jx4a65c_add_7a177 rfl ml_X3_78 im_Jx4a65c_add_7a177 se_Jx4a65c_add_7a177 hu2 ⟨_, rfl, rfl⟩ (Nat.le_of_ble_eq_true rfl)) (by omega) (by omega) (by omega) (c_cladd_at hfd (hfd.small (Int32.not_le.mp c_50) (by decide)) hjp hrx (by decide) fun H1 g1 hfd_ e1 => ?_)
          have ej : (place fd (gC cs i)).toNatClampNeg = jp := by rw [ep]; exact nI_clamp (by have := hfd.len; omega)
          replace h := h.fr e1 (tk_of ht (by decide))
          replace hdk := hdk.fr e1 (by decide)
          replace hr := hr.fr e1 (by decide)
          replace hrx := hrx.fr e1 (by decide)
          replace E := E.trans (e1.wide (by decide))
          rw [← ej] at hfd_
          replace hfd := hfd_
          clear hfd_
          refine V_iinc_2 (v := 1) dX3_collectFiled_66 rfl rfl ?_
          refine V_goto (tgt := 9) dX3_collectFiled_69 (by decide) ?_
          refine V_drop 3 rfl ?_
          exact ih _ _ H1 g1 _ _ hfd h hdk E (loop_step c_17 hm) (nn_step c_17 hi0) (by omega) (by omega) (by rw [collL, if_neg c_17, if_pos c_38, if_neg c_50] at kk; exact kk)
set_option maxHeartbeats 1000000 in
set_option maxRecDepth 100000 in
theorem c_coll {G : GT} {X : String → Heap → Prop} {H : Heap} {g : Nat → Nat} {dk fl ba : Nat} {bal ten : List Int32} {cs : List CaseC} {ps : List PrecC} {n ch td nx : Int32} {t a : Nat} (ht : t = 0 ∨ t = 10) (hfu : (nI cs.length).toNatClampNeg ≤ 12) {fd : List CaseC} (hfd : CL G H g 27 fl fd) (h : MS G H g t a (bal, ten, cs, ps, n, ch, td, nx)) (hdk : Rz G H g dk 7 [.ref fl, .ref ba]) {F : Heap → Prop} (kk : ∀ (H1 : Heap) (g1 : Nat → Nat), CL G H1 g1 27 fl (coll cs fd) → Ext G [27] H g H1 g1 → F H1) : Call G kX3_collectFiled 7 12 732 [.ref dk, .ref a] H (qv F) X := by
  have E : Ext G [27] H g H g := Ext.rf
  refine startL (L0 := [some (.ref dk), some (.ref a), none, none]) rfl rfl pl_X3_collectFiled (Nat.le_of_ble_eq_true rfl) ?_
  refine V_aload_0 dX3_collectFiled_0 ?_
  refine V_getf dX3_collectFiled_1 fl_X3_12 hdk.1 rfl ?_
  obtain ⟨fu, hu⟩ := hfd.ro
  refine V_call_v (runV0 dX3_collectFiled_4 ce_Jx4a65c_clear_da8c8 rfl ml_X3_64 im_Jx4a65c_clear_da8c8 se_Jx4a65c_clear_da8c8 hu ⟨_, rfl, rfl⟩ (Nat.le_of_ble_eq_true rfl)) (by omega) (by omega) (by omega) (c_clclear hfd (by decide) fun H1 hfd_ e1 => ?_)
  replace h := h.fr e1 (tk_of ht (by decide))
  replace hdk := hdk.fr e1 (by decide)
  replace E := E.trans (e1.wide (by decide))
  replace hfd := hfd_
  clear hfd_
  refine V_iconst (v := 0) dX3_collectFiled_7 rfl ?_
  refine V_istore_2 dX3_collectFiled_8 rfl ?_
  exact c_collL (c2 := 0) (s2 := 0) ht hfu  (nI cs.length).toNatClampNeg 0 _ H1 g _ _ hfd h hdk (Ext.rf (ts := [27])) loop_init (by decide) (Nat.le_trans (Nat.add_le_add_left (Nat.mul_le_mul_left _ hfu) _) (by omega)) (Nat.le_trans (Nat.add_le_add_left (Nat.mul_le_mul_left _ hfu) _) (by omega)) (by rw [coll] at kk; exact fun Hz gz hfd_ ez => kk Hz gz hfd_ (E.trans ez))
theorem loop_endD {n i : Int32} (h : i.toInt < n.toInt + ((0 : Nat) : Int)) : i < n := Int32.lt_iff_toInt_lt.mpr (by omega)
theorem pred_i {n i : Int32} (hn : ¬ n < 0) (h : ¬ i < n) : (i + -1).toInt = i.toInt - 1 := by
  have h1 := Int32.le_iff_toInt_le.mp (Int32.not_lt.mp h)
  have h2 := Int32.le_iff_toInt_le.mp (Int32.not_lt.mp hn)
  have h3 : i.toInt < 2 ^ 31 := Int32.toInt_lt i
  have h0 : (0 : Int32).toInt = 0 := rfl
  rw [Int32.toInt_add, show (-1 : Int32).toInt = -1 from rfl]
  exact Int.bmod_eq_of_le (by omega) (by omega)
theorem loop_stepD {n i : Int32} {k : Nat} (hn : ¬ n < 0) (h : ¬ i < n) (hm : i.toInt < n.toInt + ((k + 1 : Nat) : Int)) : (i + -1).toInt < n.toInt + (k : Int) := by
  rw [pred_i hn h]; omega
theorem initD {n : Int32} (hn : ¬ n < 0) : (61 - 1 : Int32).toInt < n.toInt + ((61 : Nat) : Int) := by
  have h2 := Int32.le_iff_toInt_le.mp (Int32.not_lt.mp hn)
  have h0 : (0 : Int32).toInt = 0 := rfl
  have h1 : (61 - 1 : Int32).toInt = 60 := rfl
  omega
theorem inv61 {n i : Int32} (hn : ¬ n < 0) (h : ¬ i < n) (h1 : ¬ 61 ≤ i) : ¬ 61 ≤ i + -1 := by
  rw [Int32.le_iff_toInt_le] at h1 ⊢
  rw [pred_i hn h]; omega
theorem ge0 {n i : Int32} (hn : ¬ n < 0) (h : ¬ i < n) : ¬ i < 0 := fun q => hn (Int32.lt_of_le_of_lt (Int32.not_lt.mp h) q)
theorem lt61 {b i : Int32} (h : ¬ i ≤ b) (h1 : ¬ 61 ≤ i) : ¬ 61 ≤ b := fun q => h1 (Int32.le_trans q (Int32.le_of_lt (Int32.not_le.mp h)))
def addTL (x : CaseC) (td : Int32) : Nat → Int32 → List Int32 → List Int32
  | 0, i, bf => bf
  | k + 1, i, bf => if i < (cDu x) then bf else (if (i - (cDu x)) < 0 then (addTL x td k (i + (-1)) bf) else (if i ≤ (i - (cDu x)) then (addTL x td k (i + (-1)) bf) else (if (gI bf (i - (cDu x))) = (-1) then (addTL x td k (i + (-1)) bf) else (if (cDl x) < (td + i) then (addTL x td k (i + (-1)) bf) else (addTL x td k (i + (-1)) (sI bf i (imax (gI bf i) ((gI bf (i - (cDu x))) + (cCl x)))))))))
def addT (x : CaseC) (td : Int32) (bf : List Int32) : List Int32 := addTL x td 61 (61 - 1) bf
set_option maxHeartbeats 1000000 in
set_option maxRecDepth 100000 in
theorem c_addTL {G : GT} {X : String → Heap → Prop} {H0 : Heap} {g0 : Nat → Nat} {dk fl ba : Nat} {q mq : Nat} {x : CaseC} {td : Int32} (hdu : ¬ cDu x < 0) {F : Heap → Prop} {cc ss : Nat} : ∀ (k : Nat) (i : Int32) (bf : List Int32) (H : Heap) (g : Nat → Nat), Ja G H g 28 ba 0 61 bf → Rz G H g dk 7 [.ref fl, .ref ba] → Rz G H g q 5 (cFs x mq) → Ext G [28] H0 g0 H g → i.toInt < (cDu x).toInt + ((k : Nat) : Int) → ¬ 61 ≤ i → (∀ (H1 : Heap) (g1 : Nat → Nat), Ja G H1 g1 28 ba 0 61 (addTL x td k i bf) → Ext G [28] H0 g0 H1 g1 → F H1) → V G kX3_addToTable 1 cc ss (qv F) X 8 [some (.ref dk), some (.ref q), some (.int td), some (.int i), none] [] H := by
  intro k
  induction k with
  | zero =>
    intro i bf H g hbf hdk hq E hm hi0 kk
    refine V_iload_3 dX3_addToTable_8 ?_
    refine V_aload_1 dX3_addToTable_9 ?_
    refine V_getf dX3_addToTable_10 fl_X3_52 hq.1 rfl ?_
    refine V_icmp_lt (tgt := 89) dX3_addToTable_13 (by decide) (fun c_13 => ?_) (fun c_13 => ?_)
    · exact V_retv dX3_addToTable_89 rfl (by rw [addTL] at kk; exact kk H g hbf E)
    · exact absurd (loop_endD hm) c_13
  | succ k ih =>
    intro i bf H g hbf hdk hq E hm hi0 kk
    refine V_iload_3 dX3_addToTable_8 ?_
    refine V_aload_1 dX3_addToTable_9 ?_
    refine V_getf dX3_addToTable_10 fl_X3_52 hq.1 rfl ?_
    refine V_icmp_lt (tgt := 89) dX3_addToTable_13 (by decide) (fun c_13 => ?_) (fun c_13 => ?_)
    · exact V_retv dX3_addToTable_89 rfl (by rw [addTL, if_pos c_13] at kk; exact kk H g hbf E)
    · refine V_iload_3 dX3_addToTable_16 ?_
      refine V_aload_1 dX3_addToTable_17 ?_
      refine V_getf dX3_addToTable_18 fl_X3_52 hq.1 rfl ?_
      refine V_isub dX3_addToTable_21 ?_
      refine V_istore_4 dX3_addToTable_22 rfl ?_
      refine V_iload_4 dX3_addToTable_24 ?_
      refine V_if_lt (tgt := 83) dX3_addToTable_26 (by decide) (fun c_26 => ?_) (fun c_26 => ?_)
      · refine V_iinc_3 (v := (-1)) dX3_addToTable_83 rfl rfl ?_
        refine V_goto (tgt := 8) dX3_addToTable_86 (by decide) ?_
        refine V_drop 4 rfl ?_
        exact ih _ _ H g hbf hdk hq E (loop_stepD hdu c_13 hm) (inv61 hdu c_13 hi0) (by rw [addTL, if_neg c_13, if_pos c_26] at kk; exact kk)
      · refine V_iload_4 dX3_addToTable_29 ?_
        refine V_iload_3 dX3_addToTable_31 ?_
        refine V_icmp_ge (tgt := 83) dX3_addToTable_32 (by decide) (fun c_32 => ?_) (fun c_32 => ?_)
        · refine V_iinc_3 (v := (-1)) dX3_addToTable_83 rfl rfl ?_
          refine V_goto (tgt := 8) dX3_addToTable_86 (by decide) ?_
          refine V_drop 4 rfl ?_
          exact ih _ _ H g hbf hdk hq E (loop_stepD hdu c_13 hm) (inv61 hdu c_13 hi0) (by rw [addTL, if_neg c_13, if_neg c_26, if_pos c_32] at kk; exact kk)
        · refine V_aload_0 dX3_addToTable_35 ?_
          refine V_getf dX3_addToTable_36 fl_X3_18 hdk.1 rfl ?_
          refine V_iload_4 dX3_addToTable_39 ?_
          refine V_iald (v := .int (gI bf (i - (cDu x)))) dX3_addToTable_41 hbf.1.ra (hbf.2 ▸ inR (n := 61) rfl (by decide) c_26 (lt61 c_32 hi0)) rfl ?_
          refine V_iconst (v := (-1)) dX3_addToTable_42 rfl ?_
          refine V_icmp_eq (tgt := 83) dX3_addToTable_43 (by decide) (fun c_43 => ?_) (fun c_43 => ?_)
          · refine V_iinc_3 (v := (-1)) dX3_addToTable_83 rfl rfl ?_
            refine V_goto (tgt := 8) dX3_addToTable_86 (by decide) ?_
            refine V_drop 4 rfl ?_
            exact ih _ _ H g hbf hdk hq E (loop_stepD hdu c_13 hm) (inv61 hdu c_13 hi0) (by rw [addTL, if_neg c_13, if_neg c_26, if_neg c_32, if_pos c_43] at kk; exact kk)
          · refine V_iload_2 dX3_addToTable_46 ?_
            refine V_iload_3 dX3_addToTable_47 ?_
            refine V_iadd dX3_addToTable_48 ?_
            refine V_aload_1 dX3_addToTable_49 ?_
            refine V_getf dX3_addToTable_50 fl_X3_55 hq.1 rfl ?_
            refine V_icmp_gt (tgt := 83) dX3_addToTable_53 (by decide) (fun c_53 => ?_) (fun c_53 => ?_)
            · refine V_iinc_3 (v := (-1)) dX3_addToTable_83 rfl rfl ?_
              refine V_goto (tgt := 8) dX3_addToTable_86 (by decide) ?_
              refine V_drop 4 rfl ?_
              exact ih _ _ H g hbf hdk hq E (loop_stepD hdu c_13 hm) (inv61 hdu c_13 hi0) (by rw [addTL, if_neg c_13, if_neg c_26, if_neg c_32, if_neg c_43, if_pos c_53] at kk; exact kk)
            · refine V_aload_0 dX3_addToTable_56 ?_
              refine V_getf dX3_addToTable_57 fl_X3_18 hdk.1 rfl ?_
              refine V_iload_3 dX3_addToTable_60 ?_
              refine V_aload_0 dX3_addToTable_61 ?_
              refine V_getf dX3_addToTable_62 fl_X3_18 hdk.1 rfl ?_
              refine V_iload_3 dX3_addToTable_65 ?_
              refine V_iald (v := .int (gI bf i)) dX3_addToTable_66 hbf.1.ra (hbf.2 ▸ inR (n := 61) rfl (by decide) (ge0 hdu c_13) hi0) rfl ?_
              refine V_aload_0 dX3_addToTable_67 ?_
              refine V_getf dX3_addToTable_68 fl_X3_18 hdk.1 rfl ?_
              refine V_iload_4 dX3_addToTable_71 ?_
              refine V_iald (v := .int (gI bf (i - (cDu x)))) dX3_addToTable_73 hbf.1.ra (hbf.2 ▸ inR (n := 61) rfl (by decide) c_26 (lt61 c_32 hi0)) rfl ?_
              refine V_aload_1 dX3_addToTable_74 ?_
              refine V_getf dX3_addToTable_75 fl_X3_58 hq.1 rfl ?_
              refine V_iadd dX3_addToTable_78 ?_
              refine V_mmax dX3_addToTable_79 ml_X3_46 ex_maxS ex_mth ex_maxC (Nat.le_of_ble_eq_true rfl) (Nat.le_of_ble_eq_true rfl) ?_
              refine V_ias dX3_addToTable_82 hbf.1 (by decide) (hbf.2 ▸ inR (n := 61) rfl (by decide) (ge0 hdu c_13) hi0) fun H1 hnew e1 z1 => ?_
              have hj : Ja G H1 g 28 ba 0 61 (sI bf i (imax (gI bf i) ((gI bf (i - (cDu x))) + (cCl x)))) := ⟨hnew, sI_len.trans hbf.2⟩
              replace hdk := hdk.fr e1 (by decide)
              replace hq := hq.fr e1 (by decide)
              replace E := E.trans (e1.wide (by decide))
              replace hbf := hj
              clear hj hnew
              refine V_iinc_3 (v := (-1)) dX3_addToTable_83 rfl rfl ?_
              refine V_goto (tgt := 8) dX3_addToTable_86 (by decide) ?_
              refine V_drop 4 rfl ?_
              exact ih _ _ H1 g hbf hdk hq E (loop_stepD hdu c_13 hm) (inv61 hdu c_13 hi0) (by rw [addTL, if_neg c_13, if_neg c_26, if_neg c_32, if_neg c_43, if_neg c_53] at kk; exact kk)
set_option maxHeartbeats 1000000 in
set_option maxRecDepth 100000 in
theorem c_addT {G : GT} {X : String → Heap → Prop} {H : Heap} {g : Nat → Nat} {dk fl ba : Nat} {q mq : Nat} {x : CaseC} {td : Int32} (hdu : ¬ cDu x < 0) {bf : List Int32} (hbf : Ja G H g 28 ba 0 61 bf) (hdk : Rz G H g dk 7 [.ref fl, .ref ba]) (hq : Rz G H g q 5 (cFs x mq)) {F : Heap → Prop} (kk : ∀ (H1 : Heap) (g1 : Nat → Nat), Ja G H1 g1 28 ba 0 61 (addT x td bf) → Ext G [28] H g H1 g1 → F H1) : Call G kX3_addToTable 1 0 0 [.ref dk, .ref q, .int td] H (qv F) X := by
  have E : Ext G [28] H g H g := Ext.rf
  refine startL (L0 := [some (.ref dk), some (.ref q), some (.int td), none, none]) rfl rfl pl_X3_addToTable (Nat.le_of_ble_eq_true rfl) ?_
  refine V_aload_0 dX3_addToTable_0 ?_
  refine V_getf dX3_addToTable_1 fl_X3_18 hdk.1 rfl ?_
  refine V_alen (v := 61) dX3_addToTable_4 hbf.1.ra (by rw [hbf.2]; rfl) ?_
  refine V_iconst (v := 1) dX3_addToTable_5 rfl ?_
  refine V_isub dX3_addToTable_6 ?_
  refine V_istore_3 dX3_addToTable_7 rfl ?_
  exact c_addTL hdu  61 (61 - 1) _ H g hbf hdk hq (Ext.rf (ts := [28])) (initD hdu) (by decide) (by rw [addT] at kk; exact fun Hz gz hbf_ ez => kk Hz gz hbf_ (E.trans ez))
def byDa (cs : List CaseC) (td : Int32) : Nat → Int32 → List CaseC → List Int32 → Int32 × List CaseC × List Int32
  | 0, i, fd, bf => (i, fd, bf)
  | k + 1, i, fd, bf => if 61 ≤ i then (i, fd, bf) else (if i = 0 then (byDa cs td k (i + 1) fd (sI bf i 0)) else (byDa cs td k (i + 1) fd (sI bf i (-1))))
def byDb (cs : List CaseC) (td : Int32) : Nat → Int32 → List CaseC → List Int32 → Int32 × List CaseC × List Int32
  | 0, i, fd, bf => (i, fd, bf)
  | k + 1, i, fd, bf => if (nI fd.length) ≤ i then (i, fd, bf) else (byDb cs td k (i + 1) fd (addT (gC fd i) td bf))
def byDc (cs : List CaseC) (td : Int32) : Nat → Int32 → Int32 → List CaseC → List Int32 → Int32 × List CaseC × List Int32
  | 0, b, i, fd, bf => (b, fd, bf)
  | k + 1, b, i, fd, bf => if 61 ≤ i then (b, fd, bf) else (byDc cs td k (imax b (gI bf i)) (i + 1) fd bf)
def byD (cs : List CaseC) (td : Int32) (fd : List CaseC) (bf : List Int32) : Int32 × List CaseC × List Int32 := byDc cs td 61 0 0 ((byDb cs td (nI ((byDa cs td 61 0 (coll cs fd) ((byDa cs td 61 0 (coll cs fd) bf).2.2)).2.1).length).toNatClampNeg 0 ((byDa cs td 61 0 (coll cs fd) bf).2.1) ((byDa cs td 61 0 (coll cs fd) bf).2.2)).2.1) ((byDb cs td (nI ((byDa cs td 61 0 (coll cs fd) ((byDa cs td 61 0 (coll cs fd) bf).2.2)).2.1).length).toNatClampNeg 0 ((byDa cs td 61 0 (coll cs fd) bf).2.1) ((byDa cs td 61 0 (coll cs fd) bf).2.2)).2.2)
set_option maxHeartbeats 1000000 in
set_option maxRecDepth 100000 in
theorem c_byDa {G : GT} {X : String → Heap → Prop} {H0 : Heap} {g0 : Nat → Nat} {dk fl ba : Nat} {bal ten : List Int32} {cs : List CaseC} {ps : List PrecC} {n ch td nx : Int32} {t a : Nat} (ht : t = 0 ∨ t = 10) (hfu : (nI cs.length).toNatClampNeg ≤ 12) {Q : Option Value → Heap → Prop} {cc ss : Nat} : ∀ (k : Nat) (i : Int32) (fd : List CaseC) (bf : List Int32) (H : Heap) (g : Nat → Nat), CL G H g 27 fl fd → Ja G H g 28 ba 0 61 bf → MS G H g t a (bal, ten, cs, ps, n, ch, td, nx) → Rz G H g dk 7 [.ref fl, .ref ba] → Ext G [27, 28] H0 g0 H g → (61 : Int32).toInt ≤ i.toInt + ((k : Nat) : Int) → ¬ i < 0 → (∀ (H1 : Heap) (g1 : Nat → Nat), CL G H1 g1 27 fl (byDa cs td k i fd bf).2.1 → Ja G H1 g1 28 ba 0 61 (byDa cs td k i fd bf).2.2 → Ext G [27, 28] H0 g0 H1 g1 → V G kX3_byDays 8 cc ss Q X 37 [some (.ref dk), some (.ref a), some (.int ((byDa cs td k i fd bf).1)), none] [] H1) → V G kX3_byDays 8 cc ss Q X 7 [some (.ref dk), some (.ref a), some (.int i), none] [] H := by
  intro k
  induction k with
  | zero =>
    intro i fd bf H g hfd hbf h hdk E hm hi0 kk
    refine V_iload_2 dX3_byDays_7 ?_
    refine V_aload_0 dX3_byDays_8 ?_
    refine V_getf dX3_byDays_9 fl_X3_18 hdk.1 rfl ?_
    refine V_alen (v := 61) dX3_byDays_12 hbf.1.ra (by rw [hbf.2]; rfl) ?_
    refine V_icmp_ge (tgt := 37) dX3_byDays_13 (by decide) (fun c_13 => ?_) (fun c_13 => ?_)
    · exact (by rw [byDa] at kk; exact kk H g hfd hbf E)
    · exact absurd (loop_end hm) c_13
  | succ k ih =>
    intro i fd bf H g hfd hbf h hdk E hm hi0 kk
    refine V_iload_2 dX3_byDays_7 ?_
    refine V_aload_0 dX3_byDays_8 ?_
    refine V_getf dX3_byDays_9 fl_X3_18 hdk.1 rfl ?_
    refine V_alen (v := 61) dX3_byDays_12 hbf.1.ra (by rw [hbf.2]; rfl) ?_
    refine V_icmp_ge (tgt := 37) dX3_byDays_13 (by decide) (fun c_13 => ?_) (fun c_13 => ?_)
    · exact (by rw [byDa, if_pos c_13] at kk; exact kk H g hfd hbf E)
    · refine V_aload_0 dX3_byDays_16 ?_
      refine V_getf dX3_byDays_17 fl_X3_18 hdk.1 rfl ?_
      refine V_iload_2 dX3_byDays_20 ?_
      refine V_iload_2 dX3_byDays_21 ?_
      refine V_if_ne (tgt := 29) dX3_byDays_22 (by decide) (fun c_22 => ?_) (fun c_22 => ?_)
      · refine V_iconst (v := (-1)) dX3_byDays_29 rfl ?_
        refine V_ias dX3_byDays_30 hbf.1 (by decide) (hbf.2 ▸ inR (n := 61) rfl (by decide) hi0 c_13) fun H1 hnew e1 z1 => ?_
        have hj : Ja G H1 g 28 ba 0 61 (sI bf i (-1)) := ⟨hnew, sI_len.trans hbf.2⟩
        replace hfd := hfd.fr e1 (by decide) (by decide)
        replace h := h.fr e1 (tk_of ht (by decide))
        replace hdk := hdk.fr e1 (by decide)
        replace E := E.trans (e1.wide (by decide))
        replace hbf := hj
        clear hj hnew
        refine V_iinc_2 (v := 1) dX3_byDays_31 rfl rfl ?_
        refine V_goto (tgt := 7) dX3_byDays_34 (by decide) ?_
        exact ih _ _ _ H1 g hfd hbf h hdk E (loop_step c_13 hm) (nn_step c_13 hi0) (by rw [byDa, if_neg c_13, if_neg c_22] at kk; exact kk)
      · refine V_iconst (v := 0) dX3_byDays_25 rfl ?_
        refine V_goto (tgt := 30) dX3_byDays_26 (by decide) ?_
        refine V_ias dX3_byDays_30 hbf.1 (by decide) (hbf.2 ▸ inR (n := 61) rfl (by decide) hi0 c_13) fun H1 hnew e1 z1 => ?_
        have hj : Ja G H1 g 28 ba 0 61 (sI bf i 0) := ⟨hnew, sI_len.trans hbf.2⟩
        replace hfd := hfd.fr e1 (by decide) (by decide)
        replace h := h.fr e1 (tk_of ht (by decide))
        replace hdk := hdk.fr e1 (by decide)
        replace E := E.trans (e1.wide (by decide))
        replace hbf := hj
        clear hj hnew
        refine V_iinc_2 (v := 1) dX3_byDays_31 rfl rfl ?_
        refine V_goto (tgt := 7) dX3_byDays_34 (by decide) ?_
        exact ih _ _ _ H1 g hfd hbf h hdk E (loop_step c_13 hm) (nn_step c_13 hi0) (by rw [byDa, if_neg c_13, if_pos c_22] at kk; exact kk)
set_option maxHeartbeats 1000000 in
set_option maxRecDepth 100000 in
theorem c_byDb {G : GT} {X : String → Heap → Prop} {H0 : Heap} {g0 : Nat → Nat} {dk fl ba : Nat} {bal ten : List Int32} {cs : List CaseC} {ps : List PrecC} {n ch td nx : Int32} {t a : Nat} (ht : t = 0 ∨ t = 10) (hfu : (nI cs.length).toNatClampNeg ≤ 12) {Q : Option Value → Heap → Prop} {cc ss : Nat} : ∀ (k : Nat) (i : Int32) (fd : List CaseC) (bf : List Int32) (H : Heap) (g : Nat → Nat), CL G H g 27 fl fd → Ja G H g 28 ba 0 61 bf → MS G H g t a (bal, ten, cs, ps, n, ch, td, nx) → Rz G H g dk 7 [.ref fl, .ref ba] → Ext G [27, 28] H0 g0 H g → (nI fd.length).toInt ≤ i.toInt + ((k : Nat) : Int) → ¬ i < 0 → (∀ (H1 : Heap) (g1 : Nat → Nat), CL G H1 g1 27 fl (byDb cs td k i fd bf).2.1 → Ja G H1 g1 28 ba 0 61 (byDb cs td k i fd bf).2.2 → Ext G [27, 28] H0 g0 H1 g1 → V G kX3_byDays 8 cc ss Q X 75 [some (.ref dk), some (.ref a), some (.int ((byDb cs td k i fd bf).1)), none] [] H1) → V G kX3_byDays 8 cc ss Q X 39 [some (.ref dk), some (.ref a), some (.int i), none] [] H := by
  intro k
  induction k with
  | zero =>
    intro i fd bf H g hfd hbf h hdk E hm hi0 kk
    refine V_iload_2 dX3_byDays_39 ?_
    refine V_aload_0 dX3_byDays_40 ?_
    refine V_getf dX3_byDays_41 fl_X3_12 hdk.1 rfl ?_
    obtain ⟨fu, hu⟩ := hfd.ro
    refine V_call_i (runV0 dX3_byDays_44 ce_Jx4a65c_size_8abf5 rfl ml_X3_26 im_Jx4a65c_size_8abf5 se_Jx4a65c_size_8abf5 hu ⟨_, rfl, rfl⟩ (Nat.le_of_ble_eq_true rfl)) (by omega) (by omega) (by omega) (c_clsize hfd ?_)
    refine V_icmp_ge (tgt := 75) dX3_byDays_47 (by decide) (fun c_47 => ?_) (fun c_47 => ?_)
    · exact (by rw [byDb] at kk; exact kk H g hfd hbf E)
    · exact absurd (loop_end hm) c_47
  | succ k ih =>
    intro i fd bf H g hfd hbf h hdk E hm hi0 kk
    refine V_iload_2 dX3_byDays_39 ?_
    refine V_aload_0 dX3_byDays_40 ?_
    refine V_getf dX3_byDays_41 fl_X3_12 hdk.1 rfl ?_
    obtain ⟨fu, hu⟩ := hfd.ro
    refine V_call_i (runV0 dX3_byDays_44 ce_Jx4a65c_size_8abf5 rfl ml_X3_26 im_Jx4a65c_size_8abf5 se_Jx4a65c_size_8abf5 hu ⟨_, rfl, rfl⟩ (Nat.le_of_ble_eq_true rfl)) (by omega) (by omega) (by omega) (c_clsize hfd ?_)
    refine V_icmp_ge (tgt := 75) dX3_byDays_47 (by decide) (fun c_47 => ?_) (fun c_47 => ?_)
    · exact (by rw [byDb, if_pos c_47] at kk; exact kk H g hfd hbf E)
    · refine V_aload_0 dX3_byDays_50 ?_
      refine V_aload_0 dX3_byDays_51 ?_
      refine V_getf dX3_byDays_52 fl_X3_12 hdk.1 rfl ?_
      refine V_iload_2 dX3_byDays_55 ?_
      obtain ⟨fu, hu⟩ := hfd.ro
      refine V_call_a (runV1 dX3_byDays_56 ce_Jx4a65c_get_915e3 rfl ml_X3_30 im_Jx4a65c_get_915e3 se_Jx4a65c_get_915e3 hu ⟨_, rfl, rfl⟩ (Nat.le_of_ble_eq_true rfl)) (by omega) (by omega) (by omega) (c_clget hfd hi0 c_47 fun r hrx => ?_)
      obtain ⟨mr, hr, hrm⟩ := hrx.md
      have hrn := hrx.nr
      clear hrm
      refine V_castS (ci := 5) dX3_byDays_59 rfl ck_X3_34 hr.1 ?_
      refine V_aload_1 dX3_byDays_62 ?_
      obtain ⟨hbl, htl, b, k0, u, v, ho, hbal, hten, hcs, hps⟩ := id h
      refine V_getf dX3_byDays_63 fl_X3_36 ho.ro rfl ?_
      refine V_call_v (runV2 dX3_byDays_66 ce_X3_addToTable rfl ml_X3_42 im_X3_addToTable se_X3_addToTable hdk.1 ⟨_, rfl, rfl⟩ (Nat.le_of_ble_eq_true rfl)) (by omega) (by omega) (by omega) (c_addT (td := td) hrn.2.2.2 hbf hdk hr fun H1 g1 hbf_ e1 => ?_)
      replace hfd := hfd.fr e1 (by decide) (by decide)
      replace h := h.fr e1 (tk_of ht (by decide))
      replace hdk := hdk.fr e1 (by decide)
      replace hr := hr.fr e1 (by decide)
      replace hrx := hrx.fr e1 (by decide)
      replace E := E.trans (e1.wide (by decide))
      replace hbf : Ja G H1 g1 28 ba 0 61 (addT (gC fd i) td bf) := hbf_
      clear hbf_
      refine V_iinc_2 (v := 1) dX3_byDays_69 rfl rfl ?_
      refine V_goto (tgt := 39) dX3_byDays_72 (by decide) ?_
      exact ih _ _ _ H1 g1 hfd hbf h hdk E (loop_step c_47 hm) (nn_step c_47 hi0) (by rw [byDb, if_neg c_47] at kk; exact kk)
set_option maxHeartbeats 1000000 in
set_option maxRecDepth 100000 in
theorem c_byDc {G : GT} {X : String → Heap → Prop} {H0 : Heap} {g0 : Nat → Nat} {dk fl ba : Nat} {bal ten : List Int32} {cs : List CaseC} {ps : List PrecC} {n ch td nx : Int32} {t a : Nat} (ht : t = 0 ∨ t = 10) (hfu : (nI cs.length).toNatClampNeg ≤ 12) {F : Int32 → Heap → Prop} {cc ss : Nat} : ∀ (k : Nat) (b : Int32) (i : Int32) (fd : List CaseC) (bf : List Int32) (H : Heap) (g : Nat → Nat), CL G H g 27 fl fd → Ja G H g 28 ba 0 61 bf → MS G H g t a (bal, ten, cs, ps, n, ch, td, nx) → Rz G H g dk 7 [.ref fl, .ref ba] → Ext G [27, 28] H0 g0 H g → (61 : Int32).toInt ≤ i.toInt + ((k : Nat) : Int) → ¬ i < 0 → (∀ (H1 : Heap) (g1 : Nat → Nat), CL G H1 g1 27 fl (byDc cs td k b i fd bf).2.1 → Ja G H1 g1 28 ba 0 61 (byDc cs td k b i fd bf).2.2 → Ext G [27, 28] H0 g0 H1 g1 → F ((byDc cs td k b i fd bf).1) H1) → V G kX3_byDays 8 cc ss (qi F) X 79 [some (.ref dk), some (.ref a), some (.int b), some (.int i)] [] H := by
  intro k
  induction k with
  | zero =>
    intro b i fd bf H g hfd hbf h hdk E hm hi0 kk
    refine V_iload_3 dX3_byDays_79 ?_
    refine V_aload_0 dX3_byDays_80 ?_
    refine V_getf dX3_byDays_81 fl_X3_18 hdk.1 rfl ?_
    refine V_alen (v := 61) dX3_byDays_84 hbf.1.ra (by rw [hbf.2]; rfl) ?_
    refine V_icmp_ge (tgt := 105) dX3_byDays_85 (by decide) (fun c_85 => ?_) (fun c_85 => ?_)
    · refine V_iload_2 dX3_byDays_105 ?_
      exact V_reti dX3_byDays_106 rfl rfl (by rw [byDc] at kk; exact kk H g hfd hbf E)
    · exact absurd (loop_end hm) c_85
  | succ k ih =>
    intro b i fd bf H g hfd hbf h hdk E hm hi0 kk
    refine V_iload_3 dX3_byDays_79 ?_
    refine V_aload_0 dX3_byDays_80 ?_
    refine V_getf dX3_byDays_81 fl_X3_18 hdk.1 rfl ?_
    refine V_alen (v := 61) dX3_byDays_84 hbf.1.ra (by rw [hbf.2]; rfl) ?_
    refine V_icmp_ge (tgt := 105) dX3_byDays_85 (by decide) (fun c_85 => ?_) (fun c_85 => ?_)
    · refine V_iload_2 dX3_byDays_105 ?_
      exact V_reti dX3_byDays_106 rfl rfl (by rw [byDc, if_pos c_85] at kk; exact kk H g hfd hbf E)
    · refine V_iload_2 dX3_byDays_88 ?_
      refine V_aload_0 dX3_byDays_89 ?_
      refine V_getf dX3_byDays_90 fl_X3_18 hdk.1 rfl ?_
      refine V_iload_3 dX3_byDays_93 ?_
      refine V_iald (v := .int (gI bf i)) dX3_byDays_94 hbf.1.ra (hbf.2 ▸ inR (n := 61) rfl (by decide) hi0 c_85) rfl ?_
      refine V_mmax dX3_byDays_95 ml_X3_46 ex_maxS ex_mth ex_maxC (Nat.le_of_ble_eq_true rfl) (Nat.le_of_ble_eq_true rfl) ?_
      refine V_istore_2 dX3_byDays_98 rfl ?_
      refine V_iinc_3 (v := 1) dX3_byDays_99 rfl rfl ?_
      refine V_goto (tgt := 79) dX3_byDays_102 (by decide) ?_
      exact ih _ _ _ _ H g hfd hbf h hdk E (loop_step c_85 hm) (nn_step c_85 hi0) (by rw [byDc, if_neg c_85] at kk; exact kk)
set_option maxHeartbeats 1000000 in
set_option maxRecDepth 100000 in
theorem c_byD {G : GT} {X : String → Heap → Prop} {H : Heap} {g : Nat → Nat} {dk fl ba : Nat} {bal ten : List Int32} {cs : List CaseC} {ps : List PrecC} {n ch td nx : Int32} {t a : Nat} (ht : t = 0 ∨ t = 10) (hfu : (nI cs.length).toNatClampNeg ≤ 12) {fd : List CaseC} {bf : List Int32} (hfd : CL G H g 27 fl fd) (hbf : Ja G H g 28 ba 0 61 bf) (h : MS G H g t a (bal, ten, cs, ps, n, ch, td, nx)) (hdk : Rz G H g dk 7 [.ref fl, .ref ba]) {F : Int32 → Heap → Prop} (kk : ∀ (H1 : Heap) (g1 : Nat → Nat), CL G H1 g1 27 fl (byD cs td fd bf).2.1 → Ja G H1 g1 28 ba 0 61 (byD cs td fd bf).2.2 → Ext G [27, 28] H g H1 g1 → F ((byD cs td fd bf).1) H1) : Call G kX3_byDays 8 12 732 [.ref dk, .ref a] H (qi F) X := by
  have E : Ext G [27, 28] H g H g := Ext.rf
  refine startL (L0 := [some (.ref dk), some (.ref a), none, none]) rfl rfl pl_X3_byDays (Nat.le_of_ble_eq_true rfl) ?_
  refine V_aload_0 dX3_byDays_0 ?_
  refine V_aload_1 dX3_byDays_1 ?_
  refine V_call_v (runV1 dX3_byDays_2 ce_X3_collectFiled rfl ml_X3_22 im_X3_collectFiled se_X3_collectFiled hdk.1 ⟨_, rfl, rfl⟩ (Nat.le_of_ble_eq_true rfl)) (by omega) (by omega) (by omega) (c_coll ht hfu hfd h hdk fun H1 g1 hfd_ e1 => ?_)
  replace hbf := hbf.fr e1 (by decide)
  replace h := h.fr e1 (tk_of ht (by decide))
  replace hdk := hdk.fr e1 (by decide)
  replace E := E.trans (e1.wide (by decide))
  replace hfd : CL G H1 g1 27 fl (coll cs fd) := hfd_
  clear hfd_
  refine V_iconst (v := 0) dX3_byDays_5 rfl ?_
  refine V_istore_2 dX3_byDays_6 rfl ?_
  refine c_byDa ht hfu  61 0 _ _ H1 g1 hfd hbf h hdk (Ext.rf (ts := [27, 28])) (by decide) (by decide) fun H2 g2 hfd_ hbf_ e2 => ?_
  refine V_drop 2 rfl ?_
  replace h := h.fr e2 (tk_of ht (by decide))
  replace hdk := hdk.fr e2 (by decide)
  replace E := E.trans (e2.wide (by decide))
  replace hfd := hfd_
  clear hfd_
  replace hbf := hbf_
  clear hbf_
  refine V_iconst (v := 0) dX3_byDays_37 rfl ?_
  refine V_istore_2 dX3_byDays_38 rfl ?_
  refine c_byDb ht hfu  (nI ((byDa cs td 61 0 (coll cs fd) ((byDa cs td 61 0 (coll cs fd) bf).2.2)).2.1).length).toNatClampNeg 0 _ _ H2 g2 hfd hbf h hdk (Ext.rf (ts := [27, 28])) loop_init (by decide) fun H3 g3 hfd_ hbf_ e3 => ?_
  refine V_drop 2 rfl ?_
  replace h := h.fr e3 (tk_of ht (by decide))
  replace hdk := hdk.fr e3 (by decide)
  replace E := E.trans (e3.wide (by decide))
  replace hfd := hfd_
  clear hfd_
  replace hbf := hbf_
  clear hbf_
  refine V_iconst (v := 0) dX3_byDays_75 rfl ?_
  refine V_istore_2 dX3_byDays_76 rfl ?_
  refine V_iconst (v := 0) dX3_byDays_77 rfl ?_
  refine V_istore_3 dX3_byDays_78 rfl ?_
  exact c_byDc ht hfu  61 0 0 _ _ H3 g3 hfd hbf h hdk (Ext.rf (ts := [27, 28])) (by decide) (by decide) (by rw [byD] at kk; exact fun Hz gz hfd_ hbf_ ez => kk Hz gz hfd_ hbf_ (E.trans ez))

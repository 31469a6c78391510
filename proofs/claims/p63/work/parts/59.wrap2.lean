set_option maxHeartbeats 1000000 in
set_option maxRecDepth 100000 in
theorem c_lAdd {G : GT} {X : String → Heap → Prop} {H : Heap} {g : Nat → Nat} {o : Nat} {R : RgC} (hR : RG G H g o R) (hok : okS R.1) (hea : (rgE R).length ≤ 8) (hfa : ∀ E : String, flt (qEnt R.1).1 = some E → E = "java/lang/IllegalStateException") {F : Int32 → Heap → Prop} (kk : flt (qEnt R.1).1 = none → ∀ (H1 : Heap) (g1 : Nat → Nat), RG G H1 g1 o (accR R (qEnt R.1).2 (rgK R)) → Ext G tsA H g H1 g1 → F (qEnt R.1).1 H1) (kx : ∀ (E : String) (v : Int32), flt (qEnt R.1).1 = some E → (E, v) ∈ ([("java/lang/IllegalStateException", (-1001 : Int32))] : List (String × Int32)) → ∀ (H1 : Heap) (g1 : Nat → Nat), RG G H1 g1 o (R) → Ext G tsA H g H1 g1 → F v H1) : Call G kL_addButton 12 39 2105 [.ref o] H (qi F) X := by
  refine startLH (L0 := [some (.ref o), none]) rfl rfl pl_L_addButton (Nat.le_of_ble_eq_true rfl) ?_
  obtain ⟨fo, hfo⟩ := hR.o
  refine V_aload_0 dL_addButton_0 ?_
  refine V_call_i (runV0 dL_addButton_1 ce_X12_addButton rfl ml_L_7 im_X12_addButton se_X12_addButton hfo ⟨_, rfl, rfl⟩ (Nat.le_of_ble_eq_true rfl)) (by omega) (by omega) (by omega) (c_fAdd hR hok hea (fun hf H1 g1 hR1 e1 => ?_) (fun eE hE H1 g1 hR1 e1 => ?_))
  · skip
    exact V_reti dL_addButton_4 rfl rfl (kk hf H1 g1 hR1 e1)
  · skip
    obtain rfl := hfa eE hE
    refine VX_catch [] (0, 4, 5, 13) [] rfl (fun z hz => absurd hz List.not_mem_nil) (by decide) (by decide) ckL_13 cas_13 (fun eq => ?_)
    refine V_astore_1 dL_addButton_5 rfl ?_
    refine V_sipush (v := (-1001)) dL_addButton_6 (by decide) ?_
    exact V_reti dL_addButton_9 rfl rfl (kx _ _ hE (by simp) H1 g1 hR1 e1)
set_option maxHeartbeats 1000000 in
set_option maxRecDepth 100000 in
theorem c_lBond {G : GT} {X : String → Heap → Prop} {H : Heap} {g : Nat → Nat} {o : Nat} {R : RgC} {x : Int32} {y : Int32} {z : Int32} (hR : RG G H g o R) (hok : okS R.1) (hea : (rgE R).length ≤ 8) (hfa : ∀ E : String, flt (qJoin x y z R.1).1 = some E → E = "java/lang/IndexOutOfBoundsException" ∨ E = "java/lang/IllegalArgumentException") {F : Int32 → Heap → Prop} (kk : flt (qJoin x y z R.1).1 = none → ∀ (H1 : Heap) (g1 : Nat → Nat), RG G H1 g1 o (accR R (qJoin x y z R.1).2 (rgK R)) → Ext G tsA H g H1 g1 → F (qJoin x y z R.1).1 H1) (kx : ∀ (E : String) (v : Int32), flt (qJoin x y z R.1).1 = some E → (E, v) ∈ ([("java/lang/IndexOutOfBoundsException", (-1001 : Int32)), ("java/lang/IllegalArgumentException", (-1002 : Int32))] : List (String × Int32)) → ∀ (H1 : Heap) (g1 : Nat → Nat), RG G H1 g1 o (R) → Ext G tsA H g H1 g1 → F v H1) : Call G kL_setBond 12 39 2105 [.ref o, .int x, .int y, .int z] H (qi F) X := by
  refine startLH (L0 := [some (.ref o), some (.int x), some (.int y), some (.int z), none]) rfl rfl pl_L_setBond (Nat.le_of_ble_eq_true rfl) ?_
  obtain ⟨fo, hfo⟩ := hR.o
  refine V_aload_0 dL_setBond_0 ?_
  refine V_iload_1 dL_setBond_1 ?_
  refine V_iload_2 dL_setBond_2 ?_
  refine V_iload_3 dL_setBond_3 ?_
  refine V_call_i (runV3 dL_setBond_4 ce_X12_setBond rfl ml_L_15 im_X12_setBond se_X12_setBond hfo ⟨_, rfl, rfl⟩ (Nat.le_of_ble_eq_true rfl)) (by omega) (by omega) (by omega) (c_fBond hR hok hea (fun hf H1 g1 hR1 e1 => ?_) (fun eE hE H1 g1 hR1 e1 => ?_))
  · skip
    exact V_reti dL_setBond_7 rfl rfl (kk hf H1 g1 hR1 e1)
  · skip
    rcases hfa eE hE with rfl | rfl
    · refine VX_catch [] (0, 7, 8, 19) [(0, 7, 14, 21)] rfl (fun z hz => absurd hz List.not_mem_nil) (by decide) (by decide) ckL_19 cas_19 (fun eq => ?_)
      refine V_astore_4 dL_setBond_8 rfl ?_
      refine V_sipush (v := (-1001)) dL_setBond_10 (by decide) ?_
      exact V_reti dL_setBond_13 rfl rfl (kx _ _ hE (by simp) H1 g1 hR1 e1)
    · refine VX_catch [(0, 7, 8, 19)] (0, 7, 14, 21) [] rfl (List.forall_mem_cons.mpr ⟨⟨by decide, _, ckL_19, by decide +kernel⟩, (fun z hz => absurd hz List.not_mem_nil)⟩) (by decide) (by decide) ckL_21 cas_21 (fun eq => ?_)
      refine V_astore_4 dL_setBond_14 rfl ?_
      refine V_sipush (v := (-1002)) dL_setBond_16 (by decide) ?_
      exact V_reti dL_setBond_19 rfl rfl (kx _ _ hE (by simp) H1 g1 hR1 e1)
set_option maxHeartbeats 1000000 in
set_option maxRecDepth 100000 in
theorem c_lCut {G : GT} {X : String → Heap → Prop} {H : Heap} {g : Nat → Nat} {o : Nat} {R : RgC} {x : Int32} {y : Int32} (hR : RG G H g o R) (hok : okS R.1) (hea : (rgE R).length ≤ 8) (hfa : ∀ E : String, flt (qSep x y R.1).1 = some E → E = "java/lang/IndexOutOfBoundsException" ∨ E = "java/util/NoSuchElementException") {F : Int32 → Heap → Prop} (kk : flt (qSep x y R.1).1 = none → ∀ (H1 : Heap) (g1 : Nat → Nat), RG G H1 g1 o (accR R (qSep x y R.1).2 (rgK R)) → Ext G tsA H g H1 g1 → F (qSep x y R.1).1 H1) (kx : ∀ (E : String) (v : Int32), flt (qSep x y R.1).1 = some E → (E, v) ∈ ([("java/lang/IndexOutOfBoundsException", (-1001 : Int32)), ("java/util/NoSuchElementException", (-1002 : Int32))] : List (String × Int32)) → ∀ (H1 : Heap) (g1 : Nat → Nat), RG G H1 g1 o (R) → Ext G tsA H g H1 g1 → F v H1) : Call G kL_cutBond 12 39 2105 [.ref o, .int x, .int y] H (qi F) X := by
  refine startLH (L0 := [some (.ref o), some (.int x), some (.int y), none]) rfl rfl pl_L_cutBond (Nat.le_of_ble_eq_true rfl) ?_
  obtain ⟨fo, hfo⟩ := hR.o
  refine V_aload_0 dL_cutBond_0 ?_
  refine V_iload_1 dL_cutBond_1 ?_
  refine V_iload_2 dL_cutBond_2 ?_
  refine V_call_i (runV2 dL_cutBond_3 ce_X12_cutBond rfl ml_L_23 im_X12_cutBond se_X12_cutBond hfo ⟨_, rfl, rfl⟩ (Nat.le_of_ble_eq_true rfl)) (by omega) (by omega) (by omega) (c_fCut hR hok hea (fun hf H1 g1 hR1 e1 => ?_) (fun eE hE H1 g1 hR1 e1 => ?_))
  · skip
    exact V_reti dL_cutBond_6 rfl rfl (kk hf H1 g1 hR1 e1)
  · skip
    rcases hfa eE hE with rfl | rfl
    · refine VX_catch [] (0, 6, 7, 19) [(0, 6, 12, 27)] rfl (fun z hz => absurd hz List.not_mem_nil) (by decide) (by decide) ckL_19 cas_19 (fun eq => ?_)
      refine V_astore_3 dL_cutBond_7 rfl ?_
      refine V_sipush (v := (-1001)) dL_cutBond_8 (by decide) ?_
      exact V_reti dL_cutBond_11 rfl rfl (kx _ _ hE (by simp) H1 g1 hR1 e1)
    · refine VX_catch [(0, 6, 7, 19)] (0, 6, 12, 27) [] rfl (List.forall_mem_cons.mpr ⟨⟨by decide, _, ckL_19, by decide +kernel⟩, (fun z hz => absurd hz List.not_mem_nil)⟩) (by decide) (by decide) ckL_27 cas_27 (fun eq => ?_)
      refine V_astore_3 dL_cutBond_12 rfl ?_
      refine V_sipush (v := (-1002)) dL_cutBond_13 (by decide) ?_
      exact V_reti dL_cutBond_16 rfl rfl (kx _ _ hE (by simp) H1 g1 hR1 e1)
set_option maxHeartbeats 1000000 in
set_option maxRecDepth 100000 in
theorem c_lRule {G : GT} {X : String → Heap → Prop} {H : Heap} {g : Nat → Nat} {o : Nat} {R : RgC} {x : Int32} (hR : RG G H g o R) (hok : okS R.1) (hea : (rgE R).length ≤ 8) (hwd : (rgW R).length ≤ 8) (hfa : ∀ E : String, flt (qRule x (rgW R) R.1).1 = some E → E = "java/lang/IllegalArgumentException" ∨ E = "java/lang/IllegalStateException" ∨ E = "java/lang/UnsupportedOperationException") {F : Int32 → Heap → Prop} (kk : flt (qRule x (rgW R) R.1).1 = none → ∀ (H1 : Heap) (g1 : Nat → Nat), RG G H1 g1 o (setW (accR R (qRule x (rgW R) R.1).2 (rgK R)) []) → Ext G tsA H g H1 g1 → F (qRule x (rgW R) R.1).1 H1) (kx : ∀ (E : String) (v : Int32), flt (qRule x (rgW R) R.1).1 = some E → (E, v) ∈ ([("java/lang/IllegalArgumentException", (-1001 : Int32)), ("java/lang/IllegalStateException", (-1002 : Int32)), ("java/lang/UnsupportedOperationException", (-1003 : Int32))] : List (String × Int32)) → ∀ (H1 : Heap) (g1 : Nat → Nat), RG G H1 g1 o (R) → Ext G tsA H g H1 g1 → F v H1) : Call G kL_addPrecedent 12 43 2314 [.ref o, .int x] H (qi F) X := by
  refine startLH (L0 := [some (.ref o), some (.int x), none]) rfl rfl pl_L_addPrecedent (Nat.le_of_ble_eq_true rfl) ?_
  obtain ⟨fo, hfo⟩ := hR.o
  refine V_aload_0 dL_addPrecedent_0 ?_
  refine V_iload_1 dL_addPrecedent_1 ?_
  refine V_call_i (runV1 dL_addPrecedent_2 ce_X12_addPrecedent rfl ml_L_33 im_X12_addPrecedent se_X12_addPrecedent hfo ⟨_, rfl, rfl⟩ (Nat.le_of_ble_eq_true rfl)) (by omega) (by omega) (by omega) (c_fRule hR hok hea hwd (fun hf H1 g1 hR1 e1 => ?_) (fun eE hE H1 g1 hR1 e1 => ?_))
  · skip
    exact V_reti dL_addPrecedent_5 rfl rfl (kk hf H1 g1 hR1 e1)
  · skip
    rcases hfa eE hE with rfl | rfl | rfl
    · refine VX_catch [] (0, 5, 6, 21) [(0, 5, 11, 13), (0, 5, 16, 37)] rfl (fun z hz => absurd hz List.not_mem_nil) (by decide) (by decide) ckL_21 cas_21 (fun eq => ?_)
      refine V_astore_2 dL_addPrecedent_6 rfl ?_
      refine V_sipush (v := (-1001)) dL_addPrecedent_7 (by decide) ?_
      exact V_reti dL_addPrecedent_10 rfl rfl (kx _ _ hE (by simp) H1 g1 hR1 e1)
    · refine VX_catch [(0, 5, 6, 21)] (0, 5, 11, 13) [(0, 5, 16, 37)] rfl (List.forall_mem_cons.mpr ⟨⟨by decide, _, ckL_21, by decide +kernel⟩, (fun z hz => absurd hz List.not_mem_nil)⟩) (by decide) (by decide) ckL_13 cas_13 (fun eq => ?_)
      refine V_astore_2 dL_addPrecedent_11 rfl ?_
      refine V_sipush (v := (-1002)) dL_addPrecedent_12 (by decide) ?_
      exact V_reti dL_addPrecedent_15 rfl rfl (kx _ _ hE (by simp) H1 g1 hR1 e1)
    · refine VX_catch [(0, 5, 6, 21), (0, 5, 11, 13)] (0, 5, 16, 37) [] rfl (List.forall_mem_cons.mpr ⟨⟨by decide, _, ckL_21, by decide +kernel⟩, (List.forall_mem_cons.mpr ⟨⟨by decide, _, ckL_13, by decide +kernel⟩, (fun z hz => absurd hz List.not_mem_nil)⟩)⟩) (by decide) (by decide) ckL_37 cas_37 (fun eq => ?_)
      refine V_astore_2 dL_addPrecedent_16 rfl ?_
      refine V_sipush (v := (-1003)) dL_addPrecedent_17 (by decide) ?_
      exact V_reti dL_addPrecedent_20 rfl rfl (kx _ _ hE (by simp) H1 g1 hR1 e1)
set_option maxHeartbeats 1000000 in
set_option maxRecDepth 100000 in
theorem c_lFile {G : GT} {X : String → Heap → Prop} {H : Heap} {g : Nat → Nat} {o : Nat} {R : RgC} {x1 : Int32} {x2 : Int32} {x3 : Int32} {x4 : Int32} {x5 : Int32} (hR : RG G H g o R) (hok : okS R.1) (hea : (rgE R).length ≤ 8) (hwd : (rgW R).length ≤ 8) (hfa : ∀ E : String, flt (qFile x1 x2 x3 x4 x5 (rgW R) R.1).1 = some E → E = "java/lang/IndexOutOfBoundsException" ∨ E = "java/lang/IllegalArgumentException" ∨ E = "java/lang/IllegalStateException" ∨ E = "java/lang/UnsupportedOperationException") {F : Int32 → Heap → Prop} (kk : flt (qFile x1 x2 x3 x4 x5 (rgW R) R.1).1 = none → ∀ (H1 : Heap) (g1 : Nat → Nat), RG G H1 g1 o (setW (accR R (qFile x1 x2 x3 x4 x5 (rgW R) R.1).2 (rgK R)) []) → Ext G tsA H g H1 g1 → F (qFile x1 x2 x3 x4 x5 (rgW R) R.1).1 H1) (kx : ∀ (E : String) (v : Int32), flt (qFile x1 x2 x3 x4 x5 (rgW R) R.1).1 = some E → (E, v) ∈ ([("java/lang/IndexOutOfBoundsException", (-1001 : Int32)), ("java/lang/IllegalArgumentException", (-1002 : Int32)), ("java/lang/IllegalStateException", (-1003 : Int32)), ("java/lang/UnsupportedOperationException", (-1004 : Int32))] : List (String × Int32)) → ∀ (H1 : Heap) (g1 : Nat → Nat), RG G H1 g1 o (R) → Ext G tsA H g H1 g1 → F v H1) : Call G kL_fileCase 12 43 2326 [.ref o, .int x1, .int x2, .int x3, .int x4, .int x5] H (qi F) X := by
  refine startLH (L0 := [some (.ref o), some (.int x1), some (.int x2), some (.int x3), some (.int x4), some (.int x5), none]) rfl rfl pl_L_fileCase (Nat.le_of_ble_eq_true rfl) ?_
  obtain ⟨fo, hfo⟩ := hR.o
  refine V_aload_0 dL_fileCase_0 ?_
  refine V_iload_1 dL_fileCase_1 ?_
  refine V_iload_2 dL_fileCase_2 ?_
  refine V_iload_3 dL_fileCase_3 ?_
  refine V_iload_4 dL_fileCase_4 ?_
  refine V_iload_5 dL_fileCase_6 ?_
  refine V_call_i (runV5 dL_fileCase_8 ce_X12_fileCase rfl ml_L_39 im_X12_fileCase se_X12_fileCase hfo ⟨_, rfl, rfl⟩ (Nat.le_of_ble_eq_true rfl)) (by omega) (by omega) (by omega) (c_fFile hR hok hea hwd (fun hf H1 g1 hR1 e1 => ?_) (fun eE hE H1 g1 hR1 e1 => ?_))
  · skip
    exact V_reti dL_fileCase_11 rfl rfl (kk hf H1 g1 hR1 e1)
  · skip
    rcases hfa eE hE with rfl | rfl | rfl | rfl
    · refine VX_catch [] (0, 11, 12, 19) [(0, 11, 18, 21), (0, 11, 24, 13), (0, 11, 30, 37)] rfl (fun z hz => absurd hz List.not_mem_nil) (by decide) (by decide) ckL_19 cas_19 (fun eq => ?_)
      refine V_astore_6 dL_fileCase_12 rfl ?_
      refine V_sipush (v := (-1001)) dL_fileCase_14 (by decide) ?_
      exact V_reti dL_fileCase_17 rfl rfl (kx _ _ hE (by simp) H1 g1 hR1 e1)
    · refine VX_catch [(0, 11, 12, 19)] (0, 11, 18, 21) [(0, 11, 24, 13), (0, 11, 30, 37)] rfl (List.forall_mem_cons.mpr ⟨⟨by decide, _, ckL_19, by decide +kernel⟩, (fun z hz => absurd hz List.not_mem_nil)⟩) (by decide) (by decide) ckL_21 cas_21 (fun eq => ?_)
      refine V_astore_6 dL_fileCase_18 rfl ?_
      refine V_sipush (v := (-1002)) dL_fileCase_20 (by decide) ?_
      exact V_reti dL_fileCase_23 rfl rfl (kx _ _ hE (by simp) H1 g1 hR1 e1)
    · refine VX_catch [(0, 11, 12, 19), (0, 11, 18, 21)] (0, 11, 24, 13) [(0, 11, 30, 37)] rfl (List.forall_mem_cons.mpr ⟨⟨by decide, _, ckL_19, by decide +kernel⟩, (List.forall_mem_cons.mpr ⟨⟨by decide, _, ckL_21, by decide +kernel⟩, (fun z hz => absurd hz List.not_mem_nil)⟩)⟩) (by decide) (by decide) ckL_13 cas_13 (fun eq => ?_)
      refine V_astore_6 dL_fileCase_24 rfl ?_
      refine V_sipush (v := (-1003)) dL_fileCase_26 (by decide) ?_
      exact V_reti dL_fileCase_29 rfl rfl (kx _ _ hE (by simp) H1 g1 hR1 e1)
    · refine VX_catch [(0, 11, 12, 19), (0, 11, 18, 21), (0, 11, 24, 13)] (0, 11, 30, 37) [] rfl (List.forall_mem_cons.mpr ⟨⟨by decide, _, ckL_19, by decide +kernel⟩, (List.forall_mem_cons.mpr ⟨⟨by decide, _, ckL_21, by decide +kernel⟩, (List.forall_mem_cons.mpr ⟨⟨by decide, _, ckL_13, by decide +kernel⟩, (fun z hz => absurd hz List.not_mem_nil)⟩)⟩)⟩) (by decide) (by decide) ckL_37 cas_37 (fun eq => ?_)
      refine V_astore_6 dL_fileCase_30 rfl ?_
      refine V_sipush (v := (-1004)) dL_fileCase_32 (by decide) ?_
      exact V_reti dL_fileCase_35 rfl rfl (kx _ _ hE (by simp) H1 g1 hR1 e1)
set_option maxHeartbeats 1000000 in
set_option maxRecDepth 100000 in
theorem c_lHear {G : GT} {X : String → Heap → Prop} {H : Heap} {g : Nat → Nat} {o : Nat} {R : RgC} {x : Int32} (hR : RG G H g o R) (hok : okS R.1) (hea : (rgE R).length ≤ 8) (hfa : ∀ E : String, flt (qHear x R.1 (rgK R)).1 = some E → E = "java/util/NoSuchElementException" ∨ E = "java/lang/IllegalStateException" ∨ E = "java/lang/UnsupportedOperationException") {F : Int32 → Heap → Prop} (kk : flt (qHear x R.1 (rgK R)).1 = none → ∀ (H1 : Heap) (g1 : Nat → Nat), RG G H1 g1 o (accR R (qHear x R.1 (rgK R)).2.1 (qHear x R.1 (rgK R)).2.2) → Ext G tsA H g H1 g1 → F (qHear x R.1 (rgK R)).1 H1) (kx : ∀ (E : String) (v : Int32), flt (qHear x R.1 (rgK R)).1 = some E → (E, v) ∈ ([("java/util/NoSuchElementException", (-1001 : Int32)), ("java/lang/IllegalStateException", (-1002 : Int32)), ("java/lang/UnsupportedOperationException", (-1003 : Int32))] : List (String × Int32)) → ∀ (H1 : Heap) (g1 : Nat → Nat), RG G H1 g1 o (setK R (qHear x R.1 (rgK R)).2.2) → Ext G tsA H g H1 g1 → F v H1) : Call G kL_hear 12 42 2182 [.ref o, .int x] H (qi F) X := by
  refine startLH (L0 := [some (.ref o), some (.int x), none]) rfl rfl pl_L_hear (Nat.le_of_ble_eq_true rfl) ?_
  obtain ⟨fo, hfo⟩ := hR.o
  refine V_aload_0 dL_hear_0 ?_
  refine V_iload_1 dL_hear_1 ?_
  refine V_call_i (runV1 dL_hear_2 ce_X12_hear rfl ml_L_43 im_X12_hear se_X12_hear hfo ⟨_, rfl, rfl⟩ (Nat.le_of_ble_eq_true rfl)) (by omega) (by omega) (by omega) (c_fHear hR hok hea (fun hf H1 g1 hR1 e1 => ?_) (fun eE hE H1 g1 hR1 e1 => ?_))
  · skip
    exact V_reti dL_hear_5 rfl rfl (kk hf H1 g1 hR1 e1)
  · skip
    rcases hfa eE hE with rfl | rfl | rfl
    · refine VX_catch [] (0, 5, 6, 27) [(0, 5, 11, 13), (0, 5, 16, 37)] rfl (fun z hz => absurd hz List.not_mem_nil) (by decide) (by decide) ckL_27 cas_27 (fun eq => ?_)
      refine V_astore_2 dL_hear_6 rfl ?_
      refine V_sipush (v := (-1001)) dL_hear_7 (by decide) ?_
      exact V_reti dL_hear_10 rfl rfl (kx _ _ hE (by simp) H1 g1 hR1 e1)
    · refine VX_catch [(0, 5, 6, 27)] (0, 5, 11, 13) [(0, 5, 16, 37)] rfl (List.forall_mem_cons.mpr ⟨⟨by decide, _, ckL_27, by decide +kernel⟩, (fun z hz => absurd hz List.not_mem_nil)⟩) (by decide) (by decide) ckL_13 cas_13 (fun eq => ?_)
      refine V_astore_2 dL_hear_11 rfl ?_
      refine V_sipush (v := (-1002)) dL_hear_12 (by decide) ?_
      exact V_reti dL_hear_15 rfl rfl (kx _ _ hE (by simp) H1 g1 hR1 e1)
    · refine VX_catch [(0, 5, 6, 27), (0, 5, 11, 13)] (0, 5, 16, 37) [] rfl (List.forall_mem_cons.mpr ⟨⟨by decide, _, ckL_27, by decide +kernel⟩, (List.forall_mem_cons.mpr ⟨⟨by decide, _, ckL_13, by decide +kernel⟩, (fun z hz => absurd hz List.not_mem_nil)⟩)⟩) (by decide) (by decide) ckL_37 cas_37 (fun eq => ?_)
      refine V_astore_2 dL_hear_16 rfl ?_
      refine V_sipush (v := (-1003)) dL_hear_17 (by decide) ?_
      exact V_reti dL_hear_20 rfl rfl (kx _ _ hE (by simp) H1 g1 hR1 e1)
set_option maxHeartbeats 1000000 in
set_option maxRecDepth 100000 in
theorem c_lApp {G : GT} {X : String → Heap → Prop} {H : Heap} {g : Nat → Nat} {o : Nat} {R : RgC} {x : Int32} (hR : RG G H g o R) (hok : okS R.1) (hea : (rgE R).length ≤ 8) (hfa : ∀ E : String, flt (qApp x R.1 (rgK R)).1 = some E → E = "java/util/NoSuchElementException" ∨ E = "java/lang/IllegalStateException" ∨ E = "java/lang/UnsupportedOperationException") {F : Int32 → Heap → Prop} (kk : flt (qApp x R.1 (rgK R)).1 = none → ∀ (H1 : Heap) (g1 : Nat → Nat), RG G H1 g1 o (accR R (qApp x R.1 (rgK R)).2.1 (qApp x R.1 (rgK R)).2.2) → Ext G tsA H g H1 g1 → F (qApp x R.1 (rgK R)).1 H1) (kx : ∀ (E : String) (v : Int32), flt (qApp x R.1 (rgK R)).1 = some E → (E, v) ∈ ([("java/util/NoSuchElementException", (-1001 : Int32)), ("java/lang/IllegalStateException", (-1002 : Int32)), ("java/lang/UnsupportedOperationException", (-1003 : Int32))] : List (String × Int32)) → ∀ (H1 : Heap) (g1 : Nat → Nat), RG G H1 g1 o (setK R (qApp x R.1 (rgK R)).2.2) → Ext G tsA H g H1 g1 → F v H1) : Call G kL_appeal 12 41 2121 [.ref o, .int x] H (qi F) X := by
  refine startLH (L0 := [some (.ref o), some (.int x), none]) rfl rfl pl_L_appeal (Nat.le_of_ble_eq_true rfl) ?_
  obtain ⟨fo, hfo⟩ := hR.o
  refine V_aload_0 dL_appeal_0 ?_
  refine V_iload_1 dL_appeal_1 ?_
  refine V_call_i (runV1 dL_appeal_2 ce_X12_appeal rfl ml_L_46 im_X12_appeal se_X12_appeal hfo ⟨_, rfl, rfl⟩ (Nat.le_of_ble_eq_true rfl)) (by omega) (by omega) (by omega) (c_fApp hR hok hea (fun hf H1 g1 hR1 e1 => ?_) (fun eE hE H1 g1 hR1 e1 => ?_))
  · skip
    exact V_reti dL_appeal_5 rfl rfl (kk hf H1 g1 hR1 e1)
  · skip
    rcases hfa eE hE with rfl | rfl | rfl
    · refine VX_catch [] (0, 5, 6, 27) [(0, 5, 11, 13), (0, 5, 16, 37)] rfl (fun z hz => absurd hz List.not_mem_nil) (by decide) (by decide) ckL_27 cas_27 (fun eq => ?_)
      refine V_astore_2 dL_appeal_6 rfl ?_
      refine V_sipush (v := (-1001)) dL_appeal_7 (by decide) ?_
      exact V_reti dL_appeal_10 rfl rfl (kx _ _ hE (by simp) H1 g1 hR1 e1)
    · refine VX_catch [(0, 5, 6, 27)] (0, 5, 11, 13) [(0, 5, 16, 37)] rfl (List.forall_mem_cons.mpr ⟨⟨by decide, _, ckL_27, by decide +kernel⟩, (fun z hz => absurd hz List.not_mem_nil)⟩) (by decide) (by decide) ckL_13 cas_13 (fun eq => ?_)
      refine V_astore_2 dL_appeal_11 rfl ?_
      refine V_sipush (v := (-1002)) dL_appeal_12 (by decide) ?_
      exact V_reti dL_appeal_15 rfl rfl (kx _ _ hE (by simp) H1 g1 hR1 e1)
    · refine VX_catch [(0, 5, 6, 27), (0, 5, 11, 13)] (0, 5, 16, 37) [] rfl (List.forall_mem_cons.mpr ⟨⟨by decide, _, ckL_27, by decide +kernel⟩, (List.forall_mem_cons.mpr ⟨⟨by decide, _, ckL_13, by decide +kernel⟩, (fun z hz => absurd hz List.not_mem_nil)⟩)⟩) (by decide) (by decide) ckL_37 cas_37 (fun eq => ?_)
      refine V_astore_2 dL_appeal_16 rfl ?_
      refine V_sipush (v := (-1003)) dL_appeal_17 (by decide) ?_
      exact V_reti dL_appeal_20 rfl rfl (kx _ _ hE (by simp) H1 g1 hR1 e1)
set_option maxHeartbeats 1000000 in
set_option maxRecDepth 100000 in
theorem c_lWith {G : GT} {X : String → Heap → Prop} {H : Heap} {g : Nat → Nat} {o : Nat} {R : RgC} {x : Int32} (hR : RG G H g o R) (hok : okS R.1) (hea : (rgE R).length ≤ 8) (hfa : ∀ E : String, flt (qWith x R.1).1 = some E → E = "java/util/NoSuchElementException" ∨ E = "java/lang/IllegalStateException") {F : Int32 → Heap → Prop} (kk : flt (qWith x R.1).1 = none → ∀ (H1 : Heap) (g1 : Nat → Nat), RG G H1 g1 o (accR R (qWith x R.1).2 (rgK R)) → Ext G tsA H g H1 g1 → F (qWith x R.1).1 H1) (kx : ∀ (E : String) (v : Int32), flt (qWith x R.1).1 = some E → (E, v) ∈ ([("java/util/NoSuchElementException", (-1001 : Int32)), ("java/lang/IllegalStateException", (-1002 : Int32))] : List (String × Int32)) → ∀ (H1 : Heap) (g1 : Nat → Nat), RG G H1 g1 o (R) → Ext G tsA H g H1 g1 → F v H1) : Call G kL_withdraw 12 39 2105 [.ref o, .int x] H (qi F) X := by
  refine startLH (L0 := [some (.ref o), some (.int x), none]) rfl rfl pl_L_withdraw (Nat.le_of_ble_eq_true rfl) ?_
  obtain ⟨fo, hfo⟩ := hR.o
  refine V_aload_0 dL_withdraw_0 ?_
  refine V_iload_1 dL_withdraw_1 ?_
  refine V_call_i (runV1 dL_withdraw_2 ce_X12_withdraw rfl ml_L_49 im_X12_withdraw se_X12_withdraw hfo ⟨_, rfl, rfl⟩ (Nat.le_of_ble_eq_true rfl)) (by omega) (by omega) (by omega) (c_fWith hR hok hea (fun hf H1 g1 hR1 e1 => ?_) (fun eE hE H1 g1 hR1 e1 => ?_))
  · skip
    exact V_reti dL_withdraw_5 rfl rfl (kk hf H1 g1 hR1 e1)
  · skip
    rcases hfa eE hE with rfl | rfl
    · refine VX_catch [] (0, 5, 6, 27) [(0, 5, 11, 13)] rfl (fun z hz => absurd hz List.not_mem_nil) (by decide) (by decide) ckL_27 cas_27 (fun eq => ?_)
      refine V_astore_2 dL_withdraw_6 rfl ?_
      refine V_sipush (v := (-1001)) dL_withdraw_7 (by decide) ?_
      exact V_reti dL_withdraw_10 rfl rfl (kx _ _ hE (by simp) H1 g1 hR1 e1)
    · refine VX_catch [(0, 5, 6, 27)] (0, 5, 11, 13) [] rfl (List.forall_mem_cons.mpr ⟨⟨by decide, _, ckL_27, by decide +kernel⟩, (fun z hz => absurd hz List.not_mem_nil)⟩) (by decide) (by decide) ckL_13 cas_13 (fun eq => ?_)
      refine V_astore_2 dL_withdraw_11 rfl ?_
      refine V_sipush (v := (-1002)) dL_withdraw_12 (by decide) ?_
      exact V_reti dL_withdraw_15 rfl rfl (kx _ _ hE (by simp) H1 g1 hR1 e1)
set_option maxHeartbeats 1000000 in
set_option maxRecDepth 100000 in
theorem c_lClos {G : GT} {X : String → Heap → Prop} {H : Heap} {g : Nat → Nat} {o : Nat} {R : RgC} {x : Int32} (hR : RG G H g o R) (hok : okS R.1) (hea : (rgE R).length ≤ 8) (hfa : ∀ E : String, flt (qClose x R.1).1 = some E → E = "java/util/NoSuchElementException" ∨ E = "java/lang/IllegalStateException") {F : Int32 → Heap → Prop} (kk : flt (qClose x R.1).1 = none → ∀ (H1 : Heap) (g1 : Nat → Nat), RG G H1 g1 o (accR R (qClose x R.1).2 (rgK R)) → Ext G tsA H g H1 g1 → F (qClose x R.1).1 H1) (kx : ∀ (E : String) (v : Int32), flt (qClose x R.1).1 = some E → (E, v) ∈ ([("java/util/NoSuchElementException", (-1001 : Int32)), ("java/lang/IllegalStateException", (-1002 : Int32))] : List (String × Int32)) → ∀ (H1 : Heap) (g1 : Nat → Nat), RG G H1 g1 o (R) → Ext G tsA H g H1 g1 → F v H1) : Call G kL_close 12 39 2105 [.ref o, .int x] H (qi F) X := by
  refine startLH (L0 := [some (.ref o), some (.int x), none]) rfl rfl pl_L_close (Nat.le_of_ble_eq_true rfl) ?_
  obtain ⟨fo, hfo⟩ := hR.o
  refine V_aload_0 dL_close_0 ?_
  refine V_iload_1 dL_close_1 ?_
  refine V_call_i (runV1 dL_close_2 ce_X12_close rfl ml_L_52 im_X12_close se_X12_close hfo ⟨_, rfl, rfl⟩ (Nat.le_of_ble_eq_true rfl)) (by omega) (by omega) (by omega) (c_fClose hR hok hea (fun hf H1 g1 hR1 e1 => ?_) (fun eE hE H1 g1 hR1 e1 => ?_))
  · skip
    exact V_reti dL_close_5 rfl rfl (kk hf H1 g1 hR1 e1)
  · skip
    rcases hfa eE hE with rfl | rfl
    · refine VX_catch [] (0, 5, 6, 27) [(0, 5, 11, 13)] rfl (fun z hz => absurd hz List.not_mem_nil) (by decide) (by decide) ckL_27 cas_27 (fun eq => ?_)
      refine V_astore_2 dL_close_6 rfl ?_
      refine V_sipush (v := (-1001)) dL_close_7 (by decide) ?_
      exact V_reti dL_close_10 rfl rfl (kx _ _ hE (by simp) H1 g1 hR1 e1)
    · refine VX_catch [(0, 5, 6, 27)] (0, 5, 11, 13) [] rfl (List.forall_mem_cons.mpr ⟨⟨by decide, _, ckL_27, by decide +kernel⟩, (fun z hz => absurd hz List.not_mem_nil)⟩) (by decide) (by decide) ckL_13 cas_13 (fun eq => ?_)
      refine V_astore_2 dL_close_11 rfl ?_
      refine V_sipush (v := (-1002)) dL_close_12 (by decide) ?_
      exact V_reti dL_close_15 rfl rfl (kx _ _ hE (by simp) H1 g1 hR1 e1)
set_option maxHeartbeats 1000000 in
set_option maxRecDepth 100000 in
theorem c_lGive {G : GT} {X : String → Heap → Prop} {H : Heap} {g : Nat → Nat} {o : Nat} {R : RgC} {x : Int32} {y : Int32} {z : Int32} (hR : RG G H g o R) (hok : okS R.1) (hea : (rgE R).length ≤ 8) (hfa : ∀ E : String, flt (qGive x y z R.1).1 = some E → E = "java/lang/IndexOutOfBoundsException" ∨ E = "java/lang/IllegalArgumentException" ∨ E = "java/lang/IllegalStateException") {F : Int32 → Heap → Prop} (kk : flt (qGive x y z R.1).1 = none → ∀ (H1 : Heap) (g1 : Nat → Nat), RG G H1 g1 o (accR R (qGive x y z R.1).2 (rgK R)) → Ext G tsA H g H1 g1 → F (qGive x y z R.1).1 H1) (kx : ∀ (E : String) (v : Int32), flt (qGive x y z R.1).1 = some E → (E, v) ∈ ([("java/lang/IndexOutOfBoundsException", (-1001 : Int32)), ("java/lang/IllegalArgumentException", (-1002 : Int32)), ("java/lang/IllegalStateException", (-1003 : Int32))] : List (String × Int32)) → ∀ (H1 : Heap) (g1 : Nat → Nat), RG G H1 g1 o (R) → Ext G tsA H g H1 g1 → F v H1) : Call G kL_give 12 39 2105 [.ref o, .int x, .int y, .int z] H (qi F) X := by
  refine startLH (L0 := [some (.ref o), some (.int x), some (.int y), some (.int z), none]) rfl rfl pl_L_give (Nat.le_of_ble_eq_true rfl) ?_
  obtain ⟨fo, hfo⟩ := hR.o
  refine V_aload_0 dL_give_0 ?_
  refine V_iload_1 dL_give_1 ?_
  refine V_iload_2 dL_give_2 ?_
  refine V_iload_3 dL_give_3 ?_
  refine V_call_i (runV3 dL_give_4 ce_X12_give rfl ml_L_55 im_X12_give se_X12_give hfo ⟨_, rfl, rfl⟩ (Nat.le_of_ble_eq_true rfl)) (by omega) (by omega) (by omega) (c_fGive hR hok hea (fun hf H1 g1 hR1 e1 => ?_) (fun eE hE H1 g1 hR1 e1 => ?_))
  · skip
    exact V_reti dL_give_7 rfl rfl (kk hf H1 g1 hR1 e1)
  · skip
    rcases hfa eE hE with rfl | rfl | rfl
    · refine VX_catch [] (0, 7, 8, 19) [(0, 7, 14, 21), (0, 7, 20, 13)] rfl (fun z hz => absurd hz List.not_mem_nil) (by decide) (by decide) ckL_19 cas_19 (fun eq => ?_)
      refine V_astore_4 dL_give_8 rfl ?_
      refine V_sipush (v := (-1001)) dL_give_10 (by decide) ?_
      exact V_reti dL_give_13 rfl rfl (kx _ _ hE (by simp) H1 g1 hR1 e1)
    · refine VX_catch [(0, 7, 8, 19)] (0, 7, 14, 21) [(0, 7, 20, 13)] rfl (List.forall_mem_cons.mpr ⟨⟨by decide, _, ckL_19, by decide +kernel⟩, (fun z hz => absurd hz List.not_mem_nil)⟩) (by decide) (by decide) ckL_21 cas_21 (fun eq => ?_)
      refine V_astore_4 dL_give_14 rfl ?_
      refine V_sipush (v := (-1002)) dL_give_16 (by decide) ?_
      exact V_reti dL_give_19 rfl rfl (kx _ _ hE (by simp) H1 g1 hR1 e1)
    · refine VX_catch [(0, 7, 8, 19), (0, 7, 14, 21)] (0, 7, 20, 13) [] rfl (List.forall_mem_cons.mpr ⟨⟨by decide, _, ckL_19, by decide +kernel⟩, (List.forall_mem_cons.mpr ⟨⟨by decide, _, ckL_21, by decide +kernel⟩, (fun z hz => absurd hz List.not_mem_nil)⟩)⟩) (by decide) (by decide) ckL_13 cas_13 (fun eq => ?_)
      refine V_astore_4 dL_give_20 rfl ?_
      refine V_sipush (v := (-1003)) dL_give_22 (by decide) ?_
      exact V_reti dL_give_25 rfl rfl (kx _ _ hE (by simp) H1 g1 hR1 e1)
set_option maxHeartbeats 1000000 in
set_option maxRecDepth 100000 in
theorem c_lDays {G : GT} {X : String → Heap → Prop} {H : Heap} {g : Nat → Nat} {o : Nat} {R : RgC} {x : Int32} (hR : RG G H g o R) (hok : okS R.1) (hea : (rgE R).length ≤ 8) (hfa : ∀ E : String, flt (qDays x R.1).1 = some E → E = "java/lang/IllegalArgumentException") {F : Int32 → Heap → Prop} (kk : flt (qDays x R.1).1 = none → ∀ (H1 : Heap) (g1 : Nat → Nat), RG G H1 g1 o (accR R (qDays x R.1).2 (rgK R)) → Ext G tsA H g H1 g1 → F (qDays x R.1).1 H1) (kx : ∀ (E : String) (v : Int32), flt (qDays x R.1).1 = some E → (E, v) ∈ ([("java/lang/IllegalArgumentException", (-1001 : Int32))] : List (String × Int32)) → ∀ (H1 : Heap) (g1 : Nat → Nat), RG G H1 g1 o (R) → Ext G tsA H g H1 g1 → F v H1) : Call G kL_passDays 12 39 2105 [.ref o, .int x] H (qi F) X := by
  refine startLH (L0 := [some (.ref o), some (.int x), none]) rfl rfl pl_L_passDays (Nat.le_of_ble_eq_true rfl) ?_
  obtain ⟨fo, hfo⟩ := hR.o
  refine V_aload_0 dL_passDays_0 ?_
  refine V_iload_1 dL_passDays_1 ?_
  refine V_call_i (runV1 dL_passDays_2 ce_X12_passDays rfl ml_L_58 im_X12_passDays se_X12_passDays hfo ⟨_, rfl, rfl⟩ (Nat.le_of_ble_eq_true rfl)) (by omega) (by omega) (by omega) (c_fDays hR hok hea (fun hf H1 g1 hR1 e1 => ?_) (fun eE hE H1 g1 hR1 e1 => ?_))
  · skip
    exact V_reti dL_passDays_5 rfl rfl (kk hf H1 g1 hR1 e1)
  · skip
    obtain rfl := hfa eE hE
    refine VX_catch [] (0, 5, 6, 21) [] rfl (fun z hz => absurd hz List.not_mem_nil) (by decide) (by decide) ckL_21 cas_21 (fun eq => ?_)
    refine V_astore_2 dL_passDays_6 rfl ?_
    refine V_sipush (v := (-1001)) dL_passDays_7 (by decide) ?_
    exact V_reti dL_passDays_10 rfl rfl (kx _ _ hE (by simp) H1 g1 hR1 e1)
set_option maxHeartbeats 1000000 in
set_option maxRecDepth 100000 in
theorem c_lType {G : GT} {X : String → Heap → Prop} {H : Heap} {g : Nat → Nat} {o : Nat} {R : RgC} {x : Int32} (hR : RG G H g o R) {F : Int32 → Heap → Prop} (kk : ¬ isLet x = 0 → (rgW R).length < 8 → ∀ (H1 : Heap) (g1 : Nat → Nat), RG G H1 g1 o (setW R (rgW R ++ [x])) → Ext G tsA H g H1 g1 → F (nI (rgW R ++ [x]).length) H1) (k1 : isLet x = 0 → ∀ (H1 : Heap) (g1 : Nat → Nat), RG G H1 g1 o (R) → Ext G tsA H g H1 g1 → F (-1001) H1) (k2 : ¬ isLet x = 0 → 8 ≤ (rgW R).length → ∀ (H1 : Heap) (g1 : Nat → Nat), RG G H1 g1 o (R) → Ext G tsA H g H1 g1 → F (-1002) H1) : Call G kL_typeLetter 8 1 286 [.ref o, .int x] H (qi F) X := by
  refine startLH (L0 := [some (.ref o), some (.int x), none]) rfl rfl pl_L_typeLetter (Nat.le_of_ble_eq_true rfl) ?_
  obtain ⟨fo, hfo⟩ := hR.o
  refine V_aload_0 dL_typeLetter_0 ?_
  refine V_iload_1 dL_typeLetter_1 ?_
  refine V_call_i (runV1 dL_typeLetter_2 ce_X12_typeLetter rfl ml_L_29 im_X12_typeLetter se_X12_typeLetter hfo ⟨_, rfl, rfl⟩ (Nat.le_of_ble_eq_true rfl)) (by omega) (by omega) (by omega) (c_fType hR (fun ha hb H1 g1 hR1 e1 => ?_) (fun ha H1 g1 hR1 e1 => ?_) (fun ha hb H1 g1 hR1 e1 => ?_))
  · exact V_reti dL_typeLetter_5 rfl rfl (kk ha hb H1 g1 hR1 e1)
  · refine VX_catch [] (0, 5, 6, 21) [(0, 5, 11, 13)] rfl (fun z hz => absurd hz List.not_mem_nil) (by decide) (by decide) ckL_21 cas_21 (fun eq => ?_)
    refine V_astore_2 dL_typeLetter_6 rfl ?_
    refine V_sipush (v := (-1001)) dL_typeLetter_7 (by decide) ?_
    exact V_reti dL_typeLetter_10 rfl rfl (k1 ha H1 g1 hR1 e1)
  · refine VX_catch [(0, 5, 6, 21)] (0, 5, 11, 13) [] rfl (List.forall_mem_cons.mpr ⟨⟨by decide, _, ckL_21, by decide +kernel⟩, (fun z hz => absurd hz List.not_mem_nil)⟩) (by decide) (by decide) ckL_13 cas_13 (fun eq => ?_)
    refine V_astore_2 dL_typeLetter_11 rfl ?_
    refine V_sipush (v := (-1002)) dL_typeLetter_12 (by decide) ?_
    exact V_reti dL_typeLetter_15 rfl rfl (k2 ha hb H1 g1 hR1 e1)
set_option maxHeartbeats 1000000 in
set_option maxRecDepth 100000 in
theorem c_lTyp {G : GT} {X : String → Heap → Prop} {H : Heap} {g : Nat → Nat} {o : Nat} {R : RgC} {x : Int32} (hR : RG G H g o R) {F : Int32 → Heap → Prop} (kk : isChr x = 1 → (rgX R).length < 60 → ∀ (H1 : Heap) (g1 : Nat → Nat), RG G H1 g1 o (setX R (rgX R ++ [x])) → Ext G tsA H g H1 g1 → F (nI (rgX R ++ [x]).length) H1) (k1 : isChr x = 0 → ∀ (H1 : Heap) (g1 : Nat → Nat), RG G H1 g1 o (R) → Ext G tsA H g H1 g1 → F (-1001) H1) (k2 : isChr x = 1 → 60 ≤ (rgX R).length → ∀ (H1 : Heap) (g1 : Nat → Nat), RG G H1 g1 o (R) → Ext G tsA H g H1 g1 → F (-1002) H1) : Call G kL_type 8 1 286 [.ref o, .int x] H (qi F) X := by
  refine startLH (L0 := [some (.ref o), some (.int x), none]) rfl rfl pl_L_type (Nat.le_of_ble_eq_true rfl) ?_
  obtain ⟨fo, hfo⟩ := hR.o
  refine V_aload_0 dL_type_0 ?_
  refine V_iload_1 dL_type_1 ?_
  refine V_call_i (runV1 dL_type_2 ce_X12_type rfl ml_L_148 im_X12_type se_X12_type hfo ⟨_, rfl, rfl⟩ (Nat.le_of_ble_eq_true rfl)) (by omega) (by omega) (by omega) (c_fTyp hR (fun ha hb H1 g1 hR1 e1 => ?_) (fun ha H1 g1 hR1 e1 => ?_) (fun ha hb H1 g1 hR1 e1 => ?_))
  · exact V_reti dL_type_5 rfl rfl (kk ha hb H1 g1 hR1 e1)
  · refine VX_catch [] (0, 5, 6, 21) [(0, 5, 11, 13)] rfl (fun z hz => absurd hz List.not_mem_nil) (by decide) (by decide) ckL_21 cas_21 (fun eq => ?_)
    refine V_astore_2 dL_type_6 rfl ?_
    refine V_sipush (v := (-1001)) dL_type_7 (by decide) ?_
    exact V_reti dL_type_10 rfl rfl (k1 ha H1 g1 hR1 e1)
  · refine VX_catch [(0, 5, 6, 21)] (0, 5, 11, 13) [] rfl (List.forall_mem_cons.mpr ⟨⟨by decide, _, ckL_21, by decide +kernel⟩, (fun z hz => absurd hz List.not_mem_nil)⟩) (by decide) (by decide) ckL_13 cas_13 (fun eq => ?_)
    refine V_astore_2 dL_type_11 rfl ?_
    refine V_sipush (v := (-1002)) dL_type_12 (by decide) ?_
    exact V_reti dL_type_15 rfl rfl (k2 ha hb H1 g1 hR1 e1)
set_option maxHeartbeats 1000000 in
set_option maxRecDepth 100000 in
theorem c_lUndo {G : GT} {X : String → Heap → Prop} {H : Heap} {g : Nat → Nat} {o : Nat} {R : RgC} (hR : RG G H g o R) {F : Int32 → Heap → Prop} (kk : ∀ (ea0 : List StC) (T : StC), rgE R = ea0 ++ [T] → ∀ (H1 : Heap) (g1 : Nat → Nat), RG G H1 g1 o (T, R.2.1, R.2.2.1, ea0, R.2.2.2.2) → Ext G tsA H g H1 g1 → F (nI ea0.length) H1) (k1 : (rgE R).length = 0 → ∀ (H1 : Heap) (g1 : Nat → Nat), RG G H1 g1 o (R) → Ext G tsA H g H1 g1 → F (-1001) H1) : Call G kL_undo 7 1 6 [.ref o] H (qi F) X := by
  refine startLH (L0 := [some (.ref o), none]) rfl rfl pl_L_undo (Nat.le_of_ble_eq_true rfl) ?_
  obtain ⟨fo, hfo⟩ := hR.o
  refine V_aload_0 dL_undo_0 ?_
  refine V_call_i (runV0 dL_undo_1 ce_X12_undo rfl ml_L_160 im_X12_undo se_X12_undo hfo ⟨_, rfl, rfl⟩ (Nat.le_of_ble_eq_true rfl)) (by omega) (by omega) (by omega) (c_fUndo hR (fun ea0 T hT H1 g1 hR1 e1 => ?_) (fun ha H1 g1 hR1 e1 => ?_))
  · exact V_reti dL_undo_4 rfl rfl (kk ea0 T hT H1 g1 hR1 e1)
  · refine VX_catch [] (0, 4, 5, 13) [] rfl (fun z hz => absurd hz List.not_mem_nil) (by decide) (by decide) ckL_13 cas_13 (fun eq => ?_)
    refine V_astore_1 dL_undo_5 rfl ?_
    refine V_sipush (v := (-1001)) dL_undo_6 (by decide) ?_
    exact V_reti dL_undo_9 rfl rfl (k1 ha H1 g1 hR1 e1)
set_option maxHeartbeats 1000000 in
set_option maxRecDepth 100000 in
theorem c_lRest {G : GT} {X : String → Heap → Prop} {H : Heap} {g : Nat → Nat} {o : Nat} {R : RgC} (hR : RG G H g o R) {F : Int32 → Heap → Prop} (kk : ¬ R.2.2.1 = 0 → ∀ (H1 : Heap) (g1 : Nat → Nat), RG G H1 g1 o (R.2.1, R.2.1, R.2.2.1, [], R.2.2.2.2) → Ext G tsA H g H1 g1 → F (nI R.2.1.2.2.1.length) H1) (k1 : R.2.2.1 = 0 → ∀ (H1 : Heap) (g1 : Nat → Nat), RG G H1 g1 o (R) → Ext G tsA H g H1 g1 → F (-1001) H1) : Call G kL_restore 7 1 6 [.ref o] H (qi F) X := by
  refine startLH (L0 := [some (.ref o), none]) rfl rfl pl_L_restore (Nat.le_of_ble_eq_true rfl) ?_
  obtain ⟨fo, hfo⟩ := hR.o
  refine V_aload_0 dL_restore_0 ?_
  refine V_call_i (runV0 dL_restore_1 ce_X12_restore rfl ml_L_163 im_X12_restore se_X12_restore hfo ⟨_, rfl, rfl⟩ (Nat.le_of_ble_eq_true rfl)) (by omega) (by omega) (by omega) (c_fRest hR (fun ha H1 g1 hR1 e1 => ?_) (fun ha H1 g1 hR1 e1 => ?_))
  · exact V_reti dL_restore_4 rfl rfl (kk ha H1 g1 hR1 e1)
  · refine VX_catch [] (0, 4, 5, 13) [] rfl (fun z hz => absurd hz List.not_mem_nil) (by decide) (by decide) ckL_13 cas_13 (fun eq => ?_)
    refine V_astore_1 dL_restore_5 rfl ?_
    refine V_sipush (v := (-1001)) dL_restore_6 (by decide) ?_
    exact V_reti dL_restore_9 rfl rfl (k1 ha H1 g1 hR1 e1)
set_option maxHeartbeats 1000000 in
set_option maxRecDepth 100000 in
theorem c_lRunF {G : GT} {X : String → Heap → Prop} {H : Heap} {g : Nat → Nat} {o : Nat} {R : RgC} {r : Int32 × Int32 × List OrdC} (hR : RG G H g o R) (hnl : (rgX R).length ≠ 16 ∧ (rgX R).length ≠ 34 ∧ (rgX R).length ≠ 70 ∧ (rgX R).length ≠ 142) (hr : rCmd (rgX R) 0 [] = r) (hfl : r.1 = 0) {F : Int32 → Heap → Prop} (k1 : ∀ (H1 : Heap) (g1 : Nat → Nat), RG G H1 g1 o (setP (setX R []) r.2.1) → Ext G tsA H g H1 g1 → F (-1001) H1) : Call G kL_run 12 485 3590 [.ref o] H (qi F) X := by
  refine startLH (L0 := [some (.ref o), none]) rfl rfl pl_L_run (Nat.le_of_ble_eq_true rfl) ?_
  obtain ⟨fo, hfo⟩ := hR.o
  refine V_aload_0 dL_run_0 ?_
  refine V_call_i (runV0 dL_run_1 ce_X12_runScript rfl ml_L_151 im_X12_runScript se_X12_runScript hfo ⟨_, rfl, rfl⟩ (Nat.le_of_ble_eq_true rfl)) (by omega) (by omega) (by omega) (c_fRunF hr hR hnl hfl (fun H1 g1 hR1 e1 => ?_))
  · refine VX_catch [] (0, 4, 5, 21) [(0, 4, 10, 13)] rfl (fun z hz => absurd hz List.not_mem_nil) (by decide) (by decide) ckL_21 cas_21 (fun eq => ?_)
    refine V_astore_1 dL_run_5 rfl ?_
    refine V_sipush (v := (-1001)) dL_run_6 (by decide) ?_
    exact V_reti dL_run_9 rfl rfl (k1 H1 g1 hR1 e1)
set_option maxHeartbeats 1000000 in
set_option maxRecDepth 100000 in
theorem c_lRun {G : GT} {X : String → Heap → Prop} {H : Heap} {g : Nat → Nat} {o : Nat} {R : RgC} {r : Int32 × Int32 × List OrdC} (hR : RG G H g o R) (hnl : (rgX R).length ≠ 16 ∧ (rgX R).length ≠ 34 ∧ (rgX R).length ≠ 70 ∧ (rgX R).length ≠ 142) (hr : rScr (rgX R) 0 [] = r) (htl : (rgX R).length ≤ 22) (hok : okS R.1) (hea : (rgE R).length ≤ 8) (ho3 : ¬ r.1 = 0 → r.2.2.length ≤ 3) {F : Int32 → Heap → Prop} (k1 : r.1 = 0 → ∀ (H1 : Heap) (g1 : Nat → Nat), RG G H1 g1 o (setP (setX R []) r.2.1) → Ext G tsA H g H1 g1 → F (-1001) H1) (kk : ¬ r.1 = 0 → (perL r.2.2 r.2.2.length 0 R.1 (rgK R)).1 = none → ∀ (H1 : Heap) (g1 : Nat → Nat), RG G H1 g1 o (accR (setX R []) (perL r.2.2 r.2.2.length 0 R.1 (rgK R)).2.1 (perL r.2.2 r.2.2.length 0 R.1 (rgK R)).2.2) → Ext G tsA H g H1 g1 → F (nI r.2.2.length) H1) (k2 : ¬ r.1 = 0 → ∀ j : Nat, (perL r.2.2 r.2.2.length 0 R.1 (rgK R)).1 = some j → ∀ (H1 : Heap) (g1 : Nat → Nat), RG G H1 g1 o (setK (setF (setX R []) (nI j)) (perL r.2.2 r.2.2.length 0 R.1 (rgK R)).2.2) → Ext G tsA H g H1 g1 → F (-1002) H1) : Call G kL_run 12 10935 80940 [.ref o] H (qi F) X := by
  refine startLH (L0 := [some (.ref o), none]) rfl rfl pl_L_run (Nat.le_of_ble_eq_true rfl) ?_
  obtain ⟨fo, hfo⟩ := hR.o
  refine V_aload_0 dL_run_0 ?_
  refine V_call_i (runV0 dL_run_1 ce_X12_runScript rfl ml_L_151 im_X12_runScript se_X12_runScript hfo ⟨_, rfl, rfl⟩ (Nat.le_of_ble_eq_true rfl)) (by omega) (by omega) (by omega) (c_fRun hr hR hnl htl hok hea ho3 (fun ha H1 g1 hR1 e1 => ?_) (fun ha hb H1 g1 hR1 e1 => ?_) (fun ha j hj H1 g1 hR1 e1 => ?_))
  · refine VX_catch [] (0, 4, 5, 21) [(0, 4, 10, 13)] rfl (fun z hz => absurd hz List.not_mem_nil) (by decide) (by decide) ckL_21 cas_21 (fun eq => ?_)
    refine V_astore_1 dL_run_5 rfl ?_
    refine V_sipush (v := (-1001)) dL_run_6 (by decide) ?_
    exact V_reti dL_run_9 rfl rfl (k1 ha H1 g1 hR1 e1)
  · exact V_reti dL_run_4 rfl rfl (kk ha hb H1 g1 hR1 e1)
  · refine VX_catch [(0, 4, 5, 21)] (0, 4, 10, 13) [] rfl (List.forall_mem_cons.mpr ⟨⟨by decide, _, ckL_21, by decide +kernel⟩, (fun z hz => absurd hz List.not_mem_nil)⟩) (by decide) (by decide) ckL_13 cas_13 (fun eq => ?_)
    refine V_astore_1 dL_run_10 rfl ?_
    refine V_sipush (v := (-1002)) dL_run_11 (by decide) ?_
    exact V_reti dL_run_14 rfl rfl (k2 ha j hj H1 g1 hR1 e1)

theorem MS.o {G : GT} {H : Heap} {g : Nat → Nat} {t a : Nat} {S : StC} (h : MS G H g t a S) : ∃ fs, ro G H a 13 fs := by
  obtain ⟨bal, ten, cs, ps, n, ch, td, nx⟩ := S
  obtain ⟨-, -, b, k, u, v, h3, -⟩ := h
  exact ⟨_, h3.ro⟩
set_option maxHeartbeats 1000000 in
set_option maxRecDepth 100000 in
theorem c_fAdd {G : GT} {X : String → Heap → Prop} {H : Heap} {g : Nat → Nat} {o : Nat} {R : RgC} (hR : RG G H g o R) (hok : okS R.1) (hea : (rgE R).length ≤ 8) {F : Int32 → Heap → Prop} (kk : flt (qEnt R.1).1 = none → ∀ (H1 : Heap) (g1 : Nat → Nat), RG G H1 g1 o (accR R (qEnt R.1).2 (rgK R)) → Ext G tsA H g H1 g1 → F (qEnt R.1).1 H1) (kx : ∀ E : String, flt (qEnt R.1).1 = some E → ∀ (H1 : Heap) (g1 : Nat → Nat), RG G H1 g1 o (R) → Ext G tsA H g H1 g1 → X E H1) : Call G kX12_addButton 11 39 2105 [.ref o] H (qi F) X := by
  obtain ⟨S, sn, tk, ea, wd, sc, ou, le, lf, K⟩ := R
  have E : Ext G tsA H g H g := Ext.rf
  have hea8 : ea.length ≤ 8 := hea
  refine startL (L0 := [some (.ref o), none]) rfl rfl pl_X12_addButton (Nat.le_of_ble_eq_true rfl) ?_
  obtain ⟨nw, sp, el, w, s, u, co, dk, se, ho, htk, hnw, hsp, hel, hw, hs, hu, hco, hdk, hse⟩ := hR
  refine V_aload_0 dX12_addButton_0 ?_
  refine V_getf dX12_addButton_1 fl_X12_10 ho.ro rfl ?_
  obtain ⟨fn, hfn⟩ := hnw.o
  refine V_call_a (runV0 dX12_addButton_4 ce_X9_copy rfl ml_X12_71 im_X9_copy se_X9_copy hfn ⟨_, rfl, rfl⟩ (Nat.le_of_ble_eq_true rfl)) (by omega) (by omega) (by omega) (c_copyS hnw hok fun q H1 g1 h10 e1 => ?_)
  replace ho := ho.fr e1 (by decide)
  replace hnw := hnw.fr e1 (tkn0 (by decide))
  replace hsp := hsp.fr e1 (tkn0 (by decide))
  replace hel := hel.fr FRs e1 (by decide) (by decide)
  replace hw := hw.fr e1 (by decide)
  replace hs := hs.fr e1 (by decide)
  replace hu := hu.fr e1 (by decide)
  replace hco := hco.fr e1 (by decide)
  replace hdk := hdk.fr e1 (by decide)
  replace hse := hse.fr e1 (by decide)
  replace E := E.trans (e1.wide (by decide))
  refine V_astore_1 dX12_addButton_7 rfl ?_
  refine V_aload_0 dX12_addButton_8 ?_
  refine V_aload_1 dX12_addButton_9 ?_
  refine V_aload_0 dX12_addButton_10 ?_
  refine V_getf dX12_addButton_11 fl_X12_53 ho.ro rfl ?_
  refine V_aload_1 dX12_addButton_14 ?_
  obtain ⟨fc, hfc⟩ := hco.o
  refine V_call_i (runV1 dX12_addButton_15 ce_X2_enterButton rfl ml_X12_75 im_X2_enterButton se_X2_enterButton hfc ⟨_, rfl, rfl⟩ (Nat.le_of_ble_eq_true rfl)) (by omega) (by omega) (by omega) (c_qEnt h10 hco fun H2 g2 h10_ hco_ e2 => ?_)
  replace ho := ho.fr e2 (by decide)
  replace hnw := hnw.fr e2 (tkn0 (by decide))
  replace hsp := hsp.fr e2 (tkn0 (by decide))
  replace hel := hel.fr FRs e2 (by decide) (by decide)
  replace hw := hw.fr e2 (by decide)
  replace hs := hs.fr e2 (by decide)
  replace hu := hu.fr e2 (by decide)
  replace hco := hco_
  replace hdk := hdk.fr e2 (by decide)
  replace hse := hse.fr e2 (by decide)
  clear hco_
  replace E := E.trans (e2.wide (by decide))
  replace h10 := h10_
  have hR : RG G H2 g2 o (S, sn, tk, ea, wd, sc, ou, le, lf, K) := ⟨nw, sp, el, w, s, u, co, dk, se, ho, htk, hnw, hsp, hel, hw, hs, hu, hco, hdk, hse⟩
  clear ho htk hnw hsp hel hw hs hu hco hdk hse
  obtain ⟨fo, hfo⟩ := hR.o
  refine V_call_i (runV2 dX12_addButton_18 ce_X12_accept rfl ml_X12_79 im_X12_accept se_X12_accept hfo ⟨_, rfl, rfl⟩ (Nat.le_of_ble_eq_true rfl)) (by omega) (by omega) (by omega) (c_accept hR h10 hea8 (fun hf H3 g3 hR_ e3 => ?_) (fun eE hE H3 hz hq => VX_out rfl (kx eE hE H3 g2 (hR.keep hz hq) (E.trans (Ext.keep hz hq)))))
  replace hR := hR_
  replace E := E.trans (e3.wide (by decide))
  exact V_reti dX12_addButton_21 rfl rfl (kk hf H3 g3 hR E)
set_option maxHeartbeats 1000000 in
set_option maxRecDepth 100000 in
theorem c_fBond {G : GT} {X : String → Heap → Prop} {H : Heap} {g : Nat → Nat} {o : Nat} {R : RgC} {x : Int32} {y : Int32} {z : Int32} (hR : RG G H g o R) (hok : okS R.1) (hea : (rgE R).length ≤ 8) {F : Int32 → Heap → Prop} (kk : flt (qJoin x y z R.1).1 = none → ∀ (H1 : Heap) (g1 : Nat → Nat), RG G H1 g1 o (accR R (qJoin x y z R.1).2 (rgK R)) → Ext G tsA H g H1 g1 → F (qJoin x y z R.1).1 H1) (kx : ∀ E : String, flt (qJoin x y z R.1).1 = some E → ∀ (H1 : Heap) (g1 : Nat → Nat), RG G H1 g1 o (R) → Ext G tsA H g H1 g1 → X E H1) : Call G kX12_setBond 11 39 2105 [.ref o, .int x, .int y, .int z] H (qi F) X := by
  obtain ⟨S, sn, tk, ea, wd, sc, ou, le, lf, K⟩ := R
  have E : Ext G tsA H g H g := Ext.rf
  have hea8 : ea.length ≤ 8 := hea
  refine startL (L0 := [some (.ref o), some (.int x), some (.int y), some (.int z), none]) rfl rfl pl_X12_setBond (Nat.le_of_ble_eq_true rfl) ?_
  obtain ⟨nw, sp, el, w, s, u, co, dk, se, ho, htk, hnw, hsp, hel, hw, hs, hu, hco, hdk, hse⟩ := hR
  refine V_aload_0 dX12_setBond_0 ?_
  refine V_getf dX12_setBond_1 fl_X12_10 ho.ro rfl ?_
  obtain ⟨fn, hfn⟩ := hnw.o
  refine V_call_a (runV0 dX12_setBond_4 ce_X9_copy rfl ml_X12_71 im_X9_copy se_X9_copy hfn ⟨_, rfl, rfl⟩ (Nat.le_of_ble_eq_true rfl)) (by omega) (by omega) (by omega) (c_copyS hnw hok fun q H1 g1 h10 e1 => ?_)
  replace ho := ho.fr e1 (by decide)
  replace hnw := hnw.fr e1 (tkn0 (by decide))
  replace hsp := hsp.fr e1 (tkn0 (by decide))
  replace hel := hel.fr FRs e1 (by decide) (by decide)
  replace hw := hw.fr e1 (by decide)
  replace hs := hs.fr e1 (by decide)
  replace hu := hu.fr e1 (by decide)
  replace hco := hco.fr e1 (by decide)
  replace hdk := hdk.fr e1 (by decide)
  replace hse := hse.fr e1 (by decide)
  replace E := E.trans (e1.wide (by decide))
  refine V_astore_4 dX12_setBond_7 rfl ?_
  refine V_aload_0 dX12_setBond_9 ?_
  refine V_aload_4 dX12_setBond_10 ?_
  refine V_aload_0 dX12_setBond_12 ?_
  refine V_getf dX12_setBond_13 fl_X12_53 ho.ro rfl ?_
  refine V_aload_4 dX12_setBond_16 ?_
  refine V_iload_1 dX12_setBond_18 ?_
  refine V_iload_2 dX12_setBond_19 ?_
  refine V_iload_3 dX12_setBond_20 ?_
  obtain ⟨fc, hfc⟩ := hco.o
  refine V_call_i (runV4 dX12_setBond_21 ce_X2_joinButtons rfl ml_X12_83 im_X2_joinButtons se_X2_joinButtons hfc ⟨_, rfl, rfl⟩ (Nat.le_of_ble_eq_true rfl)) (by omega) (by omega) (by omega) (c_qJoin h10 hco fun H2 g2 h10_ hco_ e2 => ?_)
  replace ho := ho.fr e2 (by decide)
  replace hnw := hnw.fr e2 (tkn0 (by decide))
  replace hsp := hsp.fr e2 (tkn0 (by decide))
  replace hel := hel.fr FRs e2 (by decide) (by decide)
  replace hw := hw.fr e2 (by decide)
  replace hs := hs.fr e2 (by decide)
  replace hu := hu.fr e2 (by decide)
  replace hco := hco_
  replace hdk := hdk.fr e2 (by decide)
  replace hse := hse.fr e2 (by decide)
  clear hco_
  replace E := E.trans (e2.wide (by decide))
  replace h10 := h10_
  have hR : RG G H2 g2 o (S, sn, tk, ea, wd, sc, ou, le, lf, K) := ⟨nw, sp, el, w, s, u, co, dk, se, ho, htk, hnw, hsp, hel, hw, hs, hu, hco, hdk, hse⟩
  clear ho htk hnw hsp hel hw hs hu hco hdk hse
  obtain ⟨fo, hfo⟩ := hR.o
  refine V_call_i (runV2 dX12_setBond_24 ce_X12_accept rfl ml_X12_79 im_X12_accept se_X12_accept hfo ⟨_, rfl, rfl⟩ (Nat.le_of_ble_eq_true rfl)) (by omega) (by omega) (by omega) (c_accept hR h10 hea8 (fun hf H3 g3 hR_ e3 => ?_) (fun eE hE H3 hz hq => VX_out rfl (kx eE hE H3 g2 (hR.keep hz hq) (E.trans (Ext.keep hz hq)))))
  replace hR := hR_
  replace E := E.trans (e3.wide (by decide))
  exact V_reti dX12_setBond_27 rfl rfl (kk hf H3 g3 hR E)
set_option maxHeartbeats 1000000 in
set_option maxRecDepth 100000 in
theorem c_fCut {G : GT} {X : String → Heap → Prop} {H : Heap} {g : Nat → Nat} {o : Nat} {R : RgC} {x : Int32} {y : Int32} (hR : RG G H g o R) (hok : okS R.1) (hea : (rgE R).length ≤ 8) {F : Int32 → Heap → Prop} (kk : flt (qSep x y R.1).1 = none → ∀ (H1 : Heap) (g1 : Nat → Nat), RG G H1 g1 o (accR R (qSep x y R.1).2 (rgK R)) → Ext G tsA H g H1 g1 → F (qSep x y R.1).1 H1) (kx : ∀ E : String, flt (qSep x y R.1).1 = some E → ∀ (H1 : Heap) (g1 : Nat → Nat), RG G H1 g1 o (R) → Ext G tsA H g H1 g1 → X E H1) : Call G kX12_cutBond 11 39 2105 [.ref o, .int x, .int y] H (qi F) X := by
  obtain ⟨S, sn, tk, ea, wd, sc, ou, le, lf, K⟩ := R
  have E : Ext G tsA H g H g := Ext.rf
  have hea8 : ea.length ≤ 8 := hea
  refine startL (L0 := [some (.ref o), some (.int x), some (.int y), none]) rfl rfl pl_X12_cutBond (Nat.le_of_ble_eq_true rfl) ?_
  obtain ⟨nw, sp, el, w, s, u, co, dk, se, ho, htk, hnw, hsp, hel, hw, hs, hu, hco, hdk, hse⟩ := hR
  refine V_aload_0 dX12_cutBond_0 ?_
  refine V_getf dX12_cutBond_1 fl_X12_10 ho.ro rfl ?_
  obtain ⟨fn, hfn⟩ := hnw.o
  refine V_call_a (runV0 dX12_cutBond_4 ce_X9_copy rfl ml_X12_71 im_X9_copy se_X9_copy hfn ⟨_, rfl, rfl⟩ (Nat.le_of_ble_eq_true rfl)) (by omega) (by omega) (by omega) (c_copyS hnw hok fun q H1 g1 h10 e1 => ?_)
  replace ho := ho.fr e1 (by decide)
  replace hnw := hnw.fr e1 (tkn0 (by decide))
  replace hsp := hsp.fr e1 (tkn0 (by decide))
  replace hel := hel.fr FRs e1 (by decide) (by decide)
  replace hw := hw.fr e1 (by decide)
  replace hs := hs.fr e1 (by decide)
  replace hu := hu.fr e1 (by decide)
  replace hco := hco.fr e1 (by decide)
  replace hdk := hdk.fr e1 (by decide)
  replace hse := hse.fr e1 (by decide)
  replace E := E.trans (e1.wide (by decide))
  refine V_astore_3 dX12_cutBond_7 rfl ?_
  refine V_aload_0 dX12_cutBond_8 ?_
  refine V_aload_3 dX12_cutBond_9 ?_
  refine V_aload_0 dX12_cutBond_10 ?_
  refine V_getf dX12_cutBond_11 fl_X12_53 ho.ro rfl ?_
  refine V_aload_3 dX12_cutBond_14 ?_
  refine V_iload_1 dX12_cutBond_15 ?_
  refine V_iload_2 dX12_cutBond_16 ?_
  obtain ⟨fc, hfc⟩ := hco.o
  refine V_call_i (runV3 dX12_cutBond_17 ce_X2_separateButtons rfl ml_X12_87 im_X2_separateButtons se_X2_separateButtons hfc ⟨_, rfl, rfl⟩ (Nat.le_of_ble_eq_true rfl)) (by omega) (by omega) (by omega) (c_qSep h10 hco fun H2 g2 h10_ hco_ e2 => ?_)
  replace ho := ho.fr e2 (by decide)
  replace hnw := hnw.fr e2 (tkn0 (by decide))
  replace hsp := hsp.fr e2 (tkn0 (by decide))
  replace hel := hel.fr FRs e2 (by decide) (by decide)
  replace hw := hw.fr e2 (by decide)
  replace hs := hs.fr e2 (by decide)
  replace hu := hu.fr e2 (by decide)
  replace hco := hco_
  replace hdk := hdk.fr e2 (by decide)
  replace hse := hse.fr e2 (by decide)
  clear hco_
  replace E := E.trans (e2.wide (by decide))
  replace h10 := h10_
  have hR : RG G H2 g2 o (S, sn, tk, ea, wd, sc, ou, le, lf, K) := ⟨nw, sp, el, w, s, u, co, dk, se, ho, htk, hnw, hsp, hel, hw, hs, hu, hco, hdk, hse⟩
  clear ho htk hnw hsp hel hw hs hu hco hdk hse
  obtain ⟨fo, hfo⟩ := hR.o
  refine V_call_i (runV2 dX12_cutBond_20 ce_X12_accept rfl ml_X12_79 im_X12_accept se_X12_accept hfo ⟨_, rfl, rfl⟩ (Nat.le_of_ble_eq_true rfl)) (by omega) (by omega) (by omega) (c_accept hR h10 hea8 (fun hf H3 g3 hR_ e3 => ?_) (fun eE hE H3 hz hq => VX_out rfl (kx eE hE H3 g2 (hR.keep hz hq) (E.trans (Ext.keep hz hq)))))
  replace hR := hR_
  replace E := E.trans (e3.wide (by decide))
  exact V_reti dX12_cutBond_23 rfl rfl (kk hf H3 g3 hR E)
set_option maxHeartbeats 1000000 in
set_option maxRecDepth 100000 in
theorem c_fRule {G : GT} {X : String → Heap → Prop} {H : Heap} {g : Nat → Nat} {o : Nat} {R : RgC} {x : Int32} (hR : RG G H g o R) (hok : okS R.1) (hea : (rgE R).length ≤ 8) (hwd : (rgW R).length ≤ 8) {F : Int32 → Heap → Prop} (kk : flt (qRule x (rgW R) R.1).1 = none → ∀ (H1 : Heap) (g1 : Nat → Nat), RG G H1 g1 o (setW (accR R (qRule x (rgW R) R.1).2 (rgK R)) []) → Ext G tsA H g H1 g1 → F (qRule x (rgW R) R.1).1 H1) (kx : ∀ E : String, flt (qRule x (rgW R) R.1).1 = some E → ∀ (H1 : Heap) (g1 : Nat → Nat), RG G H1 g1 o (R) → Ext G tsA H g H1 g1 → X E H1) : Call G kX12_addPrecedent 11 43 2314 [.ref o, .int x] H (qi F) X := by
  obtain ⟨S, sn, tk, ea, wd, sc, ou, le, lf, K⟩ := R
  have E : Ext G tsA H g H g := Ext.rf
  have hea8 : ea.length ≤ 8 := hea
  have hwd8 : wd.length ≤ 8 := hwd
  refine startL (L0 := [some (.ref o), some (.int x), none, none]) rfl rfl pl_X12_addPrecedent (Nat.le_of_ble_eq_true rfl) ?_
  obtain ⟨nw, sp, el, w, s, u, co, dk, se, ho, htk, hnw, hsp, hel, hw, hs, hu, hco, hdk, hse⟩ := hR
  refine V_aload_0 dX12_addPrecedent_0 ?_
  refine V_getf dX12_addPrecedent_1 fl_X12_10 ho.ro rfl ?_
  obtain ⟨fn, hfn⟩ := hnw.o
  refine V_call_a (runV0 dX12_addPrecedent_4 ce_X9_copy rfl ml_X12_71 im_X9_copy se_X9_copy hfn ⟨_, rfl, rfl⟩ (Nat.le_of_ble_eq_true rfl)) (by omega) (by omega) (by omega) (c_copyS hnw hok fun q H1 g1 h10 e1 => ?_)
  replace ho := ho.fr e1 (by decide)
  replace hnw := hnw.fr e1 (tkn0 (by decide))
  replace hsp := hsp.fr e1 (tkn0 (by decide))
  replace hel := hel.fr FRs e1 (by decide) (by decide)
  replace hw := hw.fr e1 (by decide)
  replace hs := hs.fr e1 (by decide)
  replace hu := hu.fr e1 (by decide)
  replace hco := hco.fr e1 (by decide)
  replace hdk := hdk.fr e1 (by decide)
  replace hse := hse.fr e1 (by decide)
  replace E := E.trans (e1.wide (by decide))
  refine V_astore_2 dX12_addPrecedent_7 rfl ?_
  refine V_aload_0 dX12_addPrecedent_8 ?_
  refine V_aload_2 dX12_addPrecedent_9 ?_
  refine V_aload_0 dX12_addPrecedent_10 ?_
  refine V_getf dX12_addPrecedent_11 fl_X12_53 ho.ro rfl ?_
  refine V_aload_2 dX12_addPrecedent_14 ?_
  refine V_iload_1 dX12_addPrecedent_15 ?_
  refine V_aload_0 dX12_addPrecedent_16 ?_
  refine V_getf dX12_addPrecedent_17 fl_X12_33 ho.ro rfl ?_
  obtain ⟨fw, hfw⟩ := hw.o
  refine V_call_a (runV0 dX12_addPrecedent_20 ce_J4_toString_0e30d rfl ml_X12_91 im_J4_toString_0e30d se_J4_toString_0e30d hfw ⟨_, rfl, rfl⟩ (Nat.le_of_ble_eq_true rfl)) (by omega) (by omega) (by omega) (c_soToS hw (by decide) (by omega) fun mq H2 g2 hm e2 => ?_)
  replace ho := ho.fr e2 (by decide)
  replace hnw := hnw.fr e2 (tkn0 (by decide))
  replace hsp := hsp.fr e2 (tkn0 (by decide))
  replace hel := hel.fr FRs e2 (by decide) (by decide)
  replace hw := hw.fr e2 (by decide)
  replace hs := hs.fr e2 (by decide)
  replace hu := hu.fr e2 (by decide)
  replace hco := hco.fr e2 (by decide)
  replace hdk := hdk.fr e2 (by decide)
  replace hse := hse.fr e2 (by decide)
  replace h10 := h10.fr e2 (tk_of (Or.inr rfl) (by decide))
  replace E := E.trans (e2.wide (by decide))
  obtain ⟨fc, hfc⟩ := hco.o
  refine V_call_i (runV3 dX12_addPrecedent_23 ce_X2_enterPrecedent rfl ml_X12_95 im_X2_enterPrecedent se_X2_enterPrecedent hfc ⟨_, rfl, rfl⟩ (Nat.le_of_ble_eq_true rfl)) (by omega) (by omega) (by omega) (c_qRule h10 hm hco fun H3 g3 h10_ hco_ e3 => ?_)
  replace ho := ho.fr e3 (by decide)
  replace hnw := hnw.fr e3 (tkn0 (by decide))
  replace hsp := hsp.fr e3 (tkn0 (by decide))
  replace hel := hel.fr FRs e3 (by decide) (by decide)
  replace hw := hw.fr e3 (by decide)
  replace hs := hs.fr e3 (by decide)
  replace hu := hu.fr e3 (by decide)
  replace hco := hco_
  replace hdk := hdk.fr e3 (by decide)
  replace hse := hse.fr e3 (by decide)
  clear hco_
  replace E := E.trans (e3.wide (by decide))
  replace h10 := h10_
  have hR : RG G H3 g3 o (S, sn, tk, ea, wd, sc, ou, le, lf, K) := ⟨nw, sp, el, w, s, u, co, dk, se, ho, htk, hnw, hsp, hel, hw, hs, hu, hco, hdk, hse⟩
  clear ho htk hnw hsp hel hw hs hu hco hdk hse
  obtain ⟨fo, hfo⟩ := hR.o
  refine V_call_i (runV2 dX12_addPrecedent_26 ce_X12_accept rfl ml_X12_79 im_X12_accept se_X12_accept hfo ⟨_, rfl, rfl⟩ (Nat.le_of_ble_eq_true rfl)) (by omega) (by omega) (by omega) (c_accept hR h10 hea8 (fun hf H4 g4 hR_ e4 => ?_) (fun eE hE H4 hz hq => VX_out rfl (kx eE hE H4 g3 (hR.keep hz hq) (E.trans (Ext.keep hz hq)))))
  replace hR := hR_
  replace E := E.trans (e4.wide (by decide))
  obtain ⟨nw, sp, el, w, s, u, co, dk, se, ho, htk, hnw, hsp, hel, hw, hs, hu, hco, hdk, hse⟩ := hR
  refine V_istore_3 dX12_addPrecedent_29 rfl ?_
  refine V_aload_0 dX12_addPrecedent_30 ?_
  refine V_getf dX12_addPrecedent_31 fl_X12_33 ho.ro rfl ?_
  refine V_iconst (v := 0) dX12_addPrecedent_34 rfl ?_
  obtain ⟨fw, hfw⟩ := hw.o
  refine V_call_v (runV1 dX12_addPrecedent_35 ce_J4_setLength_d00df rfl ml_X12_99 im_J4_setLength_d00df se_J4_setLength_d00df hfw ⟨_, rfl, rfl⟩ (Nat.le_of_ble_eq_true rfl)) (by omega) (by omega) (by omega) (c_soSet0 hw (by decide) fun H5 hw_ e5 => ?_)
  replace ho := ho.fr e5 (by decide)
  replace hnw := hnw.fr e5 (tkn0 (by decide))
  replace hsp := hsp.fr e5 (tkn0 (by decide))
  replace hel := hel.fr FRs e5 (by decide) (by decide)
  replace hw := hw_
  replace hs := hs.fr e5 (by decide)
  replace hu := hu.fr e5 (by decide)
  replace hco := hco.fr e5 (by decide)
  replace hdk := hdk.fr e5 (by decide)
  replace hse := hse.fr e5 (by decide)
  clear hw_
  replace E := E.trans (e5.wide (by decide))
  have hR : RG G H5 g4 o ((qRule x wd S).2, sn, tk, (pushE ea S), [], sc, ou, le, lf, K) := ⟨nw, sp, el, w, s, u, co, dk, se, ho, htk, hnw, hsp, hel, hw, hs, hu, hco, hdk, hse⟩
  refine V_iload_3 dX12_addPrecedent_38 ?_
  exact V_reti dX12_addPrecedent_39 rfl rfl (kk hf H5 g4 hR E)
set_option maxHeartbeats 1000000 in
set_option maxRecDepth 100000 in
theorem c_fFile {G : GT} {X : String → Heap → Prop} {H : Heap} {g : Nat → Nat} {o : Nat} {R : RgC} {x1 : Int32} {x2 : Int32} {x3 : Int32} {x4 : Int32} {x5 : Int32} (hR : RG G H g o R) (hok : okS R.1) (hea : (rgE R).length ≤ 8) (hwd : (rgW R).length ≤ 8) {F : Int32 → Heap → Prop} (kk : flt (qFile x1 x2 x3 x4 x5 (rgW R) R.1).1 = none → ∀ (H1 : Heap) (g1 : Nat → Nat), RG G H1 g1 o (setW (accR R (qFile x1 x2 x3 x4 x5 (rgW R) R.1).2 (rgK R)) []) → Ext G tsA H g H1 g1 → F (qFile x1 x2 x3 x4 x5 (rgW R) R.1).1 H1) (kx : ∀ E : String, flt (qFile x1 x2 x3 x4 x5 (rgW R) R.1).1 = some E → ∀ (H1 : Heap) (g1 : Nat → Nat), RG G H1 g1 o (R) → Ext G tsA H g H1 g1 → X E H1) : Call G kX12_fileCase 11 43 2326 [.ref o, .int x1, .int x2, .int x3, .int x4, .int x5] H (qi F) X := by
  obtain ⟨S, sn, tk, ea, wd, sc, ou, le, lf, K⟩ := R
  have E : Ext G tsA H g H g := Ext.rf
  have hea8 : ea.length ≤ 8 := hea
  have hwd8 : wd.length ≤ 8 := hwd
  refine startL (L0 := [some (.ref o), some (.int x1), some (.int x2), some (.int x3), some (.int x4), some (.int x5), none, none, none]) rfl rfl pl_X12_fileCase (Nat.le_of_ble_eq_true rfl) ?_
  obtain ⟨nw, sp, el, w, s, u, co, dk, se, ho, htk, hnw, hsp, hel, hw, hs, hu, hco, hdk, hse⟩ := hR
  refine V_aload_0 dX12_fileCase_0 ?_
  refine V_getf dX12_fileCase_1 fl_X12_10 ho.ro rfl ?_
  obtain ⟨fn, hfn⟩ := hnw.o
  refine V_call_a (runV0 dX12_fileCase_4 ce_X9_copy rfl ml_X12_71 im_X9_copy se_X9_copy hfn ⟨_, rfl, rfl⟩ (Nat.le_of_ble_eq_true rfl)) (by omega) (by omega) (by omega) (c_copyS hnw hok fun q H1 g1 h10 e1 => ?_)
  replace ho := ho.fr e1 (by decide)
  replace hnw := hnw.fr e1 (tkn0 (by decide))
  replace hsp := hsp.fr e1 (tkn0 (by decide))
  replace hel := hel.fr FRs e1 (by decide) (by decide)
  replace hw := hw.fr e1 (by decide)
  replace hs := hs.fr e1 (by decide)
  replace hu := hu.fr e1 (by decide)
  replace hco := hco.fr e1 (by decide)
  replace hdk := hdk.fr e1 (by decide)
  replace hse := hse.fr e1 (by decide)
  replace E := E.trans (e1.wide (by decide))
  refine V_astore_6 dX12_fileCase_7 rfl ?_
  refine V_aload_0 dX12_fileCase_9 ?_
  refine V_getf dX12_fileCase_10 fl_X12_33 ho.ro rfl ?_
  obtain ⟨fw, hfw⟩ := hw.o
  refine V_call_a (runV0 dX12_fileCase_13 ce_J4_toString_0e30d rfl ml_X12_91 im_J4_toString_0e30d se_J4_toString_0e30d hfw ⟨_, rfl, rfl⟩ (Nat.le_of_ble_eq_true rfl)) (by omega) (by omega) (by omega) (c_soToS hw (by decide) (by omega) fun mq H2 g2 hm e2 => ?_)
  replace ho := ho.fr e2 (by decide)
  replace hnw := hnw.fr e2 (tkn0 (by decide))
  replace hsp := hsp.fr e2 (tkn0 (by decide))
  replace hel := hel.fr FRs e2 (by decide) (by decide)
  replace hw := hw.fr e2 (by decide)
  replace hs := hs.fr e2 (by decide)
  replace hu := hu.fr e2 (by decide)
  replace hco := hco.fr e2 (by decide)
  replace hdk := hdk.fr e2 (by decide)
  replace hse := hse.fr e2 (by decide)
  replace h10 := h10.fr e2 (tk_of (Or.inr rfl) (by decide))
  replace E := E.trans (e2.wide (by decide))
  refine V_astore_7 dX12_fileCase_16 rfl ?_
  refine V_aload_0 dX12_fileCase_18 ?_
  refine V_aload_6 dX12_fileCase_19 ?_
  refine V_aload_0 dX12_fileCase_21 ?_
  refine V_getf dX12_fileCase_22 fl_X12_53 ho.ro rfl ?_
  refine V_aload_6 dX12_fileCase_25 ?_
  refine V_iload_1 dX12_fileCase_27 ?_
  refine V_iload_2 dX12_fileCase_28 ?_
  refine V_iload_3 dX12_fileCase_29 ?_
  refine V_iload_4 dX12_fileCase_30 ?_
  refine V_iload_5 dX12_fileCase_32 ?_
  refine V_aload_7 dX12_fileCase_34 ?_
  obtain ⟨fc, hfc⟩ := hco.o
  refine V_call_i (runV7 dX12_fileCase_36 ce_X2_enterCase rfl ml_X12_103 im_X2_enterCase se_X2_enterCase hfc ⟨_, rfl, rfl⟩ (Nat.le_of_ble_eq_true rfl)) (by omega) (by omega) (by omega) (c_qFile h10 hm hco fun H3 g3 h10_ hco_ e3 => ?_)
  replace ho := ho.fr e3 (by decide)
  replace hnw := hnw.fr e3 (tkn0 (by decide))
  replace hsp := hsp.fr e3 (tkn0 (by decide))
  replace hel := hel.fr FRs e3 (by decide) (by decide)
  replace hw := hw.fr e3 (by decide)
  replace hs := hs.fr e3 (by decide)
  replace hu := hu.fr e3 (by decide)
  replace hco := hco_
  replace hdk := hdk.fr e3 (by decide)
  replace hse := hse.fr e3 (by decide)
  clear hco_
  replace E := E.trans (e3.wide (by decide))
  replace h10 := h10_
  have hR : RG G H3 g3 o (S, sn, tk, ea, wd, sc, ou, le, lf, K) := ⟨nw, sp, el, w, s, u, co, dk, se, ho, htk, hnw, hsp, hel, hw, hs, hu, hco, hdk, hse⟩
  clear ho htk hnw hsp hel hw hs hu hco hdk hse
  obtain ⟨fo, hfo⟩ := hR.o
  refine V_call_i (runV2 dX12_fileCase_39 ce_X12_accept rfl ml_X12_79 im_X12_accept se_X12_accept hfo ⟨_, rfl, rfl⟩ (Nat.le_of_ble_eq_true rfl)) (by omega) (by omega) (by omega) (c_accept hR h10 hea8 (fun hf H4 g4 hR_ e4 => ?_) (fun eE hE H4 hz hq => VX_out rfl (kx eE hE H4 g3 (hR.keep hz hq) (E.trans (Ext.keep hz hq)))))
  replace hR := hR_
  replace E := E.trans (e4.wide (by decide))
  obtain ⟨nw, sp, el, w, s, u, co, dk, se, ho, htk, hnw, hsp, hel, hw, hs, hu, hco, hdk, hse⟩ := hR
  refine V_istore_8 dX12_fileCase_42 rfl ?_
  refine V_aload_0 dX12_fileCase_44 ?_
  refine V_getf dX12_fileCase_45 fl_X12_33 ho.ro rfl ?_
  refine V_iconst (v := 0) dX12_fileCase_48 rfl ?_
  obtain ⟨fw, hfw⟩ := hw.o
  refine V_call_v (runV1 dX12_fileCase_49 ce_J4_setLength_d00df rfl ml_X12_99 im_J4_setLength_d00df se_J4_setLength_d00df hfw ⟨_, rfl, rfl⟩ (Nat.le_of_ble_eq_true rfl)) (by omega) (by omega) (by omega) (c_soSet0 hw (by decide) fun H5 hw_ e5 => ?_)
  replace ho := ho.fr e5 (by decide)
  replace hnw := hnw.fr e5 (tkn0 (by decide))
  replace hsp := hsp.fr e5 (tkn0 (by decide))
  replace hel := hel.fr FRs e5 (by decide) (by decide)
  replace hw := hw_
  replace hs := hs.fr e5 (by decide)
  replace hu := hu.fr e5 (by decide)
  replace hco := hco.fr e5 (by decide)
  replace hdk := hdk.fr e5 (by decide)
  replace hse := hse.fr e5 (by decide)
  clear hw_
  replace E := E.trans (e5.wide (by decide))
  have hR : RG G H5 g4 o ((qFile x1 x2 x3 x4 x5 wd S).2, sn, tk, (pushE ea S), [], sc, ou, le, lf, K) := ⟨nw, sp, el, w, s, u, co, dk, se, ho, htk, hnw, hsp, hel, hw, hs, hu, hco, hdk, hse⟩
  refine V_iload_8 dX12_fileCase_52 ?_
  exact V_reti dX12_fileCase_54 rfl rfl (kk hf H5 g4 hR E)
set_option maxHeartbeats 1000000 in
set_option maxRecDepth 100000 in
theorem c_fHear {G : GT} {X : String → Heap → Prop} {H : Heap} {g : Nat → Nat} {o : Nat} {R : RgC} {x : Int32} (hR : RG G H g o R) (hok : okS R.1) (hea : (rgE R).length ≤ 8) {F : Int32 → Heap → Prop} (kk : flt (qHear x R.1 (rgK R)).1 = none → ∀ (H1 : Heap) (g1 : Nat → Nat), RG G H1 g1 o (accR R (qHear x R.1 (rgK R)).2.1 (qHear x R.1 (rgK R)).2.2) → Ext G tsA H g H1 g1 → F (qHear x R.1 (rgK R)).1 H1) (kx : ∀ E : String, flt (qHear x R.1 (rgK R)).1 = some E → ∀ (H1 : Heap) (g1 : Nat → Nat), RG G H1 g1 o (setK R (qHear x R.1 (rgK R)).2.2) → Ext G tsA H g H1 g1 → X E H1) : Call G kX12_hear 11 42 2182 [.ref o, .int x] H (qi F) X := by
  obtain ⟨S, sn, tk, ea, wd, sc, ou, le, lf, K⟩ := R
  have E : Ext G tsA H g H g := Ext.rf
  have hea8 : ea.length ≤ 8 := hea
  refine startL (L0 := [some (.ref o), some (.int x), none]) rfl rfl pl_X12_hear (Nat.le_of_ble_eq_true rfl) ?_
  obtain ⟨nw, sp, el, w, s, u, co, dk, se, ho, htk, hnw, hsp, hel, hw, hs, hu, hco, hdk, hse⟩ := hR
  refine V_aload_0 dX12_hear_0 ?_
  refine V_getf dX12_hear_1 fl_X12_10 ho.ro rfl ?_
  obtain ⟨fn, hfn⟩ := hnw.o
  refine V_call_a (runV0 dX12_hear_4 ce_X9_copy rfl ml_X12_71 im_X9_copy se_X9_copy hfn ⟨_, rfl, rfl⟩ (Nat.le_of_ble_eq_true rfl)) (by omega) (by omega) (by omega) (c_copyS hnw hok fun q H1 g1 h10 e1 => ?_)
  replace ho := ho.fr e1 (by decide)
  replace hnw := hnw.fr e1 (tkn0 (by decide))
  replace hsp := hsp.fr e1 (tkn0 (by decide))
  replace hel := hel.fr FRs e1 (by decide) (by decide)
  replace hw := hw.fr e1 (by decide)
  replace hs := hs.fr e1 (by decide)
  replace hu := hu.fr e1 (by decide)
  replace hco := hco.fr e1 (by decide)
  replace hdk := hdk.fr e1 (by decide)
  replace hse := hse.fr e1 (by decide)
  replace E := E.trans (e1.wide (by decide))
  refine V_astore_2 dX12_hear_7 rfl ?_
  refine V_aload_0 dX12_hear_8 ?_
  refine V_aload_2 dX12_hear_9 ?_
  refine V_aload_0 dX12_hear_10 ?_
  refine V_getf dX12_hear_11 fl_X12_53 ho.ro rfl ?_
  refine V_aload_2 dX12_hear_14 ?_
  refine V_iload_1 dX12_hear_15 ?_
  obtain ⟨fc, hfc⟩ := hco.o
  refine V_call_i (runV2 dX12_hear_16 ce_X2_hearCase rfl ml_X12_107 im_X2_hearCase se_X2_hearCase hfc ⟨_, rfl, rfl⟩ (Nat.le_of_ble_eq_true rfl)) (by omega) (by omega) (by omega) (c_qHear h10 hco fun H2 g2 h10_ hco_ e2 => ?_)
  replace ho := ho.fr e2 (by decide)
  replace hnw := hnw.fr e2 (tkn0 (by decide))
  replace hsp := hsp.fr e2 (tkn0 (by decide))
  replace hel := hel.fr FRs e2 (by decide) (by decide)
  replace hw := hw.fr e2 (by decide)
  replace hs := hs.fr e2 (by decide)
  replace hu := hu.fr e2 (by decide)
  replace hco := hco_
  replace hdk := hdk.fr e2 (by decide)
  replace hse := hse.fr e2 (by decide)
  clear hco_
  replace E := E.trans (e2.wide (by decide))
  replace h10 := h10_
  have hR : RG G H2 g2 o (S, sn, tk, ea, wd, sc, ou, le, lf, (qHear x S K).2.2) := ⟨nw, sp, el, w, s, u, co, dk, se, ho, htk, hnw, hsp, hel, hw, hs, hu, hco, hdk, hse⟩
  clear ho htk hnw hsp hel hw hs hu hco hdk hse
  obtain ⟨fo, hfo⟩ := hR.o
  refine V_call_i (runV2 dX12_hear_19 ce_X12_accept rfl ml_X12_79 im_X12_accept se_X12_accept hfo ⟨_, rfl, rfl⟩ (Nat.le_of_ble_eq_true rfl)) (by omega) (by omega) (by omega) (c_accept hR h10 hea8 (fun hf H3 g3 hR_ e3 => ?_) (fun eE hE H3 hz hq => VX_out rfl (kx eE hE H3 g2 (hR.keep hz hq) (E.trans (Ext.keep hz hq)))))
  replace hR := hR_
  replace E := E.trans (e3.wide (by decide))
  exact V_reti dX12_hear_22 rfl rfl (kk hf H3 g3 hR E)
set_option maxHeartbeats 1000000 in
set_option maxRecDepth 100000 in
theorem c_fApp {G : GT} {X : String → Heap → Prop} {H : Heap} {g : Nat → Nat} {o : Nat} {R : RgC} {x : Int32} (hR : RG G H g o R) (hok : okS R.1) (hea : (rgE R).length ≤ 8) {F : Int32 → Heap → Prop} (kk : flt (qApp x R.1 (rgK R)).1 = none → ∀ (H1 : Heap) (g1 : Nat → Nat), RG G H1 g1 o (accR R (qApp x R.1 (rgK R)).2.1 (qApp x R.1 (rgK R)).2.2) → Ext G tsA H g H1 g1 → F (qApp x R.1 (rgK R)).1 H1) (kx : ∀ E : String, flt (qApp x R.1 (rgK R)).1 = some E → ∀ (H1 : Heap) (g1 : Nat → Nat), RG G H1 g1 o (setK R (qApp x R.1 (rgK R)).2.2) → Ext G tsA H g H1 g1 → X E H1) : Call G kX12_appeal 11 41 2121 [.ref o, .int x] H (qi F) X := by
  obtain ⟨S, sn, tk, ea, wd, sc, ou, le, lf, K⟩ := R
  have E : Ext G tsA H g H g := Ext.rf
  have hea8 : ea.length ≤ 8 := hea
  refine startL (L0 := [some (.ref o), some (.int x), none]) rfl rfl pl_X12_appeal (Nat.le_of_ble_eq_true rfl) ?_
  obtain ⟨nw, sp, el, w, s, u, co, dk, se, ho, htk, hnw, hsp, hel, hw, hs, hu, hco, hdk, hse⟩ := hR
  refine V_aload_0 dX12_appeal_0 ?_
  refine V_getf dX12_appeal_1 fl_X12_10 ho.ro rfl ?_
  obtain ⟨fn, hfn⟩ := hnw.o
  refine V_call_a (runV0 dX12_appeal_4 ce_X9_copy rfl ml_X12_71 im_X9_copy se_X9_copy hfn ⟨_, rfl, rfl⟩ (Nat.le_of_ble_eq_true rfl)) (by omega) (by omega) (by omega) (c_copyS hnw hok fun q H1 g1 h10 e1 => ?_)
  replace ho := ho.fr e1 (by decide)
  replace hnw := hnw.fr e1 (tkn0 (by decide))
  replace hsp := hsp.fr e1 (tkn0 (by decide))
  replace hel := hel.fr FRs e1 (by decide) (by decide)
  replace hw := hw.fr e1 (by decide)
  replace hs := hs.fr e1 (by decide)
  replace hu := hu.fr e1 (by decide)
  replace hco := hco.fr e1 (by decide)
  replace hdk := hdk.fr e1 (by decide)
  replace hse := hse.fr e1 (by decide)
  replace E := E.trans (e1.wide (by decide))
  refine V_astore_2 dX12_appeal_7 rfl ?_
  refine V_aload_0 dX12_appeal_8 ?_
  refine V_aload_2 dX12_appeal_9 ?_
  refine V_aload_0 dX12_appeal_10 ?_
  refine V_getf dX12_appeal_11 fl_X12_53 ho.ro rfl ?_
  refine V_aload_2 dX12_appeal_14 ?_
  refine V_iload_1 dX12_appeal_15 ?_
  obtain ⟨fc, hfc⟩ := hco.o
  refine V_call_i (runV2 dX12_appeal_16 ce_X2_appealCase rfl ml_X12_110 im_X2_appealCase se_X2_appealCase hfc ⟨_, rfl, rfl⟩ (Nat.le_of_ble_eq_true rfl)) (by omega) (by omega) (by omega) (c_qApp h10 hco fun H2 g2 h10_ hco_ e2 => ?_)
  replace ho := ho.fr e2 (by decide)
  replace hnw := hnw.fr e2 (tkn0 (by decide))
  replace hsp := hsp.fr e2 (tkn0 (by decide))
  replace hel := hel.fr FRs e2 (by decide) (by decide)
  replace hw := hw.fr e2 (by decide)
  replace hs := hs.fr e2 (by decide)
  replace hu := hu.fr e2 (by decide)
  replace hco := hco_
  replace hdk := hdk.fr e2 (by decide)
  replace hse := hse.fr e2 (by decide)
  clear hco_
  replace E := E.trans (e2.wide (by decide))
  replace h10 := h10_
  have hR : RG G H2 g2 o (S, sn, tk, ea, wd, sc, ou, le, lf, (qApp x S K).2.2) := ⟨nw, sp, el, w, s, u, co, dk, se, ho, htk, hnw, hsp, hel, hw, hs, hu, hco, hdk, hse⟩
  clear ho htk hnw hsp hel hw hs hu hco hdk hse
  obtain ⟨fo, hfo⟩ := hR.o
  refine V_call_i (runV2 dX12_appeal_19 ce_X12_accept rfl ml_X12_79 im_X12_accept se_X12_accept hfo ⟨_, rfl, rfl⟩ (Nat.le_of_ble_eq_true rfl)) (by omega) (by omega) (by omega) (c_accept hR h10 hea8 (fun hf H3 g3 hR_ e3 => ?_) (fun eE hE H3 hz hq => VX_out rfl (kx eE hE H3 g2 (hR.keep hz hq) (E.trans (Ext.keep hz hq)))))
  replace hR := hR_
  replace E := E.trans (e3.wide (by decide))
  exact V_reti dX12_appeal_22 rfl rfl (kk hf H3 g3 hR E)
set_option maxHeartbeats 1000000 in
set_option maxRecDepth 100000 in
theorem c_fWith {G : GT} {X : String → Heap → Prop} {H : Heap} {g : Nat → Nat} {o : Nat} {R : RgC} {x : Int32} (hR : RG G H g o R) (hok : okS R.1) (hea : (rgE R).length ≤ 8) {F : Int32 → Heap → Prop} (kk : flt (qWith x R.1).1 = none → ∀ (H1 : Heap) (g1 : Nat → Nat), RG G H1 g1 o (accR R (qWith x R.1).2 (rgK R)) → Ext G tsA H g H1 g1 → F (qWith x R.1).1 H1) (kx : ∀ E : String, flt (qWith x R.1).1 = some E → ∀ (H1 : Heap) (g1 : Nat → Nat), RG G H1 g1 o (R) → Ext G tsA H g H1 g1 → X E H1) : Call G kX12_withdraw 11 39 2105 [.ref o, .int x] H (qi F) X := by
  obtain ⟨S, sn, tk, ea, wd, sc, ou, le, lf, K⟩ := R
  have E : Ext G tsA H g H g := Ext.rf
  have hea8 : ea.length ≤ 8 := hea
  refine startL (L0 := [some (.ref o), some (.int x), none]) rfl rfl pl_X12_withdraw (Nat.le_of_ble_eq_true rfl) ?_
  obtain ⟨nw, sp, el, w, s, u, co, dk, se, ho, htk, hnw, hsp, hel, hw, hs, hu, hco, hdk, hse⟩ := hR
  refine V_aload_0 dX12_withdraw_0 ?_
  refine V_getf dX12_withdraw_1 fl_X12_10 ho.ro rfl ?_
  obtain ⟨fn, hfn⟩ := hnw.o
  refine V_call_a (runV0 dX12_withdraw_4 ce_X9_copy rfl ml_X12_71 im_X9_copy se_X9_copy hfn ⟨_, rfl, rfl⟩ (Nat.le_of_ble_eq_true rfl)) (by omega) (by omega) (by omega) (c_copyS hnw hok fun q H1 g1 h10 e1 => ?_)
  replace ho := ho.fr e1 (by decide)
  replace hnw := hnw.fr e1 (tkn0 (by decide))
  replace hsp := hsp.fr e1 (tkn0 (by decide))
  replace hel := hel.fr FRs e1 (by decide) (by decide)
  replace hw := hw.fr e1 (by decide)
  replace hs := hs.fr e1 (by decide)
  replace hu := hu.fr e1 (by decide)
  replace hco := hco.fr e1 (by decide)
  replace hdk := hdk.fr e1 (by decide)
  replace hse := hse.fr e1 (by decide)
  replace E := E.trans (e1.wide (by decide))
  refine V_astore_2 dX12_withdraw_7 rfl ?_
  refine V_aload_0 dX12_withdraw_8 ?_
  refine V_aload_2 dX12_withdraw_9 ?_
  refine V_aload_0 dX12_withdraw_10 ?_
  refine V_getf dX12_withdraw_11 fl_X12_53 ho.ro rfl ?_
  refine V_aload_2 dX12_withdraw_14 ?_
  refine V_iload_1 dX12_withdraw_15 ?_
  obtain ⟨fc, hfc⟩ := hco.o
  refine V_call_i (runV2 dX12_withdraw_16 ce_X2_withdrawCase rfl ml_X12_113 im_X2_withdrawCase se_X2_withdrawCase hfc ⟨_, rfl, rfl⟩ (Nat.le_of_ble_eq_true rfl)) (by omega) (by omega) (by omega) (c_qWith h10 hco fun H2 g2 h10_ hco_ e2 => ?_)
  replace ho := ho.fr e2 (by decide)
  replace hnw := hnw.fr e2 (tkn0 (by decide))
  replace hsp := hsp.fr e2 (tkn0 (by decide))
  replace hel := hel.fr FRs e2 (by decide) (by decide)
  replace hw := hw.fr e2 (by decide)
  replace hs := hs.fr e2 (by decide)
  replace hu := hu.fr e2 (by decide)
  replace hco := hco_
  replace hdk := hdk.fr e2 (by decide)
  replace hse := hse.fr e2 (by decide)
  clear hco_
  replace E := E.trans (e2.wide (by decide))
  replace h10 := h10_
  have hR : RG G H2 g2 o (S, sn, tk, ea, wd, sc, ou, le, lf, K) := ⟨nw, sp, el, w, s, u, co, dk, se, ho, htk, hnw, hsp, hel, hw, hs, hu, hco, hdk, hse⟩
  clear ho htk hnw hsp hel hw hs hu hco hdk hse
  obtain ⟨fo, hfo⟩ := hR.o
  refine V_call_i (runV2 dX12_withdraw_19 ce_X12_accept rfl ml_X12_79 im_X12_accept se_X12_accept hfo ⟨_, rfl, rfl⟩ (Nat.le_of_ble_eq_true rfl)) (by omega) (by omega) (by omega) (c_accept hR h10 hea8 (fun hf H3 g3 hR_ e3 => ?_) (fun eE hE H3 hz hq => VX_out rfl (kx eE hE H3 g2 (hR.keep hz hq) (E.trans (Ext.keep hz hq)))))
  replace hR := hR_
  replace E := E.trans (e3.wide (by decide))
  exact V_reti dX12_withdraw_22 rfl rfl (kk hf H3 g3 hR E)
set_option maxHeartbeats 1000000 in
set_option maxRecDepth 100000 in
theorem c_fClose {G : GT} {X : String → Heap → Prop} {H : Heap} {g : Nat → Nat} {o : Nat} {R : RgC} {x : Int32} (hR : RG G H g o R) (hok : okS R.1) (hea : (rgE R).length ≤ 8) {F : Int32 → Heap → Prop} (kk : flt (qClose x R.1).1 = none → ∀ (H1 : Heap) (g1 : Nat → Nat), RG G H1 g1 o (accR R (qClose x R.1).2 (rgK R)) → Ext G tsA H g H1 g1 → F (qClose x R.1).1 H1) (kx : ∀ E : String, flt (qClose x R.1).1 = some E → ∀ (H1 : Heap) (g1 : Nat → Nat), RG G H1 g1 o (R) → Ext G tsA H g H1 g1 → X E H1) : Call G kX12_close 11 39 2105 [.ref o, .int x] H (qi F) X := by
  obtain ⟨S, sn, tk, ea, wd, sc, ou, le, lf, K⟩ := R
  have E : Ext G tsA H g H g := Ext.rf
  have hea8 : ea.length ≤ 8 := hea
  refine startL (L0 := [some (.ref o), some (.int x), none]) rfl rfl pl_X12_close (Nat.le_of_ble_eq_true rfl) ?_
  obtain ⟨nw, sp, el, w, s, u, co, dk, se, ho, htk, hnw, hsp, hel, hw, hs, hu, hco, hdk, hse⟩ := hR
  refine V_aload_0 dX12_close_0 ?_
  refine V_getf dX12_close_1 fl_X12_10 ho.ro rfl ?_
  obtain ⟨fn, hfn⟩ := hnw.o
  refine V_call_a (runV0 dX12_close_4 ce_X9_copy rfl ml_X12_71 im_X9_copy se_X9_copy hfn ⟨_, rfl, rfl⟩ (Nat.le_of_ble_eq_true rfl)) (by omega) (by omega) (by omega) (c_copyS hnw hok fun q H1 g1 h10 e1 => ?_)
  replace ho := ho.fr e1 (by decide)
  replace hnw := hnw.fr e1 (tkn0 (by decide))
  replace hsp := hsp.fr e1 (tkn0 (by decide))
  replace hel := hel.fr FRs e1 (by decide) (by decide)
  replace hw := hw.fr e1 (by decide)
  replace hs := hs.fr e1 (by decide)
  replace hu := hu.fr e1 (by decide)
  replace hco := hco.fr e1 (by decide)
  replace hdk := hdk.fr e1 (by decide)
  replace hse := hse.fr e1 (by decide)
  replace E := E.trans (e1.wide (by decide))
  refine V_astore_2 dX12_close_7 rfl ?_
  refine V_aload_0 dX12_close_8 ?_
  refine V_aload_2 dX12_close_9 ?_
  refine V_aload_0 dX12_close_10 ?_
  refine V_getf dX12_close_11 fl_X12_53 ho.ro rfl ?_
  refine V_aload_2 dX12_close_14 ?_
  refine V_iload_1 dX12_close_15 ?_
  obtain ⟨fc, hfc⟩ := hco.o
  refine V_call_i (runV2 dX12_close_16 ce_X2_closeCase rfl ml_X12_116 im_X2_closeCase se_X2_closeCase hfc ⟨_, rfl, rfl⟩ (Nat.le_of_ble_eq_true rfl)) (by omega) (by omega) (by omega) (c_qClose h10 hco fun H2 g2 h10_ hco_ e2 => ?_)
  replace ho := ho.fr e2 (by decide)
  replace hnw := hnw.fr e2 (tkn0 (by decide))
  replace hsp := hsp.fr e2 (tkn0 (by decide))
  replace hel := hel.fr FRs e2 (by decide) (by decide)
  replace hw := hw.fr e2 (by decide)
  replace hs := hs.fr e2 (by decide)
  replace hu := hu.fr e2 (by decide)
  replace hco := hco_
  replace hdk := hdk.fr e2 (by decide)
  replace hse := hse.fr e2 (by decide)
  clear hco_
  replace E := E.trans (e2.wide (by decide))
  replace h10 := h10_
  have hR : RG G H2 g2 o (S, sn, tk, ea, wd, sc, ou, le, lf, K) := ⟨nw, sp, el, w, s, u, co, dk, se, ho, htk, hnw, hsp, hel, hw, hs, hu, hco, hdk, hse⟩
  clear ho htk hnw hsp hel hw hs hu hco hdk hse
  obtain ⟨fo, hfo⟩ := hR.o
  refine V_call_i (runV2 dX12_close_19 ce_X12_accept rfl ml_X12_79 im_X12_accept se_X12_accept hfo ⟨_, rfl, rfl⟩ (Nat.le_of_ble_eq_true rfl)) (by omega) (by omega) (by omega) (c_accept hR h10 hea8 (fun hf H3 g3 hR_ e3 => ?_) (fun eE hE H3 hz hq => VX_out rfl (kx eE hE H3 g2 (hR.keep hz hq) (E.trans (Ext.keep hz hq)))))
  replace hR := hR_
  replace E := E.trans (e3.wide (by decide))
  exact V_reti dX12_close_22 rfl rfl (kk hf H3 g3 hR E)
set_option maxHeartbeats 1000000 in
set_option maxRecDepth 100000 in
theorem c_fGive {G : GT} {X : String → Heap → Prop} {H : Heap} {g : Nat → Nat} {o : Nat} {R : RgC} {x : Int32} {y : Int32} {z : Int32} (hR : RG G H g o R) (hok : okS R.1) (hea : (rgE R).length ≤ 8) {F : Int32 → Heap → Prop} (kk : flt (qGive x y z R.1).1 = none → ∀ (H1 : Heap) (g1 : Nat → Nat), RG G H1 g1 o (accR R (qGive x y z R.1).2 (rgK R)) → Ext G tsA H g H1 g1 → F (qGive x y z R.1).1 H1) (kx : ∀ E : String, flt (qGive x y z R.1).1 = some E → ∀ (H1 : Heap) (g1 : Nat → Nat), RG G H1 g1 o (R) → Ext G tsA H g H1 g1 → X E H1) : Call G kX12_give 11 39 2105 [.ref o, .int x, .int y, .int z] H (qi F) X := by
  obtain ⟨S, sn, tk, ea, wd, sc, ou, le, lf, K⟩ := R
  have E : Ext G tsA H g H g := Ext.rf
  have hea8 : ea.length ≤ 8 := hea
  refine startL (L0 := [some (.ref o), some (.int x), some (.int y), some (.int z), none]) rfl rfl pl_X12_give (Nat.le_of_ble_eq_true rfl) ?_
  obtain ⟨nw, sp, el, w, s, u, co, dk, se, ho, htk, hnw, hsp, hel, hw, hs, hu, hco, hdk, hse⟩ := hR
  refine V_aload_0 dX12_give_0 ?_
  refine V_getf dX12_give_1 fl_X12_10 ho.ro rfl ?_
  obtain ⟨fn, hfn⟩ := hnw.o
  refine V_call_a (runV0 dX12_give_4 ce_X9_copy rfl ml_X12_71 im_X9_copy se_X9_copy hfn ⟨_, rfl, rfl⟩ (Nat.le_of_ble_eq_true rfl)) (by omega) (by omega) (by omega) (c_copyS hnw hok fun q H1 g1 h10 e1 => ?_)
  replace ho := ho.fr e1 (by decide)
  replace hnw := hnw.fr e1 (tkn0 (by decide))
  replace hsp := hsp.fr e1 (tkn0 (by decide))
  replace hel := hel.fr FRs e1 (by decide) (by decide)
  replace hw := hw.fr e1 (by decide)
  replace hs := hs.fr e1 (by decide)
  replace hu := hu.fr e1 (by decide)
  replace hco := hco.fr e1 (by decide)
  replace hdk := hdk.fr e1 (by decide)
  replace hse := hse.fr e1 (by decide)
  replace E := E.trans (e1.wide (by decide))
  refine V_astore_4 dX12_give_7 rfl ?_
  refine V_aload_0 dX12_give_9 ?_
  refine V_aload_4 dX12_give_10 ?_
  refine V_aload_0 dX12_give_12 ?_
  refine V_getf dX12_give_13 fl_X12_53 ho.ro rfl ?_
  refine V_aload_4 dX12_give_16 ?_
  refine V_iload_1 dX12_give_18 ?_
  refine V_iload_2 dX12_give_19 ?_
  refine V_iload_3 dX12_give_20 ?_
  obtain ⟨fc, hfc⟩ := hco.o
  refine V_call_i (runV4 dX12_give_21 ce_X2_moveCoins rfl ml_X12_119 im_X2_moveCoins se_X2_moveCoins hfc ⟨_, rfl, rfl⟩ (Nat.le_of_ble_eq_true rfl)) (by omega) (by omega) (by omega) (c_qGive h10 hco fun H2 g2 h10_ hco_ e2 => ?_)
  replace ho := ho.fr e2 (by decide)
  replace hnw := hnw.fr e2 (tkn0 (by decide))
  replace hsp := hsp.fr e2 (tkn0 (by decide))
  replace hel := hel.fr FRs e2 (by decide) (by decide)
  replace hw := hw.fr e2 (by decide)
  replace hs := hs.fr e2 (by decide)
  replace hu := hu.fr e2 (by decide)
  replace hco := hco_
  replace hdk := hdk.fr e2 (by decide)
  replace hse := hse.fr e2 (by decide)
  clear hco_
  replace E := E.trans (e2.wide (by decide))
  replace h10 := h10_
  have hR : RG G H2 g2 o (S, sn, tk, ea, wd, sc, ou, le, lf, K) := ⟨nw, sp, el, w, s, u, co, dk, se, ho, htk, hnw, hsp, hel, hw, hs, hu, hco, hdk, hse⟩
  clear ho htk hnw hsp hel hw hs hu hco hdk hse
  obtain ⟨fo, hfo⟩ := hR.o
  refine V_call_i (runV2 dX12_give_24 ce_X12_accept rfl ml_X12_79 im_X12_accept se_X12_accept hfo ⟨_, rfl, rfl⟩ (Nat.le_of_ble_eq_true rfl)) (by omega) (by omega) (by omega) (c_accept hR h10 hea8 (fun hf H3 g3 hR_ e3 => ?_) (fun eE hE H3 hz hq => VX_out rfl (kx eE hE H3 g2 (hR.keep hz hq) (E.trans (Ext.keep hz hq)))))
  replace hR := hR_
  replace E := E.trans (e3.wide (by decide))
  exact V_reti dX12_give_27 rfl rfl (kk hf H3 g3 hR E)
set_option maxHeartbeats 1000000 in
set_option maxRecDepth 100000 in
theorem c_fDays {G : GT} {X : String → Heap → Prop} {H : Heap} {g : Nat → Nat} {o : Nat} {R : RgC} {x : Int32} (hR : RG G H g o R) (hok : okS R.1) (hea : (rgE R).length ≤ 8) {F : Int32 → Heap → Prop} (kk : flt (qDays x R.1).1 = none → ∀ (H1 : Heap) (g1 : Nat → Nat), RG G H1 g1 o (accR R (qDays x R.1).2 (rgK R)) → Ext G tsA H g H1 g1 → F (qDays x R.1).1 H1) (kx : ∀ E : String, flt (qDays x R.1).1 = some E → ∀ (H1 : Heap) (g1 : Nat → Nat), RG G H1 g1 o (R) → Ext G tsA H g H1 g1 → X E H1) : Call G kX12_passDays 11 39 2105 [.ref o, .int x] H (qi F) X := by
  obtain ⟨S, sn, tk, ea, wd, sc, ou, le, lf, K⟩ := R
  have E : Ext G tsA H g H g := Ext.rf
  have hea8 : ea.length ≤ 8 := hea
  refine startL (L0 := [some (.ref o), some (.int x), none]) rfl rfl pl_X12_passDays (Nat.le_of_ble_eq_true rfl) ?_
  obtain ⟨nw, sp, el, w, s, u, co, dk, se, ho, htk, hnw, hsp, hel, hw, hs, hu, hco, hdk, hse⟩ := hR
  refine V_aload_0 dX12_passDays_0 ?_
  refine V_getf dX12_passDays_1 fl_X12_10 ho.ro rfl ?_
  obtain ⟨fn, hfn⟩ := hnw.o
  refine V_call_a (runV0 dX12_passDays_4 ce_X9_copy rfl ml_X12_71 im_X9_copy se_X9_copy hfn ⟨_, rfl, rfl⟩ (Nat.le_of_ble_eq_true rfl)) (by omega) (by omega) (by omega) (c_copyS hnw hok fun q H1 g1 h10 e1 => ?_)
  replace ho := ho.fr e1 (by decide)
  replace hnw := hnw.fr e1 (tkn0 (by decide))
  replace hsp := hsp.fr e1 (tkn0 (by decide))
  replace hel := hel.fr FRs e1 (by decide) (by decide)
  replace hw := hw.fr e1 (by decide)
  replace hs := hs.fr e1 (by decide)
  replace hu := hu.fr e1 (by decide)
  replace hco := hco.fr e1 (by decide)
  replace hdk := hdk.fr e1 (by decide)
  replace hse := hse.fr e1 (by decide)
  replace E := E.trans (e1.wide (by decide))
  refine V_astore_2 dX12_passDays_7 rfl ?_
  refine V_aload_0 dX12_passDays_8 ?_
  refine V_aload_2 dX12_passDays_9 ?_
  refine V_aload_0 dX12_passDays_10 ?_
  refine V_getf dX12_passDays_11 fl_X12_53 ho.ro rfl ?_
  refine V_aload_2 dX12_passDays_14 ?_
  refine V_iload_1 dX12_passDays_15 ?_
  obtain ⟨fc, hfc⟩ := hco.o
  refine V_call_i (runV2 dX12_passDays_16 ce_X2_letDaysPass rfl ml_X12_122 im_X2_letDaysPass se_X2_letDaysPass hfc ⟨_, rfl, rfl⟩ (Nat.le_of_ble_eq_true rfl)) (by omega) (by omega) (by omega) (c_qDays h10 hco fun H2 g2 h10_ hco_ e2 => ?_)
  replace ho := ho.fr e2 (by decide)
  replace hnw := hnw.fr e2 (tkn0 (by decide))
  replace hsp := hsp.fr e2 (tkn0 (by decide))
  replace hel := hel.fr FRs e2 (by decide) (by decide)
  replace hw := hw.fr e2 (by decide)
  replace hs := hs.fr e2 (by decide)
  replace hu := hu.fr e2 (by decide)
  replace hco := hco_
  replace hdk := hdk.fr e2 (by decide)
  replace hse := hse.fr e2 (by decide)
  clear hco_
  replace E := E.trans (e2.wide (by decide))
  replace h10 := h10_
  have hR : RG G H2 g2 o (S, sn, tk, ea, wd, sc, ou, le, lf, K) := ⟨nw, sp, el, w, s, u, co, dk, se, ho, htk, hnw, hsp, hel, hw, hs, hu, hco, hdk, hse⟩
  clear ho htk hnw hsp hel hw hs hu hco hdk hse
  obtain ⟨fo, hfo⟩ := hR.o
  refine V_call_i (runV2 dX12_passDays_19 ce_X12_accept rfl ml_X12_79 im_X12_accept se_X12_accept hfo ⟨_, rfl, rfl⟩ (Nat.le_of_ble_eq_true rfl)) (by omega) (by omega) (by omega) (c_accept hR h10 hea8 (fun hf H3 g3 hR_ e3 => ?_) (fun eE hE H3 hz hq => VX_out rfl (kx eE hE H3 g2 (hR.keep hz hq) (E.trans (Ext.keep hz hq)))))
  replace hR := hR_
  replace E := E.trans (e3.wide (by decide))
  exact V_reti dX12_passDays_22 rfl rfl (kk hf H3 g3 hR E)

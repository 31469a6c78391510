def K0 : ScC := (List.replicate 8 0, List.replicate 8 0, List.replicate 8 0, List.replicate 81 0)
def R0 : RgC := (S0, S0, 0, [], [], [], [], -1, -1, K0)
set_option maxHeartbeats 1000000 in
set_option maxRecDepth 100000 in
theorem c_rgInit {G : GT} {X : String → Heap → Prop} {H : Heap} {g : Nat → Nat} {o : Nat} {v0 v1 v2 v3 v4 v5 v6 v7 v8 v9 v10 v11 : Value} (ho : Ob G H g 1 o 15 [v0, v1, v2, v3, v4, v5, v6, v7, v8, v9, v10, v11]) {F : Heap → Prop} (kk : ∀ (H1 : Heap) (g1 : Nat → Nat), RG G H1 g1 o R0 → Ext G tsA H g H1 g1 → F H1) : Call G kX12_init 5 30 1000 [.ref o] H (qv F) X := by
  have E : Ext G tsA H g H g := Ext.rf
  refine startL (L0 := [some (.ref o)]) rfl rfl pl_X12_init (Nat.le_of_ble_eq_true rfl) ?_
  refine V_aload_0 dX12_init_0 ?_
  refine V_oinit dX12_init_1 ml_X12_1 ex_oiI ex_oiC (Nat.le_of_ble_eq_true rfl) (Nat.le_of_ble_eq_true rfl) ?_
  refine V_aload_0 dX12_init_4 ?_
  refine V_mk2 (g := g) 10 8 dX12_init_5 nw_X12_7 rfl (by omega) (by omega) fun nw H1 g1 hnw e1 z1 => ?_
  replace ho := ho.fr e1 (by simp)
  replace E := E.trans (e1.wide (by simp))
  refine V_dup dX12_init_8 rfl ?_
  refine V_call_v (runIN0 dX12_init_9 ce_X9_init rfl rfl rfl mln_X12_9 im_X9_init (Nat.le_of_ble_eq_true rfl)) (by omega) (by omega) (by omega) (c_stInit hnw fun H2 g2 hnw e2 => ?_)
  replace ho := ho.fr e2 (by decide)
  replace E := E.trans (e2.wide (by decide))
  replace hnw := hnw.frz
  have e3 : Ext G [10, 11, 12, 13, 14] H2 g2 H2 (gall G g2 [10, 11, 12, 13, 14] 0) := Ext.gall (Or.inl rfl)
  replace ho := ho.fr e3 (by decide)
  replace E := E.trans (e3.wide (by decide))
  refine V_put dX12_init_12 fp_X12_init_10 ho (by decide) ⟨rfl, rfl⟩ (Nat.le_of_ble_eq_true rfl) rfl fun H4 ho e4 z4 => ?_
  replace hnw := hnw.fr e4 (tkn0 (by decide))
  replace E := E.trans (e4.wide (by decide))
  refine V_aload_0 dX12_init_15 ?_
  refine V_aload_0 dX12_init_16 ?_
  refine V_getf dX12_init_17 fl_X12_10 ho.ro rfl ?_
  refine V_put dX12_init_20 fp_X12_init_16 ho (by decide) ⟨rfl, rfl⟩ (Nat.le_of_ble_eq_true rfl) rfl fun H5 ho e5 z5 => ?_
  replace hnw := hnw.fr e5 (tkn0 (by decide))
  replace E := E.trans (e5.wide (by decide))
  refine V_aload_0 dX12_init_23 ?_
  refine V_iconst (v := 0) dX12_init_24 rfl ?_
  refine V_put dX12_init_25 fp_X12_init_19 ho (by decide) ⟨rfl, rfl⟩ (Nat.le_of_ble_eq_true rfl) rfl fun H6 ho e6 z6 => ?_
  replace hnw := hnw.fr e6 (tkn0 (by decide))
  replace E := E.trans (e6.wide (by decide))
  refine V_aload_0 dX12_init_28 ?_
  refine V_mk2 (g := (gall G g2 [10, 11, 12, 13, 14] 0)) 2 3 dX12_init_29 nw_X12_23 rfl (by omega) (by omega) fun el H7 g7 hel e7 z7 => ?_
  replace ho := ho.fr e7 (by simp)
  replace hnw := hnw.fr e7 (tkn0 (by simp))
  replace E := E.trans (e7.wide (by simp))
  refine V_dup dX12_init_32 rfl ?_
  refine V_call_v (runI0 dX12_init_33 ce_Jx4a65c_init_da8c8 rfl rfl rfl ml_X12_25 im_Jx4a65c_init_da8c8 (Nat.le_of_ble_eq_true rfl)) (by omega) (by omega) (by omega) (c_alinit hel (by decide) fun H8 hel e8 => ?_)
  replace ho := ho.fr e8 (by decide)
  replace hnw := hnw.fr e8 (tkn0 (by decide))
  replace E := E.trans (e8.wide (by decide))
  have hel : GL G (isSt G) H8 g7 2 el [] := hel.GL
  refine V_put dX12_init_36 fp_X12_init_26 ho (by decide) ⟨rfl, rfl⟩ (Nat.le_of_ble_eq_true rfl) rfl fun H9 ho e9 z9 => ?_
  replace hnw := hnw.fr e9 (tkn0 (by decide))
  replace hel := hel.fr FRs e9 (by decide) (by decide)
  replace E := E.trans (e9.wide (by decide))
  refine V_aload_0 dX12_init_39 ?_
  refine V_mk2 (g := g7) 3 4 dX12_init_40 nw_X12_30 rfl (by omega) (by omega) fun w H10 g10 hw e10 z10 => ?_
  replace ho := ho.fr e10 (by simp)
  replace hnw := hnw.fr e10 (tkn0 (by simp))
  replace hel := hel.fr FRs e10 (by simp) (by simp)
  replace E := E.trans (e10.wide (by simp))
  refine V_dup dX12_init_43 rfl ?_
  refine V_call_v (runI0 dX12_init_44 ce_J4_init_da8c8 rfl rfl rfl ml_X12_32 im_J4_init_da8c8 (Nat.le_of_ble_eq_true rfl)) (by omega) (by omega) (by omega) (c_soInit hw (by decide) fun H11 g11 hw e11 => ?_)
  replace ho := ho.fr e11 (by decide)
  replace hnw := hnw.fr e11 (tkn0 (by decide))
  replace hel := hel.fr FRs e11 (by decide) (by decide)
  replace E := E.trans (e11.wide (by decide))
  refine V_put dX12_init_47 fp_X12_init_33 ho (by decide) ⟨rfl, rfl⟩ (Nat.le_of_ble_eq_true rfl) rfl fun H12 ho e12 z12 => ?_
  replace hnw := hnw.fr e12 (tkn0 (by decide))
  replace hel := hel.fr FRs e12 (by decide) (by decide)
  replace hw := hw.fr e12 (by decide)
  replace E := E.trans (e12.wide (by decide))
  refine V_aload_0 dX12_init_50 ?_
  refine V_mk2 (g := g11) 4 4 dX12_init_51 nw_X12_30 rfl (by omega) (by omega) fun s H13 g13 hs e13 z13 => ?_
  replace ho := ho.fr e13 (by simp)
  replace hnw := hnw.fr e13 (tkn0 (by simp))
  replace hel := hel.fr FRs e13 (by simp) (by simp)
  replace hw := hw.fr e13 (by simp)
  replace E := E.trans (e13.wide (by simp))
  refine V_dup dX12_init_54 rfl ?_
  refine V_call_v (runI0 dX12_init_55 ce_J4_init_da8c8 rfl rfl rfl ml_X12_32 im_J4_init_da8c8 (Nat.le_of_ble_eq_true rfl)) (by omega) (by omega) (by omega) (c_soInit hs (by decide) fun H14 g14 hs e14 => ?_)
  replace ho := ho.fr e14 (by decide)
  replace hnw := hnw.fr e14 (tkn0 (by decide))
  replace hel := hel.fr FRs e14 (by decide) (by decide)
  replace hw := hw.fr e14 (by decide)
  replace E := E.trans (e14.wide (by decide))
  refine V_put dX12_init_58 fp_X12_init_37 ho (by decide) ⟨rfl, rfl⟩ (Nat.le_of_ble_eq_true rfl) rfl fun H15 ho e15 z15 => ?_
  replace hnw := hnw.fr e15 (tkn0 (by decide))
  replace hel := hel.fr FRs e15 (by decide) (by decide)
  replace hw := hw.fr e15 (by decide)
  replace hs := hs.fr e15 (by decide)
  replace E := E.trans (e15.wide (by decide))
  refine V_aload_0 dX12_init_61 ?_
  refine V_mk2 (g := g14) 5 4 dX12_init_62 nw_X12_30 rfl (by omega) (by omega) fun u H16 g16 hu e16 z16 => ?_
  replace ho := ho.fr e16 (by simp)
  replace hnw := hnw.fr e16 (tkn0 (by simp))
  replace hel := hel.fr FRs e16 (by simp) (by simp)
  replace hw := hw.fr e16 (by simp)
  replace hs := hs.fr e16 (by simp)
  replace E := E.trans (e16.wide (by simp))
  refine V_dup dX12_init_65 rfl ?_
  refine V_call_v (runI0 dX12_init_66 ce_J4_init_da8c8 rfl rfl rfl ml_X12_32 im_J4_init_da8c8 (Nat.le_of_ble_eq_true rfl)) (by omega) (by omega) (by omega) (c_soInit hu (by decide) fun H17 g17 hu e17 => ?_)
  replace ho := ho.fr e17 (by decide)
  replace hnw := hnw.fr e17 (tkn0 (by decide))
  replace hel := hel.fr FRs e17 (by decide) (by decide)
  replace hw := hw.fr e17 (by decide)
  replace hs := hs.fr e17 (by decide)
  replace E := E.trans (e17.wide (by decide))
  refine V_put dX12_init_69 fp_X12_init_40 ho (by decide) ⟨rfl, rfl⟩ (Nat.le_of_ble_eq_true rfl) rfl fun H18 ho e18 z18 => ?_
  replace hnw := hnw.fr e18 (tkn0 (by decide))
  replace hel := hel.fr FRs e18 (by decide) (by decide)
  replace hw := hw.fr e18 (by decide)
  replace hs := hs.fr e18 (by decide)
  replace hu := hu.fr e18 (by decide)
  replace E := E.trans (e18.wide (by decide))
  refine V_aload_0 dX12_init_72 ?_
  refine V_iconst (v := (-1)) dX12_init_73 rfl ?_
  refine V_put dX12_init_74 fp_X12_init_43 ho (by decide) ⟨rfl, rfl⟩ (Nat.le_of_ble_eq_true rfl) rfl fun H19 ho e19 z19 => ?_
  replace hnw := hnw.fr e19 (tkn0 (by decide))
  replace hel := hel.fr FRs e19 (by decide) (by decide)
  replace hw := hw.fr e19 (by decide)
  replace hs := hs.fr e19 (by decide)
  replace hu := hu.fr e19 (by decide)
  replace E := E.trans (e19.wide (by decide))
  refine V_aload_0 dX12_init_77 ?_
  refine V_iconst (v := (-1)) dX12_init_78 rfl ?_
  refine V_put dX12_init_79 fp_X12_init_47 ho (by decide) ⟨rfl, rfl⟩ (Nat.le_of_ble_eq_true rfl) rfl fun H20 ho e20 z20 => ?_
  replace hnw := hnw.fr e20 (tkn0 (by decide))
  replace hel := hel.fr FRs e20 (by decide) (by decide)
  replace hw := hw.fr e20 (by decide)
  replace hs := hs.fr e20 (by decide)
  replace hu := hu.fr e20 (by decide)
  replace E := E.trans (e20.wide (by decide))
  refine V_aload_0 dX12_init_82 ?_
  refine V_mk2 (g := g17) 34 2 dX12_init_83 nw_X12_50 rfl (by omega) (by omega) fun co H21 g21 hco e21 z21 => ?_
  replace ho := ho.fr e21 (by simp)
  replace hnw := hnw.fr e21 (tkn0 (by simp))
  replace hel := hel.fr FRs e21 (by simp) (by simp)
  replace hw := hw.fr e21 (by simp)
  replace hs := hs.fr e21 (by simp)
  replace hu := hu.fr e21 (by simp)
  replace E := E.trans (e21.wide (by simp))
  refine V_dup dX12_init_86 rfl ?_
  refine V_call_v (runIN0 dX12_init_87 ce_X2_init rfl rfl rfl mln_X12_52 im_X2_init (Nat.le_of_ble_eq_true rfl)) (by omega) (by omega) (by omega) (c_coInit hco fun H22 g22 th p p2 p3 ru qf qs qt hco b1 b2 b3 b4 b5 b6 e22 => ?_)
  replace ho := ho.fr e22 (by decide)
  replace hnw := hnw.fr e22 (tkn0 (by decide))
  replace hel := hel.fr FRs e22 (by decide) (by decide)
  replace hw := hw.fr e22 (by decide)
  replace hs := hs.fr e22 (by decide)
  replace hu := hu.fr e22 (by decide)
  replace E := E.trans (e22.wide (by decide))
  replace hco := hco.rz
  have e23 : Ext G [34] H22 g22 H22 (gall G g22 [34] 0) := Ext.gall (Or.inl rfl)
  replace ho := ho.fr e23 (by decide)
  replace hnw := hnw.fr e23 (tkn0 (by decide))
  replace hel := hel.fr FRs e23 (by decide) (by decide)
  replace hw := hw.fr e23 (by decide)
  replace hs := hs.fr e23 (by decide)
  replace hu := hu.fr e23 (by decide)
  replace E := E.trans (e23.wide (by decide))
  have hcr : Crt G H22 (gall G g22 [34] 0) co K0 := ⟨th, p, p2, p3, ru, qf, qs, qt, hco, b1.fr e23 (by decide), b3.fr e23 (by decide), b2.fr e23 (by decide), b4.fr e23 (by decide), b5.fr e23 (by decide), b6.fr e23 (by decide)⟩
  clear hco b1 b2 b3 b4 b5 b6
  refine V_put dX12_init_90 fp_X12_init_53 ho (by decide) ⟨rfl, rfl⟩ (Nat.le_of_ble_eq_true rfl) rfl fun H24 ho e24 z24 => ?_
  replace hnw := hnw.fr e24 (tkn0 (by decide))
  replace hel := hel.fr FRs e24 (by decide) (by decide)
  replace hw := hw.fr e24 (by decide)
  replace hs := hs.fr e24 (by decide)
  replace hu := hu.fr e24 (by decide)
  replace hcr := hcr.fr e24 (by decide)
  replace E := E.trans (e24.wide (by decide))
  refine V_aload_0 dX12_init_93 ?_
  refine V_mk2 (g := (gall G g22 [34] 0)) 35 2 dX12_init_94 nw_X12_57 rfl (by omega) (by omega) fun dk H25 g25 hdk e25 z25 => ?_
  replace ho := ho.fr e25 (by simp)
  replace hnw := hnw.fr e25 (tkn0 (by simp))
  replace hel := hel.fr FRs e25 (by simp) (by simp)
  replace hw := hw.fr e25 (by simp)
  replace hs := hs.fr e25 (by simp)
  replace hu := hu.fr e25 (by simp)
  replace hcr := hcr.fr e25 (by simp)
  replace E := E.trans (e25.wide (by simp))
  refine V_dup dX12_init_97 rfl ?_
  refine V_call_v (runIN0 dX12_init_98 ce_X3_init rfl rfl rfl mln_X12_59 im_X3_init (Nat.le_of_ble_eq_true rfl)) (by omega) (by omega) (by omega) (c_doInit hdk fun H26 g26 fl ba hdk b1 b2 e26 => ?_)
  replace ho := ho.fr e26 (by decide)
  replace hnw := hnw.fr e26 (tkn0 (by decide))
  replace hel := hel.fr FRs e26 (by decide) (by decide)
  replace hw := hw.fr e26 (by decide)
  replace hs := hs.fr e26 (by decide)
  replace hu := hu.fr e26 (by decide)
  replace hcr := hcr.fr e26 (by decide)
  replace E := E.trans (e26.wide (by decide))
  replace hdk := hdk.rz
  have e27 : Ext G [35] H26 g26 H26 (gall G g26 [35] 0) := Ext.gall (Or.inl rfl)
  replace ho := ho.fr e27 (by decide)
  replace hnw := hnw.fr e27 (tkn0 (by decide))
  replace hel := hel.fr FRs e27 (by decide) (by decide)
  replace hw := hw.fr e27 (by decide)
  replace hs := hs.fr e27 (by decide)
  replace hu := hu.fr e27 (by decide)
  replace hcr := hcr.fr e27 (by decide)
  replace E := E.trans (e27.wide (by decide))
  have hdo : DkO G H26 (gall G g26 [35] 0) dk := ⟨fl, ba, _, _, hdk, b1.fr e27 (by decide) (by decide), b2.fr e27 (by decide)⟩
  clear hdk b1 b2
  refine V_put dX12_init_101 fp_X12_init_60 ho (by decide) ⟨rfl, rfl⟩ (Nat.le_of_ble_eq_true rfl) rfl fun H28 ho e28 z28 => ?_
  replace hnw := hnw.fr e28 (tkn0 (by decide))
  replace hel := hel.fr FRs e28 (by decide) (by decide)
  replace hw := hw.fr e28 (by decide)
  replace hs := hs.fr e28 (by decide)
  replace hu := hu.fr e28 (by decide)
  replace hcr := hcr.fr e28 (by decide)
  replace hdo := hdo.fr e28 (by decide)
  replace E := E.trans (e28.wide (by decide))
  refine V_aload_0 dX12_init_104 ?_
  refine V_mk2 (g := (gall G g26 [35] 0)) 29 3 dX12_init_105 nw_X12_64 rfl (by omega) (by omega) fun se H29 g29 hse e29 z29 => ?_
  replace ho := ho.fr e29 (by simp)
  replace hnw := hnw.fr e29 (tkn0 (by simp))
  replace hel := hel.fr FRs e29 (by simp) (by simp)
  replace hw := hw.fr e29 (by simp)
  replace hs := hs.fr e29 (by simp)
  replace hu := hu.fr e29 (by simp)
  replace hcr := hcr.fr e29 (by simp)
  replace hdo := hdo.fr e29 (by simp)
  replace E := E.trans (e29.wide (by simp))
  refine V_dup dX12_init_108 rfl ?_
  refine V_call_v (runIN0 dX12_init_109 ce_X8_init rfl rfl rfl mln_X12_66 im_X8_init (Nat.le_of_ble_eq_true rfl)) (by omega) (by omega) (by omega) (c_seInit hse fun H30 g30 ac mp hse b1 b2 e30 => ?_)
  replace ho := ho.fr e30 (by decide)
  replace hnw := hnw.fr e30 (tkn0 (by decide))
  replace hel := hel.fr FRs e30 (by decide) (by decide)
  replace hw := hw.fr e30 (by decide)
  replace hs := hs.fr e30 (by decide)
  replace hu := hu.fr e30 (by decide)
  replace hcr := hcr.fr e30 (by decide)
  replace hdo := hdo.fr e30 (by decide)
  replace E := E.trans (e30.wide (by decide))
  have hso : SeO G H30 g30 se := ⟨ac, mp, _, _, _, ⟨hse, by decide⟩, b1, b2, rfl⟩
  clear hse b1 b2
  refine V_put dX12_init_112 fp_X12_init_67 ho (by decide) ⟨rfl, rfl⟩ (Nat.le_of_ble_eq_true rfl) rfl fun H31 ho e31 z31 => ?_
  replace hnw := hnw.fr e31 (tkn0 (by decide))
  replace hel := hel.fr FRs e31 (by decide) (by decide)
  replace hw := hw.fr e31 (by decide)
  replace hs := hs.fr e31 (by decide)
  replace hu := hu.fr e31 (by decide)
  replace hcr := hcr.fr e31 (by decide)
  replace hdo := hdo.fr e31 (by decide)
  replace hso := hso.fr e31 (by decide)
  replace E := E.trans (e31.wide (by decide))
  exact V_retv dX12_init_115 rfl (kk H31 g30 ⟨nw, nw, el, w, s, u, co, dk, se, ho, Or.inl rfl, hnw, hnw, hel, hw, hs, hu, hcr, hdo, hso⟩ E)
set_option maxHeartbeats 1000000 in
set_option maxRecDepth 100000 in
theorem c_fClr {G : GT} {X : String → Heap → Prop} {H : Heap} {g : Nat → Nat} {o : Nat} {R : RgC} (hR : RG G H g o R) {F : Int32 → Heap → Prop} (kk : ∀ (H1 : Heap) (g1 : Nat → Nat), RG G H1 g1 o (setW R []) → Ext G tsA H g H1 g1 → F (nI (rgW R).length) H1) : Call G kX12_clearWord 3 0 0 [.ref o] H (qi F) X := by
  obtain ⟨S, sn, tk, ea, wd, sc, ou, le, lf, K⟩ := R
  have E : Ext G tsA H g H g := Ext.rf
  refine startL (L0 := [some (.ref o), none]) rfl rfl pl_X12_clearWord (Nat.le_of_ble_eq_true rfl) ?_
  obtain ⟨nw, sp, el, w, s, u, co, dk, se, ho, htk, hnw, hsp, hel, hw, hs, hu, hco, hdk, hse⟩ := hR
  refine V_aload_0 dX12_clearWord_0 ?_
  refine V_getf dX12_clearWord_1 fl_X12_33 ho.ro rfl ?_
  obtain ⟨fw, hfw⟩ := hw.o
  refine V_call_i (runV0 dX12_clearWord_4 ce_J4_length_8abf5 rfl ml_X12_173 im_J4_length_8abf5 se_J4_length_8abf5 hfw ⟨_, rfl, rfl⟩ (Nat.le_of_ble_eq_true rfl)) (by omega) (by omega) (by omega) (c_soLen hw ?_)
  refine V_istore_1 dX12_clearWord_7 rfl ?_
  refine V_aload_0 dX12_clearWord_8 ?_
  refine V_getf dX12_clearWord_9 fl_X12_33 ho.ro rfl ?_
  refine V_iconst (v := 0) dX12_clearWord_12 rfl ?_
  refine V_call_v (runV1 dX12_clearWord_13 ce_J4_setLength_d00df rfl ml_X12_99 im_J4_setLength_d00df se_J4_setLength_d00df hfw ⟨_, rfl, rfl⟩ (Nat.le_of_ble_eq_true rfl)) (by omega) (by omega) (by omega) (c_soSet0 hw (by decide) fun H1 hw_ e1 => ?_)
  replace ho := ho.fr e1 (by decide)
  replace hnw := hnw.fr e1 (tkn0 (by decide))
  replace hsp := hsp.fr e1 (tkn0 (by decide))
  replace hel := hel.fr FRs e1 (by decide) (by decide)
  replace hw := hw_
  replace hs := hs.fr e1 (by decide)
  replace hu := hu.fr e1 (by decide)
  replace hco := hco.fr e1 (by decide)
  replace hdk := hdk.fr e1 (by decide)
  replace hse := hse.fr e1 (by decide)
  clear hw_
  replace E := E.trans (e1.wide (by decide))
  have hR : RG G H1 g o (S, sn, tk, ea, [], sc, ou, le, lf, K) := ⟨nw, sp, el, w, s, u, co, dk, se, ho, htk, hnw, hsp, hel, hw, hs, hu, hco, hdk, hse⟩
  refine V_iload_1 dX12_clearWord_16 ?_
  exact V_reti dX12_clearWord_17 rfl rfl (kk H1 g hR E)
theorem isLet_asc {x : Int32} (h : ¬ isLet x = 0) : 0 ≤ x ∧ x < 128 := by
  unfold isLet at h
  split at h
  · exact absurd rfl h
  · split at h
    · exact absurd rfl h
    · rename_i h1 h2
      exact ⟨Int32.le_trans (by decide) (Int32.not_lt.mp h1), Int32.lt_of_le_of_lt (Int32.not_lt.mp h2) (by decide)⟩
set_option maxHeartbeats 1000000 in
set_option maxRecDepth 100000 in
theorem c_fType {G : GT} {X : String → Heap → Prop} {H : Heap} {g : Nat → Nat} {o : Nat} {R : RgC} {x : Int32} (hR : RG G H g o R) {F : Int32 → Heap → Prop} (kk : ¬ isLet x = 0 → (rgW R).length < 8 → ∀ (H1 : Heap) (g1 : Nat → Nat), RG G H1 g1 o (setW R (rgW R ++ [x])) → Ext G tsA H g H1 g1 → F (nI (rgW R ++ [x]).length) H1) (kx1 : isLet x = 0 → ∀ (H1 : Heap) (g1 : Nat → Nat), RG G H1 g1 o R → Ext G tsA H g H1 g1 → X "java/lang/IllegalArgumentException" H1) (kx2 : ¬ isLet x = 0 → 8 ≤ (rgW R).length → ∀ (H1 : Heap) (g1 : Nat → Nat), RG G H1 g1 o R → Ext G tsA H g H1 g1 → X "java/lang/IllegalStateException" H1) : Call G kX12_typeLetter 7 1 286 [.ref o, .int x] H (qi F) X := by
  obtain ⟨S, sn, tk, ea, wd, sc, ou, le, lf, K⟩ := R
  have E : Ext G tsA H g H g := Ext.rf
  refine startL (L0 := [some (.ref o), some (.int x)]) rfl rfl pl_X12_typeLetter (Nat.le_of_ble_eq_true rfl) ?_
  obtain ⟨nw, sp, el, w, s, u, co, dk, se, ho, htk, hnw, hsp, hel, hw, hs, hu, hco, hdk, hse⟩ := hR
  refine V_iload_1 dX12_typeLetter_0 ?_
  refine V_call_i (runS1 dX12_typeLetter_1 ce_X12_isLetter rfl ml_X12_167 st_X12_isLetter (Nat.le_of_ble_eq_true rfl)) (by omega) (by omega) (by omega) (c_isLet ?_)
  refine V_if_ne (tgt := 17) dX12_typeLetter_4 (by decide) (fun c_4 => ?_) (fun c_4 => ?_)
  · refine V_aload_0 dX12_typeLetter_17 ?_
    refine V_getf dX12_typeLetter_18 fl_X12_33 ho.ro rfl ?_
    obtain ⟨fw, hfw⟩ := hw.o
    refine V_call_i (runV0 dX12_typeLetter_21 ce_J4_length_8abf5 rfl ml_X12_173 im_J4_length_8abf5 se_J4_length_8abf5 hfw ⟨_, rfl, rfl⟩ (Nat.le_of_ble_eq_true rfl)) (by omega) (by omega) (by omega) (c_soLen hw ?_)
    refine V_bipush (v := 8) dX12_typeLetter_24 (by decide) ?_
    refine V_icmp_lt (tgt := 39) dX12_typeLetter_26 (by decide) (fun c_26 => ?_) (fun c_26 => ?_)
    · refine V_aload_0 dX12_typeLetter_39 ?_
      refine V_getf dX12_typeLetter_40 fl_X12_33 ho.ro rfl ?_
      refine V_iload_1 dX12_typeLetter_43 ?_
      have h8 := nI_lt8 c_26
      have hl8 := hw.len
      refine V_call_a (runV1 dX12_typeLetter_44 ce_J4_append_cf468 rfl ml_X12_178 im_J4_append_cf468 se_J4_append_cf468 hfw ⟨_, rfl, rfl⟩ (Nat.le_of_ble_eq_true rfl)) (by omega) (by omega) (by omega) (c_soC hw (isLet_asc c_4) (by omega) (by decide) fun H1 g1 hw_ e1 => ?_)
      replace ho := ho.fr e1 (by decide)
      replace hnw := hnw.fr e1 (tkn0 (by decide))
      replace hsp := hsp.fr e1 (tkn0 (by decide))
      replace hel := hel.fr FRs e1 (by decide) (by decide)
      replace hw := hw_
      replace hs := hs.fr e1 (by decide)
      replace hu := hu.fr e1 (by decide)
      replace hco := hco.fr e1 (by decide)
      replace hdk := hdk.fr e1 (by decide)
      replace hse := hse.fr e1 (by decide)
      clear hw_
      replace E := E.trans (e1.wide (by decide))
      refine V_pop dX12_typeLetter_47 rfl ?_
      refine V_aload_0 dX12_typeLetter_48 ?_
      refine V_getf dX12_typeLetter_49 fl_X12_33 ho.ro rfl ?_
      obtain ⟨fw, hfw⟩ := hw.o
      refine V_call_i (runV0 dX12_typeLetter_52 ce_J4_length_8abf5 rfl ml_X12_173 im_J4_length_8abf5 se_J4_length_8abf5 hfw ⟨_, rfl, rfl⟩ (Nat.le_of_ble_eq_true rfl)) (by omega) (by omega) (by omega) (c_soLen hw ?_)
      have hR : RG G H1 g1 o (S, sn, tk, ea, (wd ++ [x]), sc, ou, le, lf, K) := ⟨nw, sp, el, w, s, u, co, dk, se, ho, htk, hnw, hsp, hel, hw, hs, hu, hco, hdk, hse⟩
      exact V_reti dX12_typeLetter_55 rfl rfl (kk c_4 (by show wd.length < 8; omega) H1 g1 hR E)
    · have hR : RG G H g o (S, sn, tk, ea, wd, sc, ou, le, lf, K) := ⟨nw, sp, el, w, s, u, co, dk, se, ho, htk, hnw, hsp, hel, hw, hs, hu, hco, hdk, hse⟩
      exact V_throwS (i := 12) (by decide +kernel) tc_IllegalState ti_IllegalState tw_IllegalState tg_IllegalState rfl dX12_typeLetter_29 dX12_typeLetter_32 dX12_typeLetter_33 dX12_typeLetter_35 dX12_typeLetter_38 rfl (by omega) (by omega) (by omega) (Nat.le_of_ble_eq_true rfl) (fun H1 hz hq => kx2 c_4 (nI_ge8 c_26) H1 g (hR.keep hz hq) (E.trans (Ext.keep hz hq)))
  · have hR : RG G H g o (S, sn, tk, ea, wd, sc, ou, le, lf, K) := ⟨nw, sp, el, w, s, u, co, dk, se, ho, htk, hnw, hsp, hel, hw, hs, hu, hco, hdk, hse⟩
    exact V_throwS (i := 11) (by decide +kernel) tc_IllegalArg ti_IllegalArg tw_IllegalArg tg_IllegalArg rfl dX12_typeLetter_7 dX12_typeLetter_10 dX12_typeLetter_11 dX12_typeLetter_13 dX12_typeLetter_16 rfl (by omega) (by omega) (by omega) (Nat.le_of_ble_eq_true rfl) (fun H1 hz hq => kx1 c_4 H1 g (hR.keep hz hq) (E.trans (Ext.keep hz hq)))
def isChr (x : Int32) : Int32 := if x < 32 then 0 else if 126 < x then 0 else 1
theorem isChr_asc {x : Int32} (h : isChr x = 1) : 0 ≤ x ∧ x < 128 := by
  unfold isChr at h
  split at h
  · cases h
  · split at h
    · cases h
    · rename_i h1 h2
      exact ⟨Int32.le_trans (by decide) (Int32.not_lt.mp h1), Int32.lt_of_le_of_lt (Int32.not_lt.mp h2) (by decide)⟩
theorem nI_ltN {n k : Nat} (hn : n < 2 ^ 31) (hk : k < 2 ^ 31) (h : nI n < nI k) : n < k := (nI_ltI hn hk).mp h
theorem nI_geN {n k : Nat} (hk : k < 2 ^ 31) (h : ¬ nI n < nI k) : k ≤ n := by
  rcases Nat.lt_or_ge n k with q | q
  · exact absurd (nI_lt q hk) h
  · exact q
set_option maxHeartbeats 1000000 in
set_option maxRecDepth 100000 in
theorem c_fTyp {G : GT} {X : String → Heap → Prop} {H : Heap} {g : Nat → Nat} {o : Nat} {R : RgC} {x : Int32} (hR : RG G H g o R) {F : Int32 → Heap → Prop} (kk : isChr x = 1 → (rgX R).length < 60 → ∀ (H1 : Heap) (g1 : Nat → Nat), RG G H1 g1 o (setX R (rgX R ++ [x])) → Ext G tsA H g H1 g1 → F (nI (rgX R ++ [x]).length) H1) (kx1 : isChr x = 0 → ∀ (H1 : Heap) (g1 : Nat → Nat), RG G H1 g1 o R → Ext G tsA H g H1 g1 → X "java/lang/IllegalArgumentException" H1) (kx2 : isChr x = 1 → 60 ≤ (rgX R).length → ∀ (H1 : Heap) (g1 : Nat → Nat), RG G H1 g1 o R → Ext G tsA H g H1 g1 → X "java/lang/IllegalStateException" H1) : Call G kX12_type 7 1 286 [.ref o, .int x] H (qi F) X := by
  obtain ⟨S, sn, tk, ea, wd, sc, ou, le, lf, K⟩ := R
  have E : Ext G tsA H g H g := Ext.rf
  refine startL (L0 := [some (.ref o), some (.int x)]) rfl rfl pl_X12_type (Nat.le_of_ble_eq_true rfl) ?_
  obtain ⟨nw, sp, el, w, s, u, co, dk, se, ho, htk, hnw, hsp, hel, hw, hs, hu, hco, hdk, hse⟩ := hR
  refine V_iload_1 dX12_type_0 ?_
  refine V_bipush (v := 32) dX12_type_1 (by decide) ?_
  refine V_icmp_lt (tgt := 12) dX12_type_3 (by decide) (fun c_3 => ?_) (fun c_3 => ?_)
  · have hR : RG G H g o (S, sn, tk, ea, wd, sc, ou, le, lf, K) := ⟨nw, sp, el, w, s, u, co, dk, se, ho, htk, hnw, hsp, hel, hw, hs, hu, hco, hdk, hse⟩
    exact V_throwSW (i := 15) (by decide +kernel) tc_IllegalArg ti_IllegalArg tw_IllegalArg tg_IllegalArg rfl dX12_type_12 dX12_type_15 dX12_type_16 dX12_type_19 dX12_type_22 rfl (by omega) (by omega) (by omega) (Nat.le_of_ble_eq_true rfl) (fun H1 hz hq => kx1 (by unfold isChr; rw [if_pos c_3]) H1 g (hR.keep hz hq) (E.trans (Ext.keep hz hq)))
  · refine V_iload_1 dX12_type_6 ?_
    refine V_bipush (v := 126) dX12_type_7 (by decide) ?_
    refine V_icmp_le (tgt := 23) dX12_type_9 (by decide) (fun c_9 => ?_) (fun c_9 => ?_)
    · have hx : isChr x = 1 := by unfold isChr; rw [if_neg c_3, if_neg (Int32.not_lt.mpr c_9)]
      refine V_aload_0 dX12_type_23 ?_
      refine V_getf dX12_type_24 fl_X12_37 ho.ro rfl ?_
      obtain ⟨fw, hfw⟩ := hs.o
      refine V_call_i (runV0 dX12_type_27 ce_J4_length_8abf5 rfl ml_X12_173 im_J4_length_8abf5 se_J4_length_8abf5 hfw ⟨_, rfl, rfl⟩ (Nat.le_of_ble_eq_true rfl)) (by omega) (by omega) (by omega) (c_soLen hs ?_)
      refine V_bipush (v := 60) dX12_type_30 (by decide) ?_
      have hl8 := hs.len
      refine V_icmp_lt (tgt := 46) dX12_type_32 (by decide) (fun c_32 => ?_) (fun c_32 => ?_)
      · have h60 : sc.length < 60 := nI_ltN (by omega) (by decide) c_32
        refine V_aload_0 dX12_type_46 ?_
        refine V_getf dX12_type_47 fl_X12_37 ho.ro rfl ?_
        refine V_iload_1 dX12_type_50 ?_
        refine V_call_a (runV1 dX12_type_51 ce_J4_append_cf468 rfl ml_X12_178 im_J4_append_cf468 se_J4_append_cf468 hfw ⟨_, rfl, rfl⟩ (Nat.le_of_ble_eq_true rfl)) (by omega) (by omega) (by omega) (c_soC hs (isChr_asc hx) (by omega) (by decide) fun H1 g1 hs_ e1 => ?_)
        replace ho := ho.fr e1 (by decide)
        replace hnw := hnw.fr e1 (tkn0 (by decide))
        replace hsp := hsp.fr e1 (tkn0 (by decide))
        replace hel := hel.fr FRs e1 (by decide) (by decide)
        replace hw := hw.fr e1 (by decide)
        replace hs := hs_
        replace hu := hu.fr e1 (by decide)
        replace hco := hco.fr e1 (by decide)
        replace hdk := hdk.fr e1 (by decide)
        replace hse := hse.fr e1 (by decide)
        clear hs_
        replace E := E.trans (e1.wide (by decide))
        refine V_pop dX12_type_54 rfl ?_
        refine V_aload_0 dX12_type_55 ?_
        refine V_getf dX12_type_56 fl_X12_37 ho.ro rfl ?_
        obtain ⟨fw, hfw⟩ := hs.o
        refine V_call_i (runV0 dX12_type_59 ce_J4_length_8abf5 rfl ml_X12_173 im_J4_length_8abf5 se_J4_length_8abf5 hfw ⟨_, rfl, rfl⟩ (Nat.le_of_ble_eq_true rfl)) (by omega) (by omega) (by omega) (c_soLen hs ?_)
        have hR : RG G H1 g1 o (S, sn, tk, ea, wd, (sc ++ [x]), ou, le, lf, K) := ⟨nw, sp, el, w, s, u, co, dk, se, ho, htk, hnw, hsp, hel, hw, hs, hu, hco, hdk, hse⟩
        exact V_reti dX12_type_62 rfl rfl (kk hx h60 H1 g1 hR E)
      · have hR : RG G H g o (S, sn, tk, ea, wd, sc, ou, le, lf, K) := ⟨nw, sp, el, w, s, u, co, dk, se, ho, htk, hnw, hsp, hel, hw, hs, hu, hco, hdk, hse⟩
        exact V_throwSW (i := 16) (by decide +kernel) tc_IllegalState ti_IllegalState tw_IllegalState tg_IllegalState rfl dX12_type_35 dX12_type_38 dX12_type_39 dX12_type_42 dX12_type_45 rfl (by omega) (by omega) (by omega) (Nat.le_of_ble_eq_true rfl) (fun H1 hz hq => kx2 hx (nI_geN (by decide) c_32) H1 g (hR.keep hz hq) (E.trans (Ext.keep hz hq)))
    · have hR : RG G H g o (S, sn, tk, ea, wd, sc, ou, le, lf, K) := ⟨nw, sp, el, w, s, u, co, dk, se, ho, htk, hnw, hsp, hel, hw, hs, hu, hco, hdk, hse⟩
      exact V_throwSW (i := 15) (by decide +kernel) tc_IllegalArg ti_IllegalArg tw_IllegalArg tg_IllegalArg rfl dX12_type_12 dX12_type_15 dX12_type_16 dX12_type_19 dX12_type_22 rfl (by omega) (by omega) (by omega) (Nat.le_of_ble_eq_true rfl) (fun H1 hz hq => kx1 (by unfold isChr; rw [if_neg c_3, if_pos (Int32.not_le.mp c_9)]) H1 g (hR.keep hz hq) (E.trans (Ext.keep hz hq)))
set_option maxHeartbeats 1000000 in
set_option maxRecDepth 100000 in
theorem c_fErr {G : GT} {X : String → Heap → Prop} {H : Heap} {g : Nat → Nat} {o : Nat} {R : RgC} (hR : RG G H g o R) {F : Int32 → Heap → Prop} (kk : ¬ R.2.2.2.2.2.2.2.1 = -1 → ∀ (H1 : Heap) (g1 : Nat → Nat), RG G H1 g1 o R → Ext G tsA H g H1 g1 → F (R.2.2.2.2.2.2.2.1) H1) (kx : R.2.2.2.2.2.2.2.1 = -1 → ∀ (H1 : Heap) (g1 : Nat → Nat), RG G H1 g1 o R → Ext G tsA H g H1 g1 → X "java/util/NoSuchElementException" H1) : Call G kX12_errorPosition 6 1 6 [.ref o] H (qi F) X := by
  obtain ⟨S, sn, tk, ea, wd, sc, ou, le, lf, K⟩ := R
  have E : Ext G tsA H g H g := Ext.rf
  refine startL (L0 := [some (.ref o)]) rfl rfl pl_X12_errorPosition (Nat.le_of_ble_eq_true rfl) ?_
  obtain ⟨nw, sp, el, w, s, u, co, dk, se, ho, htk, hnw, hsp, hel, hw, hs, hu, hco, hdk, hse⟩ := hR
  refine V_aload_0 dX12_errorPosition_0 ?_
  refine V_getf dX12_errorPosition_1 fl_X12_43 ho.ro rfl ?_
  refine V_iconst (v := (-1)) dX12_errorPosition_4 rfl ?_
  refine V_icmp_ne (tgt := 19) dX12_errorPosition_5 (by decide) (fun c_5 => ?_) (fun c_5 => ?_)
  · refine V_aload_0 dX12_errorPosition_19 ?_
    refine V_getf dX12_errorPosition_20 fl_X12_43 ho.ro rfl ?_
    have hR : RG G H g o (S, sn, tk, ea, wd, sc, ou, le, lf, K) := ⟨nw, sp, el, w, s, u, co, dk, se, ho, htk, hnw, hsp, hel, hw, hs, hu, hco, hdk, hse⟩
    exact V_reti dX12_errorPosition_23 rfl rfl (kk c_5 H g hR E)
  · have hR : RG G H g o (S, sn, tk, ea, wd, sc, ou, le, lf, K) := ⟨nw, sp, el, w, s, u, co, dk, se, ho, htk, hnw, hsp, hel, hw, hs, hu, hco, hdk, hse⟩
    exact V_throwNW (i := 22) (by decide +kernel) tc_NoSuch ti_NoSuch tw_NoSuch tg_NoSuch rfl dX12_errorPosition_8 dX12_errorPosition_11 dX12_errorPosition_12 dX12_errorPosition_15 dX12_errorPosition_18 rfl (by omega) (by omega) (by omega) (Nat.le_of_ble_eq_true rfl) (fun H1 hz hq => kx c_5 H1 g (hR.keep hz hq) (E.trans (Ext.keep hz hq)))
set_option maxHeartbeats 1000000 in
set_option maxRecDepth 100000 in
theorem c_fFail {G : GT} {X : String → Heap → Prop} {H : Heap} {g : Nat → Nat} {o : Nat} {R : RgC} (hR : RG G H g o R) {F : Int32 → Heap → Prop} (kk : ¬ R.2.2.2.2.2.2.2.2.1 = -1 → ∀ (H1 : Heap) (g1 : Nat → Nat), RG G H1 g1 o R → Ext G tsA H g H1 g1 → F (R.2.2.2.2.2.2.2.2.1) H1) (kx : R.2.2.2.2.2.2.2.2.1 = -1 → ∀ (H1 : Heap) (g1 : Nat → Nat), RG G H1 g1 o R → Ext G tsA H g H1 g1 → X "java/util/NoSuchElementException" H1) : Call G kX12_failedCommand 6 1 6 [.ref o] H (qi F) X := by
  obtain ⟨S, sn, tk, ea, wd, sc, ou, le, lf, K⟩ := R
  have E : Ext G tsA H g H g := Ext.rf
  refine startL (L0 := [some (.ref o)]) rfl rfl pl_X12_failedCommand (Nat.le_of_ble_eq_true rfl) ?_
  obtain ⟨nw, sp, el, w, s, u, co, dk, se, ho, htk, hnw, hsp, hel, hw, hs, hu, hco, hdk, hse⟩ := hR
  refine V_aload_0 dX12_failedCommand_0 ?_
  refine V_getf dX12_failedCommand_1 fl_X12_47 ho.ro rfl ?_
  refine V_iconst (v := (-1)) dX12_failedCommand_4 rfl ?_
  refine V_icmp_ne (tgt := 19) dX12_failedCommand_5 (by decide) (fun c_5 => ?_) (fun c_5 => ?_)
  · refine V_aload_0 dX12_failedCommand_19 ?_
    refine V_getf dX12_failedCommand_20 fl_X12_47 ho.ro rfl ?_
    have hR : RG G H g o (S, sn, tk, ea, wd, sc, ou, le, lf, K) := ⟨nw, sp, el, w, s, u, co, dk, se, ho, htk, hnw, hsp, hel, hw, hs, hu, hco, hdk, hse⟩
    exact V_reti dX12_failedCommand_23 rfl rfl (kk c_5 H g hR E)
  · have hR : RG G H g o (S, sn, tk, ea, wd, sc, ou, le, lf, K) := ⟨nw, sp, el, w, s, u, co, dk, se, ho, htk, hnw, hsp, hel, hw, hs, hu, hco, hdk, hse⟩
    exact V_throwNW (i := 41) (by decide +kernel) tc_NoSuch ti_NoSuch tw_NoSuch tg_NoSuch rfl dX12_failedCommand_8 dX12_failedCommand_11 dX12_failedCommand_12 dX12_failedCommand_15 dX12_failedCommand_18 rfl (by omega) (by omega) (by omega) (Nat.le_of_ble_eq_true rfl) (fun H1 hz hq => kx c_5 H1 g (hR.keep hz hq) (E.trans (Ext.keep hz hq)))
set_option maxHeartbeats 1000000 in
set_option maxRecDepth 100000 in
theorem c_fSave {G : GT} {X : String → Heap → Prop} {H : Heap} {g : Nat → Nat} {o : Nat} {R : RgC} (hR : RG G H g o R) {F : Int32 → Heap → Prop} (kk : ∀ (H1 : Heap) (g1 : Nat → Nat), RG G H1 g1 o (R.1, R.1, 1, R.2.2.2) → Ext G tsA H g H1 g1 → F (nI R.1.2.2.1.length) H1) : Call G kX12_save 2 0 0 [.ref o] H (qi F) X := by
  obtain ⟨S, sn, tk, ea, wd, sc, ou, le, lf, K⟩ := R
  have E : Ext G tsA H g H g := Ext.rf
  refine startL (L0 := [some (.ref o)]) rfl rfl pl_X12_save (Nat.le_of_ble_eq_true rfl) ?_
  obtain ⟨nw, sp, el, w, s, u, co, dk, se, ho, htk, hnw, hsp, hel, hw, hs, hu, hco, hdk, hse⟩ := hR
  refine V_aload_0 dX12_save_0 ?_
  refine V_aload_0 dX12_save_1 ?_
  refine V_getf dX12_save_2 fl_X12_10 ho.ro rfl ?_
  have hnw0 := hnw
  refine V_put dX12_save_5 fp_X12_save_16 ho (by decide) ⟨rfl, rfl⟩ (Nat.le_of_ble_eq_true rfl) rfl fun H1 ho_ e1 z => ?_
  clear hsp
  have hsp := hnw0
  clear hnw0
  replace ho := ho_
  replace hnw := hnw.fr e1 (tkn0 (by decide))
  replace hsp := hsp.fr e1 (tkn0 (by decide))
  replace hel := hel.fr FRs e1 (by decide) (by decide)
  replace hw := hw.fr e1 (by decide)
  replace hs := hs.fr e1 (by decide)
  replace hu := hu.fr e1 (by decide)
  replace hco := hco.fr e1 (by decide)
  replace hdk := hdk.fr e1 (by decide)
  replace hse := hse.fr e1 (by decide)
  clear ho_
  replace E := E.trans (e1.wide (by decide))
  refine V_aload_0 dX12_save_8 ?_
  refine V_iconst (v := 1) dX12_save_9 rfl ?_
  refine V_put dX12_save_10 fp_X12_save_19 ho (by decide) ⟨rfl, rfl⟩ (Nat.le_of_ble_eq_true rfl) rfl fun H2 ho_ e2 z => ?_
  replace ho := ho_
  replace hnw := hnw.fr e2 (tkn0 (by decide))
  replace hsp := hsp.fr e2 (tkn0 (by decide))
  replace hel := hel.fr FRs e2 (by decide) (by decide)
  replace hw := hw.fr e2 (by decide)
  replace hs := hs.fr e2 (by decide)
  replace hu := hu.fr e2 (by decide)
  replace hco := hco.fr e2 (by decide)
  replace hdk := hdk.fr e2 (by decide)
  replace hse := hse.fr e2 (by decide)
  clear ho_
  replace E := E.trans (e2.wide (by decide))
  replace htk : (1 : Int32) = 0 ∨ (1 : Int32) = 1 := Or.inr rfl
  refine V_aload_0 dX12_save_13 ?_
  refine V_getf dX12_save_14 fl_X12_10 ho.ro rfl ?_
  obtain ⟨bal, ten, cs, ps, n, ch, td, nx⟩ := S
  obtain ⟨hbl, htl, b, k0, u0, v0, hno, hbal, hten, hcs, hps⟩ := id hnw
  refine V_getf dX12_save_17 fl_X12_240 hno.ro rfl ?_
  obtain ⟨f0, hf0⟩ := hcs.ro
  refine V_call_i (runV0 dX12_save_20 ce_Jx4a65c_size_8abf5 rfl ml_X12_128 im_Jx4a65c_size_8abf5 se_Jx4a65c_size_8abf5 hf0 ⟨_, rfl, rfl⟩ (Nat.le_of_ble_eq_true rfl)) (by omega) (by omega) (by omega) (c_clsize hcs ?_)
  exact V_reti dX12_save_23 rfl rfl (kk H2 g ⟨nw, nw, el, w, s, u, co, dk, se, ho, htk, hnw, hsp, hel, hw, hs, hu, hco, hdk, hse⟩ E)
set_option maxHeartbeats 1000000 in
set_option maxRecDepth 100000 in
theorem c_fRest {G : GT} {X : String → Heap → Prop} {H : Heap} {g : Nat → Nat} {o : Nat} {R : RgC} (hR : RG G H g o R) {F : Int32 → Heap → Prop} (kk : ¬ R.2.2.1 = 0 → ∀ (H1 : Heap) (g1 : Nat → Nat), RG G H1 g1 o (R.2.1, R.2.1, R.2.2.1, [], R.2.2.2.2) → Ext G tsA H g H1 g1 → F (nI R.2.1.2.2.1.length) H1) (kx : R.2.2.1 = 0 → ∀ (H1 : Heap) (g1 : Nat → Nat), RG G H1 g1 o R → Ext G tsA H g H1 g1 → X "java/lang/IllegalStateException" H1) : Call G kX12_restore 6 1 6 [.ref o] H (qi F) X := by
  obtain ⟨S, sn, tk, ea, wd, sc, ou, le, lf, K⟩ := R
  have E : Ext G tsA H g H g := Ext.rf
  refine startL (L0 := [some (.ref o)]) rfl rfl pl_X12_restore (Nat.le_of_ble_eq_true rfl) ?_
  obtain ⟨nw, sp, el, w, s, u, co, dk, se, ho, htk, hnw, hsp, hel, hw, hs, hu, hco, hdk, hse⟩ := hR
  refine V_aload_0 dX12_restore_0 ?_
  refine V_getf dX12_restore_1 fl_X12_19 ho.ro rfl ?_
  refine V_if_ne (tgt := 18) dX12_restore_4 (by decide) (fun c_4 => ?_) (fun c_4 => ?_)
  · refine V_aload_0 dX12_restore_18 ?_
    refine V_aload_0 dX12_restore_19 ?_
    refine V_getf dX12_restore_20 fl_X12_16 ho.ro rfl ?_
    have hsp0 := hsp
    refine V_put dX12_restore_23 fp_X12_restore_10 ho (by decide) ⟨rfl, rfl⟩ (Nat.le_of_ble_eq_true rfl) rfl fun H1 ho_ e1 z => ?_
    clear hnw
    have hnw := hsp0
    clear hsp0
    replace ho := ho_
    replace hnw := hnw.fr e1 (tkn0 (by decide))
    replace hsp := hsp.fr e1 (tkn0 (by decide))
    replace hel := hel.fr FRs e1 (by decide) (by decide)
    replace hw := hw.fr e1 (by decide)
    replace hs := hs.fr e1 (by decide)
    replace hu := hu.fr e1 (by decide)
    replace hco := hco.fr e1 (by decide)
    replace hdk := hdk.fr e1 (by decide)
    replace hse := hse.fr e1 (by decide)
    clear ho_
    replace E := E.trans (e1.wide (by decide))
    refine V_aload_0 dX12_restore_26 ?_
    refine V_getf dX12_restore_27 fl_X12_26 ho.ro rfl ?_
    obtain ⟨fe, hfe⟩ := hel.ro
    refine V_call_v (runV0 dX12_restore_30 ce_Jx4a65c_clear_da8c8 rfl ml_X12_413 im_Jx4a65c_clear_da8c8 se_Jx4a65c_clear_da8c8 hfe ⟨_, rfl, rfl⟩ (Nat.le_of_ble_eq_true rfl)) (by omega) (by omega) (by omega) (c_glclear hel (by decide) fun H2 hel_ e2 => ?_)
    replace ho := ho.fr e2 (by decide)
    replace hnw := hnw.fr e2 (tkn0 (by decide))
    replace hsp := hsp.fr e2 (tkn0 (by decide))
    replace hel := hel_
    replace hw := hw.fr e2 (by decide)
    replace hs := hs.fr e2 (by decide)
    replace hu := hu.fr e2 (by decide)
    replace hco := hco.fr e2 (by decide)
    replace hdk := hdk.fr e2 (by decide)
    replace hse := hse.fr e2 (by decide)
    clear hel_
    replace E := E.trans (e2.wide (by decide))
    refine V_aload_0 dX12_restore_33 ?_
    refine V_getf dX12_restore_34 fl_X12_10 ho.ro rfl ?_
    obtain ⟨bal, ten, cs, ps, n, ch, td, nx⟩ := sn
    obtain ⟨hbl, htl, b, k0, u0, v0, hno, hbal, hten, hcs, hps⟩ := id hnw
    refine V_getf dX12_restore_37 fl_X12_240 hno.ro rfl ?_
    obtain ⟨f0, hf0⟩ := hcs.ro
    refine V_call_i (runV0 dX12_restore_40 ce_Jx4a65c_size_8abf5 rfl ml_X12_128 im_Jx4a65c_size_8abf5 se_Jx4a65c_size_8abf5 hf0 ⟨_, rfl, rfl⟩ (Nat.le_of_ble_eq_true rfl)) (by omega) (by omega) (by omega) (c_clsize hcs ?_)
    exact V_reti dX12_restore_43 rfl rfl (kk c_4 H2 g ⟨sp, sp, el, w, s, u, co, dk, se, ho, htk, hnw, hsp, hel, hw, hs, hu, hco, hdk, hse⟩ E)
  · have hR : RG G H g o (S, sn, tk, ea, wd, sc, ou, le, lf, K) := ⟨nw, sp, el, w, s, u, co, dk, se, ho, htk, hnw, hsp, hel, hw, hs, hu, hco, hdk, hse⟩
    exact V_throwSW (i := 24) (by decide +kernel) tc_IllegalState ti_IllegalState tw_IllegalState tg_IllegalState rfl dX12_restore_7 dX12_restore_10 dX12_restore_11 dX12_restore_14 dX12_restore_17 rfl (by omega) (by omega) (by omega) (Nat.le_of_ble_eq_true rfl) (fun H1 hz hq => kx c_4 H1 g (hR.keep hz hq) (E.trans (Ext.keep hz hq)))

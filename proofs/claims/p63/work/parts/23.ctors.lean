set_option maxHeartbeats 1000000 in
set_option maxRecDepth 100000 in
theorem c_thInit {G : GT} {H : Heap} {g : Nat → Nat} {a : Nat} {X : String → Heap → Prop} {v0 v1 v2 : Value} (ho : Ob G H g 33 a 14 [v0, v1, v2]) {F : Heap → Prop} (kk : ∀ (H1 : Heap) (g1 : Nat → Nat) (p p2 p3 : Nat), Ob G H1 g1 33 a 14 [.ref p, .ref p2, .ref p3] → Ja G H1 g1 21 p 0 8 (List.replicate 8 0) → Ja G H1 g1 22 p2 0 64 (List.replicate 64 0) → Ja G H1 g1 23 p3 3 8 (List.replicate 8 0) → Ext G [33] H g H1 g1 → F H1) : Call G kX10_init 1 3 80 [.ref a] H (qv F) X := by
  have E : Ext G [33] H g H g := Ext.rf
  refine startL (L0 := [some (.ref a)]) rfl rfl pl_X10_init (Nat.le_of_ble_eq_true rfl) ?_
  refine V_aload_0 dX10_init_0 ?_
  refine V_oinit dX10_init_1 ml_X10_3 ex_oiI ex_oiC (Nat.le_of_ble_eq_true rfl) (Nat.le_of_ble_eq_true rfl) ?_
  refine V_aload_0 dX10_init_4 ?_
  refine V_bipush (v := 8) dX10_init_5 (by decide) ?_
  refine V_mkI (g := g) 21 (kk := 0) dX10_init_7 ac_int rfl rfl rfl (fun C h => by cases h) (by decide) (N := 8) rfl (by decide) (by decide) (by omega) (by omega) fun p H1 g1 hp e1 z1 => ?_
  replace ho := ho.fr e1 (by decide)
  replace E := E.trans (e1.wide (by simp))
  refine V_put dX10_init_9 fp_X10_init_9 ho (by decide) ⟨rfl, rfl⟩ (Nat.le_of_ble_eq_true rfl) rfl fun H2 ho e2 z2 => ?_
  replace hp := hp.fr e2 (by decide)
  replace E := E.trans (e2)
  refine V_aload_0 dX10_init_12 ?_
  refine V_bipush (v := 64) dX10_init_13 (by decide) ?_
  refine V_mkI (g := g1) 22 (kk := 0) dX10_init_15 ac_int rfl rfl rfl (fun C h => by cases h) (by decide) (N := 64) rfl (by decide) (by decide) (by omega) (by omega) fun p2 H3 g3 hp2 e3 z3 => ?_
  replace ho := ho.fr e3 (by decide)
  replace hp := hp.fr e3 (by decide)
  replace E := E.trans (e3.wide (by simp))
  refine V_put dX10_init_17 fp_X10_init_15 ho (by decide) ⟨rfl, rfl⟩ (Nat.le_of_ble_eq_true rfl) rfl fun H4 ho e4 z4 => ?_
  replace hp := hp.fr e4 (by decide)
  replace hp2 := hp2.fr e4 (by decide)
  replace E := E.trans (e4)
  refine V_aload_0 dX10_init_20 ?_
  refine V_bipush (v := 8) dX10_init_21 (by decide) ?_
  refine V_mkI (g := g3) 23 (kk := 3) dX10_init_23 ac_boolean rfl rfl rfl (fun C h => by cases h) (by decide) (N := 8) rfl (by decide) (by decide) (by omega) (by omega) fun p3 H5 g5 hp3 e5 z5 => ?_
  replace ho := ho.fr e5 (by decide)
  replace hp := hp.fr e5 (by decide)
  replace hp2 := hp2.fr e5 (by decide)
  replace E := E.trans (e5.wide (by simp))
  refine V_put dX10_init_25 fp_X10_init_18 ho (by decide) ⟨rfl, rfl⟩ (Nat.le_of_ble_eq_true rfl) rfl fun H6 ho e6 z6 => ?_
  replace hp := hp.fr e6 (by decide)
  replace hp2 := hp2.fr e6 (by decide)
  replace hp3 := hp3.fr e6 (by decide)
  replace E := E.trans (e6)
  exact V_retv dX10_init_28 rfl (kk H6 g5 p p2 p3 ho ⟨hp, rfl⟩ ⟨hp2, rfl⟩ ⟨hp3, rfl⟩ E)
set_option maxHeartbeats 1000000 in
set_option maxRecDepth 100000 in
theorem c_ruInit {G : GT} {H : Heap} {g : Nat → Nat} {a : Nat} {X : String → Heap → Prop} {v0 v1 v2 : Value} (ho : Ob G H g 33 a 10 [v0, v1, v2]) {F : Heap → Prop} (kk : ∀ (H1 : Heap) (g1 : Nat → Nat) (qf qs qt : Nat), Ob G H1 g1 33 a 10 [.ref qf, .ref qs, .ref qt] → Ja G H1 g1 24 qf 1 8 (List.replicate 8 0) → Ja G H1 g1 25 qs 1 8 (List.replicate 8 0) → Ja G H1 g1 26 qt 0 81 (List.replicate 81 0) → Ext G [33] H g H1 g1 → F H1) : Call G kX6_init 1 3 97 [.ref a] H (qv F) X := by
  have E : Ext G [33] H g H g := Ext.rf
  refine startL (L0 := [some (.ref a)]) rfl rfl pl_X6_init (Nat.le_of_ble_eq_true rfl) ?_
  refine V_aload_0 dX6_init_0 ?_
  refine V_oinit dX6_init_1 ml_X6_3 ex_oiI ex_oiC (Nat.le_of_ble_eq_true rfl) (Nat.le_of_ble_eq_true rfl) ?_
  refine V_aload_0 dX6_init_4 ?_
  refine V_bipush (v := 8) dX6_init_5 (by decide) ?_
  refine V_mkI (g := g) 24 (kk := 1) dX6_init_7 ac_char rfl rfl rfl (fun C h => by cases h) (by decide) (N := 8) rfl (by decide) (by decide) (by omega) (by omega) fun qf H1 g1 hqf e1 z1 => ?_
  replace ho := ho.fr e1 (by decide)
  replace E := E.trans (e1.wide (by simp))
  refine V_put dX6_init_9 fp_X6_init_9 ho (by decide) ⟨rfl, rfl⟩ (Nat.le_of_ble_eq_true rfl) rfl fun H2 ho e2 z2 => ?_
  replace hqf := hqf.fr e2 (by decide)
  replace E := E.trans (e2)
  refine V_aload_0 dX6_init_12 ?_
  refine V_bipush (v := 8) dX6_init_13 (by decide) ?_
  refine V_mkI (g := g1) 25 (kk := 1) dX6_init_15 ac_char rfl rfl rfl (fun C h => by cases h) (by decide) (N := 8) rfl (by decide) (by decide) (by omega) (by omega) fun qs H3 g3 hqs e3 z3 => ?_
  replace ho := ho.fr e3 (by decide)
  replace hqf := hqf.fr e3 (by decide)
  replace E := E.trans (e3.wide (by simp))
  refine V_put dX6_init_17 fp_X6_init_15 ho (by decide) ⟨rfl, rfl⟩ (Nat.le_of_ble_eq_true rfl) rfl fun H4 ho e4 z4 => ?_
  replace hqf := hqf.fr e4 (by decide)
  replace hqs := hqs.fr e4 (by decide)
  replace E := E.trans (e4)
  refine V_aload_0 dX6_init_20 ?_
  refine V_bipush (v := 81) dX6_init_21 (by decide) ?_
  refine V_mkI (g := g3) 26 (kk := 0) dX6_init_23 ac_int rfl rfl rfl (fun C h => by cases h) (by decide) (N := 81) rfl (by decide) (by decide) (by omega) (by omega) fun qt H5 g5 hqt e5 z5 => ?_
  replace ho := ho.fr e5 (by decide)
  replace hqf := hqf.fr e5 (by decide)
  replace hqs := hqs.fr e5 (by decide)
  replace E := E.trans (e5.wide (by simp))
  refine V_put dX6_init_25 fp_X6_init_18 ho (by decide) ⟨rfl, rfl⟩ (Nat.le_of_ble_eq_true rfl) rfl fun H6 ho e6 z6 => ?_
  replace hqf := hqf.fr e6 (by decide)
  replace hqs := hqs.fr e6 (by decide)
  replace hqt := hqt.fr e6 (by decide)
  replace E := E.trans (e6)
  exact V_retv dX6_init_28 rfl (kk H6 g5 qf qs qt ho ⟨hqf, rfl⟩ ⟨hqs, rfl⟩ ⟨hqt, rfl⟩ E)
set_option maxHeartbeats 1000000 in
set_option maxRecDepth 100000 in
theorem c_seInit {G : GT} {H : Heap} {g : Nat → Nat} {a : Nat} {X : String → Heap → Prop} {v0 v1 v2 : Value} (ho : Ob G H g 29 a 12 [v0, v1, v2]) {F : Heap → Prop} (kk : ∀ (H1 : Heap) (g1 : Nat → Nat) (ac mp : Nat), Ob G H1 g1 29 a 12 [.ref ac, .ref mp, .int 0] → Ja G H1 g1 30 ac 0 9 (List.replicate 9 0) → Ja G H1 g1 31 mp 0 512 (List.replicate 512 0) → Ext G [29] H g H1 g1 → F H1) : Call G kX8_init 1 2 521 [.ref a] H (qv F) X := by
  have E : Ext G [29] H g H g := Ext.rf
  refine startL (L0 := [some (.ref a)]) rfl rfl pl_X8_init (Nat.le_of_ble_eq_true rfl) ?_
  refine V_aload_0 dX8_init_0 ?_
  refine V_oinit dX8_init_1 ml_X8_3 ex_oiI ex_oiC (Nat.le_of_ble_eq_true rfl) (Nat.le_of_ble_eq_true rfl) ?_
  refine V_aload_0 dX8_init_4 ?_
  refine V_bipush (v := 9) dX8_init_5 (by decide) ?_
  refine V_mkI (g := g) 30 (kk := 0) dX8_init_7 ac_int rfl rfl rfl (fun C h => by cases h) (by decide) (N := 9) rfl (by decide) (by decide) (by omega) (by omega) fun ac H1 g1 hac e1 z1 => ?_
  replace ho := ho.fr e1 (by decide)
  replace E := E.trans (e1.wide (by simp))
  refine V_put dX8_init_9 fp_X8_init_9 ho (by decide) ⟨rfl, rfl⟩ (Nat.le_of_ble_eq_true rfl) rfl fun H2 ho e2 z2 => ?_
  replace hac := hac.fr e2 (by decide)
  replace E := E.trans (e2)
  refine V_aload_0 dX8_init_12 ?_
  refine V_sipush (v := 512) dX8_init_13 (by decide) ?_
  refine V_mkI (g := g1) 31 (kk := 0) dX8_init_16 ac_int rfl rfl rfl (fun C h => by cases h) (by decide) (N := 512) rfl (by decide) (by decide) (by omega) (by omega) fun mp H3 g3 hmp e3 z3 => ?_
  replace ho := ho.fr e3 (by decide)
  replace hac := hac.fr e3 (by decide)
  replace E := E.trans (e3.wide (by simp))
  refine V_put dX8_init_18 fp_X8_init_15 ho (by decide) ⟨rfl, rfl⟩ (Nat.le_of_ble_eq_true rfl) rfl fun H4 ho e4 z4 => ?_
  replace hac := hac.fr e4 (by decide)
  replace hmp := hmp.fr e4 (by decide)
  replace E := E.trans (e4)
  refine V_aload_0 dX8_init_21 ?_
  refine V_iconst (v := 0) dX8_init_22 rfl ?_
  refine V_put dX8_init_23 fp_X8_init_18 ho (by decide) ⟨rfl, rfl⟩ (Nat.le_of_ble_eq_true rfl) rfl fun H5 ho e5 z5 => ?_
  replace hac := hac.fr e5 (by decide)
  replace hmp := hmp.fr e5 (by decide)
  replace E := E.trans (e5)
  exact V_retv dX8_init_26 rfl (kk H5 g3 ac mp ho ⟨hac, rfl⟩ ⟨hmp, rfl⟩ E)
set_option maxHeartbeats 1000000 in
set_option maxRecDepth 100000 in
theorem c_coInit {G : GT} {H : Heap} {g : Nat → Nat} {a : Nat} {X : String → Heap → Prop} {v0 v1 : Value} (ho : Ob G H g 34 a 6 [v0, v1]) {F : Heap → Prop} (kk : ∀ (H1 : Heap) (g1 : Nat → Nat) (th p p2 p3 ru qf qs qt : Nat), Ob G H1 g1 34 a 6 [.ref th, .ref ru] → Rz G H1 g1 th 14 [.ref p, .ref p2, .ref p3] → Ja G H1 g1 21 p 0 8 (List.replicate 8 0) → Rz G H1 g1 ru 10 [.ref qf, .ref qs, .ref qt] → Ja G H1 g1 24 qf 1 8 (List.replicate 8 0) → Ja G H1 g1 25 qs 1 8 (List.replicate 8 0) → Ja G H1 g1 26 qt 0 81 (List.replicate 81 0) → Ext G [34, 33] H g H1 g1 → F H1) : Call G kX2_init 2 8 183 [.ref a] H (qv F) X := by
  have E : Ext G [34, 33] H g H g := Ext.rf
  refine startL (L0 := [some (.ref a)]) rfl rfl pl_X2_init (Nat.le_of_ble_eq_true rfl) ?_
  refine V_aload_0 dX2_init_0 ?_
  refine V_oinit dX2_init_1 ml_X2_3 ex_oiI ex_oiC (Nat.le_of_ble_eq_true rfl) (Nat.le_of_ble_eq_true rfl) ?_
  refine V_aload_0 dX2_init_4 ?_
  refine V_mk2 (g := g) 33 3 dX2_init_5 nw_X2_9 rfl (by omega) (by omega) fun th H1 g1 hth e1 z1 => ?_
  replace ho := ho.fr e1 (by decide)
  replace E := E.trans (e1.wide (by simp))
  refine V_dup dX2_init_8 rfl ?_
  refine V_call_v (runIN0 dX2_init_9 ce_X10_init rfl rfl rfl mln_X2_11 im_X10_init (Nat.le_of_ble_eq_true rfl)) (by omega) (by omega) (by omega) (c_thInit hth fun H2 g2 p p2 p3 hth hp hp2 hp3 e2 => ?_)
  replace ho := ho.fr e2 (by decide)
  replace E := E.trans (e2.wide (by decide))
  replace hth := hth.rz
  have e3 := ext_frz (G := G) (H := H2) (g := g2) (t := 33)
  replace ho := ho.fr e3 (by decide)
  replace hp := hp.fr e3 (by decide)
  replace hp2 := hp2.fr e3 (by decide)
  replace hp3 := hp3.fr e3 (by decide)
  replace E := E.trans (e3.wide (by decide))
  refine V_put dX2_init_12 fp_X2_init_12 ho (by decide) ⟨rfl, rfl⟩ (Nat.le_of_ble_eq_true rfl) rfl fun H4 ho e4 z4 => ?_
  replace hp := hp.fr e4 (by decide)
  replace hp2 := hp2.fr e4 (by decide)
  replace hp3 := hp3.fr e4 (by decide)
  replace hth := hth.fr e4 (by decide)
  replace E := E.trans (e4.wide (by decide))
  refine V_aload_0 dX2_init_15 ?_
  refine V_mk2 (g := (gall G g2 [33] 0)) 33 3 dX2_init_16 nw_X2_18 rfl (by omega) (by omega) fun ru H5 g5 hru e5 z5 => ?_
  replace ho := ho.fr e5 (by decide)
  replace hp := hp.fr e5 (by decide)
  replace hp2 := hp2.fr e5 (by decide)
  replace hp3 := hp3.fr e5 (by decide)
  replace hth := hth.fr e5 (by decide)
  replace E := E.trans (e5.wide (by simp))
  refine V_dup dX2_init_19 rfl ?_
  refine V_call_v (runIN0 dX2_init_20 ce_X6_init rfl rfl rfl mln_X2_20 im_X6_init (Nat.le_of_ble_eq_true rfl)) (by omega) (by omega) (by omega) (c_ruInit hru fun H6 g6 qf qs qt hru hqf hqs hqt e6 => ?_)
  replace ho := ho.fr e6 (by decide)
  replace hp := hp.fr e6 (by decide)
  replace hp2 := hp2.fr e6 (by decide)
  replace hp3 := hp3.fr e6 (by decide)
  replace hth := hth.fr e6 (by decide)
  replace E := E.trans (e6.wide (by decide))
  replace hru := hru.rz
  have e7 := ext_frz (G := G) (H := H6) (g := g6) (t := 33)
  replace ho := ho.fr e7 (by decide)
  replace hp := hp.fr e7 (by decide)
  replace hp2 := hp2.fr e7 (by decide)
  replace hp3 := hp3.fr e7 (by decide)
  replace hth := hth.fr e7 (by decide)
  replace hqf := hqf.fr e7 (by decide)
  replace hqs := hqs.fr e7 (by decide)
  replace hqt := hqt.fr e7 (by decide)
  replace E := E.trans (e7.wide (by decide))
  refine V_put dX2_init_23 fp_X2_init_21 ho (by decide) ⟨rfl, rfl⟩ (Nat.le_of_ble_eq_true rfl) rfl fun H8 ho e8 z8 => ?_
  replace hp := hp.fr e8 (by decide)
  replace hp2 := hp2.fr e8 (by decide)
  replace hp3 := hp3.fr e8 (by decide)
  replace hth := hth.fr e8 (by decide)
  replace hqf := hqf.fr e8 (by decide)
  replace hqs := hqs.fr e8 (by decide)
  replace hqt := hqt.fr e8 (by decide)
  replace hru := hru.fr e8 (by decide)
  replace E := E.trans (e8.wide (by decide))
  exact V_retv dX2_init_26 rfl (kk H8 (gall G g6 [33] 0) th p p2 p3 ru qf qs qt ho hth hp hru hqf hqs hqt E)
set_option maxHeartbeats 1000000 in
set_option maxRecDepth 100000 in
theorem c_doInit {G : GT} {H : Heap} {g : Nat → Nat} {a : Nat} {X : String → Heap → Prop} {v0 v1 : Value} (ho : Ob G H g 35 a 7 [v0, v1]) {F : Heap → Prop} (kk : ∀ (H1 : Heap) (g1 : Nat → Nat) (fl ba : Nat), Ob G H1 g1 35 a 7 [.ref fl, .ref ba] → CL G H1 g1 27 fl [] → Ja G H1 g1 28 ba 0 61 (List.replicate 61 0) → Ext G [35, 27] H g H1 g1 → F H1) : Call G kX3_init 4 2 64 [.ref a] H (qv F) X := by
  have E : Ext G [35, 27] H g H g := Ext.rf
  refine startL (L0 := [some (.ref a)]) rfl rfl pl_X3_init (Nat.le_of_ble_eq_true rfl) ?_
  refine V_aload_0 dX3_init_0 ?_
  refine V_oinit dX3_init_1 ml_X3_3 ex_oiI ex_oiC (Nat.le_of_ble_eq_true rfl) (Nat.le_of_ble_eq_true rfl) ?_
  refine V_aload_0 dX3_init_4 ?_
  refine V_mk2 (g := g) 27 3 dX3_init_5 nw_X3_9 rfl (by omega) (by omega) fun fl H1 g1 hfl e1 z1 => ?_
  replace ho := ho.fr e1 (by decide)
  replace E := E.trans (e1.wide (by simp))
  refine V_dup dX3_init_8 rfl ?_
  refine V_call_v (runI0 dX3_init_9 ce_Jx4a65c_init_da8c8 rfl rfl rfl ml_X3_11 im_Jx4a65c_init_da8c8 (Nat.le_of_ble_eq_true rfl)) (by omega) (by omega) (by omega) (c_alinit hfl (by decide) fun H2 hfl e2 => ?_)
  replace ho := ho.fr e2 (by decide)
  replace E := E.trans (e2.wide (by decide))
  refine V_put dX3_init_12 fp_X3_init_12 ho (by decide) ⟨rfl, rfl⟩ (Nat.le_of_ble_eq_true rfl) rfl fun H3 ho e3 z3 => ?_
  replace hfl := hfl.fr e3 (by decide) (by decide)
  replace E := E.trans (e3.wide (by decide))
  refine V_aload_0 dX3_init_15 ?_
  refine V_bipush (v := 61) dX3_init_16 (by decide) ?_
  refine V_mkI (g := g1) 28 (kk := 0) dX3_init_18 ac_int rfl rfl rfl (fun C h => by cases h) (by decide) (N := 61) rfl (by decide) (by decide) (by omega) (by omega) fun ba H4 g4 hba e4 z4 => ?_
  replace ho := ho.fr e4 (by decide)
  replace hfl := hfl.fr e4 (by decide) (by decide)
  replace E := E.trans (e4.wide (by simp))
  refine V_put dX3_init_20 fp_X3_init_18 ho (by decide) ⟨rfl, rfl⟩ (Nat.le_of_ble_eq_true rfl) rfl fun H5 ho e5 z5 => ?_
  replace hfl := hfl.fr e5 (by decide) (by decide)
  replace hba := hba.fr e5 (by decide)
  replace E := E.trans (e5.wide (by decide))
  exact V_retv dX3_init_23 rfl (kk H5 g4 fl ba ho hfl.CL ⟨hba, rfl⟩ E)

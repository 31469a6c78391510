def S0 : StC := (List.replicate 8 0, List.replicate 64 0, [], [], 0, 0, 0, 0)
theorem AL.CL {G : GT} {H : Heap} {g : Nat → Nat} {t a : Nat} (h : AL G H g t a []) : CL G H g t a [] := ⟨[], h, rfl, fun i r x hr => by cases hr⟩
theorem AL.PL {G : GT} {H : Heap} {g : Nat → Nat} {t a : Nat} (h : AL G H g t a []) : PL G H g t a [] := ⟨[], h, rfl, fun i r x hr => by cases hr⟩
set_option maxHeartbeats 1000000 in
set_option maxRecDepth 100000 in
theorem c_stInit {G : GT} {H : Heap} {g : Nat → Nat} {a : Nat} {X : String → Heap → Prop} {v0 v1 v2 v3 v4 v5 v6 v7 : Value} (ho : Ob G H g 10 a 13 [v0, v1, v2, v3, v4, v5, v6, v7]) {F : Heap → Prop} (kk : ∀ (H1 : Heap) (g1 : Nat → Nat), MS G H1 g1 10 a S0 → Ext G [10, 11, 12, 13, 14, 15, 16] H g H1 g1 → F H1) : Call G kX9_init 4 4 78 [.ref a] H (qv F) X := by
  have E : Ext G [10, 11, 12, 13, 14, 15, 16] H g H g := Ext.rf
  refine startL (L0 := [some (.ref a)]) rfl rfl pl_X9_init (Nat.le_of_ble_eq_true rfl) ?_
  refine V_aload_0 dX9_init_0 ?_
  refine V_oinit dX9_init_1 ml_X9_3 ex_oiI ex_oiC (Nat.le_of_ble_eq_true rfl) (Nat.le_of_ble_eq_true rfl) ?_
  refine V_aload_0 dX9_init_4 ?_
  refine V_bipush (v := 8) dX9_init_5 (by decide) ?_
  refine V_mkI (g := g) 11 (kk := 0) dX9_init_7 ac_int rfl rfl rfl (fun C h => by cases h) (by decide) (N := 8) rfl (by decide) (by decide) (by omega) (by omega) fun b H1 g1 hb e1 z1 => ?_
  replace ho := ho.fr e1 (by decide)
  replace E := E.trans (e1.wide (by simp))
  refine V_put dX9_init_9 fp_X9_init_9 ho (by decide) ⟨rfl, rfl⟩ (Nat.le_of_ble_eq_true rfl) rfl fun H2 ho e2 z2 => ?_
  replace hb := hb.fr e2 (by decide)
  replace E := E.trans (e2.wide (by decide))
  refine V_aload_0 dX9_init_12 ?_
  refine V_bipush (v := 64) dX9_init_13 (by decide) ?_
  refine V_mkI (g := g1) 12 (kk := 0) dX9_init_15 ac_int rfl rfl rfl (fun C h => by cases h) (by decide) (N := 64) rfl (by decide) (by decide) (by omega) (by omega) fun k0 H3 g3 hk e3 z3 => ?_
  replace ho := ho.fr e3 (by decide)
  replace hb := hb.fr e3 (by decide)
  replace E := E.trans (e3.wide (by simp))
  refine V_put dX9_init_17 fp_X9_init_15 ho (by decide) ⟨rfl, rfl⟩ (Nat.le_of_ble_eq_true rfl) rfl fun H4 ho e4 z4 => ?_
  replace hb := hb.fr e4 (by decide)
  replace hk := hk.fr e4 (by decide)
  replace E := E.trans (e4.wide (by decide))
  refine V_aload_0 dX9_init_20 ?_
  refine V_mk2 (g := g3) 13 3 dX9_init_21 nw_X9_18 rfl (by omega) (by omega) fun u H5 g5 hu e5 z5 => ?_
  replace ho := ho.fr e5 (by decide)
  replace hb := hb.fr e5 (by decide)
  replace hk := hk.fr e5 (by decide)
  replace E := E.trans (e5.wide (by simp))
  refine V_dup dX9_init_24 rfl ?_
  refine V_call_v (runI0 dX9_init_25 ce_Jx4a65c_init_da8c8 rfl rfl rfl ml_X9_20 im_Jx4a65c_init_da8c8 (Nat.le_of_ble_eq_true rfl)) (by omega) (by omega) (by omega) (c_alinit hu (by decide) fun H6 hu e6 => ?_)
  replace ho := ho.fr e6 (by decide)
  replace hb := hb.fr e6 (by decide)
  replace hk := hk.fr e6 (by decide)
  replace E := E.trans (e6.wide (by decide))
  refine V_put dX9_init_28 fp_X9_init_21 ho (by decide) ⟨rfl, rfl⟩ (Nat.le_of_ble_eq_true rfl) rfl fun H7 ho e7 z7 => ?_
  replace hb := hb.fr e7 (by decide)
  replace hk := hk.fr e7 (by decide)
  replace hu := hu.fr e7 (by decide) (by decide)
  replace E := E.trans (e7.wide (by decide))
  refine V_aload_0 dX9_init_31 ?_
  refine V_mk2 (g := g5) 14 3 dX9_init_32 nw_X9_18 rfl (by omega) (by omega) fun v H8 g8 hv e8 z8 => ?_
  replace ho := ho.fr e8 (by decide)
  replace hb := hb.fr e8 (by decide)
  replace hk := hk.fr e8 (by decide)
  replace hu := hu.fr e8 (by decide) (by decide)
  replace E := E.trans (e8.wide (by simp))
  refine V_dup dX9_init_35 rfl ?_
  refine V_call_v (runI0 dX9_init_36 ce_Jx4a65c_init_da8c8 rfl rfl rfl ml_X9_20 im_Jx4a65c_init_da8c8 (Nat.le_of_ble_eq_true rfl)) (by omega) (by omega) (by omega) (c_alinit hv (by decide) fun H9 hv e9 => ?_)
  replace ho := ho.fr e9 (by decide)
  replace hb := hb.fr e9 (by decide)
  replace hk := hk.fr e9 (by decide)
  replace hu := hu.fr e9 (by decide) (by decide)
  replace E := E.trans (e9.wide (by decide))
  refine V_put dX9_init_39 fp_X9_init_25 ho (by decide) ⟨rfl, rfl⟩ (Nat.le_of_ble_eq_true rfl) rfl fun H10 ho e10 z10 => ?_
  replace hb := hb.fr e10 (by decide)
  replace hk := hk.fr e10 (by decide)
  replace hu := hu.fr e10 (by decide) (by decide)
  replace hv := hv.fr e10 (by decide) (by decide)
  replace E := E.trans (e10.wide (by decide))
  refine V_aload_0 dX9_init_42 ?_
  refine V_iconst (v := 0) dX9_init_43 rfl ?_
  refine V_put dX9_init_44 fp_X9_init_28 ho (by decide) ⟨rfl, rfl⟩ (Nat.le_of_ble_eq_true rfl) rfl fun H11 ho e11 z11 => ?_
  replace hb := hb.fr e11 (by decide)
  replace hk := hk.fr e11 (by decide)
  replace hu := hu.fr e11 (by decide) (by decide)
  replace hv := hv.fr e11 (by decide) (by decide)
  replace E := E.trans (e11.wide (by decide))
  refine V_aload_0 dX9_init_47 ?_
  refine V_iconst (v := 0) dX9_init_48 rfl ?_
  refine V_put dX9_init_49 fp_X9_init_32 ho (by decide) ⟨rfl, rfl⟩ (Nat.le_of_ble_eq_true rfl) rfl fun H12 ho e12 z12 => ?_
  replace hb := hb.fr e12 (by decide)
  replace hk := hk.fr e12 (by decide)
  replace hu := hu.fr e12 (by decide) (by decide)
  replace hv := hv.fr e12 (by decide) (by decide)
  replace E := E.trans (e12.wide (by decide))
  refine V_aload_0 dX9_init_52 ?_
  refine V_iconst (v := 0) dX9_init_53 rfl ?_
  refine V_put dX9_init_54 fp_X9_init_35 ho (by decide) ⟨rfl, rfl⟩ (Nat.le_of_ble_eq_true rfl) rfl fun H13 ho e13 z13 => ?_
  replace hb := hb.fr e13 (by decide)
  replace hk := hk.fr e13 (by decide)
  replace hu := hu.fr e13 (by decide) (by decide)
  replace hv := hv.fr e13 (by decide) (by decide)
  replace E := E.trans (e13.wide (by decide))
  refine V_aload_0 dX9_init_57 ?_
  refine V_iconst (v := 0) dX9_init_58 rfl ?_
  refine V_put dX9_init_59 fp_X9_init_38 ho (by decide) ⟨rfl, rfl⟩ (Nat.le_of_ble_eq_true rfl) rfl fun H14 ho e14 z14 => ?_
  replace hb := hb.fr e14 (by decide)
  replace hk := hk.fr e14 (by decide)
  replace hu := hu.fr e14 (by decide) (by decide)
  replace hv := hv.fr e14 (by decide) (by decide)
  replace E := E.trans (e14.wide (by decide))
  exact V_retv dX9_init_62 rfl (kk H14 g8 ⟨rfl, rfl, b, k0, u, v, ho, hb, hk, hu.CL, hv.PL⟩ E)

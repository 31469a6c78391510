def S0 : StC := (List.replicate 8 0, List.replicate 64 0, [], [], 0, 0, 0, 0)
theorem AL.CL {G : GT} {H : Heap} {g : Nat → Nat} {t a : Nat} (h : AL G H g t a []) : CL G H g t a [] := ⟨[], h, rfl, fun i r x hr => by cases hr⟩
theorem AL.PL {G : GT} {H : Heap} {g : Nat → Nat} {t a : Nat} (h : AL G H g t a []) : PL G H g t a [] := ⟨[], h, rfl, fun i r x hr => by cases hr⟩
set_option maxHeartbeats 1000000 in
set_option maxRecDepth 100000 in
theorem c_stInit {G : GT} {H : Heap} {g : Nat → Nat} {a : Nat} {X : String → Heap → Prop} {v0 v1 v2 v3 v4 v5 v6 v7 : Value} (ho : Ob G H g 10 a 13 [v0, v1, v2, v3, v4, v5, v6, v7]) {F : Heap → Prop} (kk : ∀ (H1 : Heap) (g1 : Nat → Nat), MS G H1 g1 10 a S0 → Ext G [10, 11, 12, 13, 14, 15, 16] H g H1 g1 → F H1) : Call G kX9_init 4 4 78 [.ref a] H (qv F) X := by
  have E : Ext G [10, 11, 12, 13, 14, 15, 16] H g H g := Ext.rf
  refine startL (L0 := [some (.ref a)]) rfl rfl pl_X9_init (Nat.le_of_ble_eq_true rfl) ?_
  refine V_aload_0 dX9_init_0 ?_
  refine V_oinit dX9_init_1 ml_X9_3 ex_oiI ex_oiC (Nat.le_of_ble_eq_true rfl) (Nat.le_of_ble_eq_true rfl) ?_
  refine V_aload_0 dX9_init_4 ?_
  refine V_bipush (v := 8) dX9_init_5 (by decide) ?_
  refine V_mkI (g := g) 11 (kk := 0) dX9_init_7 ac_int rfl rfl rfl (fun C h => by cases h) (by decide) (N := 8) rfl (by decide) (by decide) (by omega) (by omega) fun b H1 g1 hb e1 z1 => ?_
  replace ho := ho.fr e1 (by decide)
  replace E := E.trans (e1.wide (by simp))
  refine V_put dX9_init_9 fp_X9_init_9 ho (by decide) ⟨rfl, rfl⟩ (Nat.le_of_ble_eq_true rfl) rfl fun H2 ho e2 z2 => ?_
  replace hb := hb.fr e2 (by decide)
  replace E := E.trans (e2.wide (by decide))
  refine V_aload_0 dX9_init_12 ?_
  refine V_bipush (v := 64) dX9_init_13 (by decide) ?_
  refine V_mkI (g := g1) 12 (kk := 0) dX9_init_15 ac_int rfl rfl rfl (fun C h => by cases h) (by decide) (N := 64) rfl (by decide) (by decide) (by omega) (by omega) fun k0 H3 g3 hk e3 z3 => ?_
  replace ho := ho.fr e3 (by decide)
  replace hb := hb.fr e3 (by decide)
  replace E := E.trans (e3.wide (by simp))
  refine V_put dX9_init_17 fp_X9_init_15 ho (by decide) ⟨rfl, rfl⟩ (Nat.le_of_ble_eq_true rfl) rfl fun H4 ho e4 z4 => ?_
  replace hb := hb.fr e4 (by decide)
  replace hk := hk.fr e4 (by decide)
  replace E := E.trans (e4.wide (by decide))
  refine V_aload_0 dX9_init_20 ?_
  refine V_mk2 (g := g3) 13 3 dX9_init_21 nw_X9_18 rfl (by omega) (by omega) fun u H5 g5 hu e5 z5 => ?_
  replace ho := ho.fr e5 (by decide)
  replace hb := hb.fr e5 (by decide)
  replace hk := hk.fr e5 (by decide)
  replace E := E.trans (e5.wide (by simp))
  refine V_dup dX9_init_24 rfl ?_
  refine V_call_v (runI0 dX9_init_25 ce_Jx4a65c_init_da8c8 rfl rfl rfl ml_X9_20 im_Jx4a65c_init_da8c8 (Nat.le_of_ble_eq_true rfl)) (by omega) (by omega) (by omega) (c_alinit hu (by decide) fun H6 hu e6 => ?_)
  replace ho := ho.fr e6 (by decide)
  replace hb := hb.fr e6 (by decide)
  replace hk := hk.fr e6 (by decide)
  replace E := E.trans (e6.wide (by decide))
  refine V_put dX9_init_28 fp_X9_init_21 ho (by decide) ⟨rfl, rfl⟩ (Nat.le_of_ble_eq_true rfl) rfl fun H7 ho e7 z7 => ?_
  replace hb := hb.fr e7 (by decide)
  replace hk := hk.fr e7 (by decide)
  replace hu := hu.fr e7 (by decide) (by decide)
  replace E := E.trans (e7.wide (by decide))
  refine V_aload_0 dX9_init_31 ?_
  refine V_mk2 (g := g5) 14 3 dX9_init_32 nw_X9_18 rfl (by omega) (by omega) fun v H8 g8 hv e8 z8 => ?_
  replace ho := ho.fr e8 (by decide)
  replace hb := hb.fr e8 (by decide)
  replace hk := hk.fr e8 (by decide)
  replace hu := hu.fr e8 (by decide) (by decide)
  replace E := E.trans (e8.wide (by simp))
  refine V_dup dX9_init_35 rfl ?_
  refine V_call_v (runI0 dX9_init_36 ce_Jx4a65c_init_da8c8 rfl rfl rfl ml_X9_20 im_Jx4a65c_init_da8c8 (Nat.le_of_ble_eq_true rfl)) (by omega) (by omega) (by omega) (c_alinit hv (by decide) fun H9 hv e9 => ?_)
  replace ho := ho.fr e9 (by decide)
  replace hb := hb.fr e9 (by decide)
  replace hk := hk.fr e9 (by decide)
  replace hu := hu.fr e9 (by decide) (by decide)
  replace E := E.trans (e9.wide (by decide))
  refine V_put dX9_init_39 fp_X9_init_25 ho (by decide) ⟨rfl, rfl⟩ (Nat.le_of_ble_eq_true rfl) rfl fun H10 ho e10 z10 => ?_
  replace hb := hb.fr e10 (by decide)
  replace hk := hk.fr e10 (by decide)
  replace hu := hu.fr e10 (by decide) (by decide)
  replace hv := hv.fr e10 (by decide) (by decide)
  replace E := E.trans (e10.wide (by decide))
  refine V_aload_0 dX9_init_42 ?_
  refine V_iconst (v := 0) dX9_init_43 rfl ?_
  refine V_put dX9_init_44 fp_X9_init_28 ho (by decide) ⟨rfl, rfl⟩ (Nat.le_of_ble_eq_true rfl) rfl fun H11 ho e11 z11 => ?_
  replace hb := hb.fr e11 (by decide)
  replace hk := hk.fr e11 (by decide)
  replace hu := hu.fr e11 (by decide) (by decide)
  replace hv := hv.fr e11 (by decide) (by decide)
  replace E := E.trans (e11.wide (by decide))
  refine V_aload_0 dX9_init_47 ?_
  refine V_iconst (v := 0) dX9_init_48 rfl ?_
  refine V_put dX9_init_49 fp_X9_init_32 ho (by decide) ⟨rfl, rfl⟩ (Nat.le_of_ble_eq_true rfl) rfl fun H12 ho e12 z12 => ?_
  replace hb := hb.fr e12 (by decide)
  replace hk := hk.fr e12 (by decide)
  replace hu := hu.fr e12 (by decide) (by decide)
  replace hv := hv.fr e12 (by decide) (by decide)
  replace E := E.trans (e12.wide (by decide))
  refine V_aload_0 dX9_init_52 ?_
  refine V_iconst (v := 0) dX9_init_53 rfl ?_
  refine V_put dX9_init_54 fp_X9_init_35 ho (by decide) ⟨rfl, rfl⟩ (Nat.le_of_ble_eq_true rfl) rfl fun H13 ho e13 z13 => ?_
  replace hb := hb.fr e13 (by decide)
  replace hk := hk.fr e13 (by decide)
  replace hu := hu.fr e13 (by decide) (by decide)
  replace hv := hv.fr e13 (by decide) (by decide)
  replace E := E.trans (e13.wide (by decide))
  refine V_aload_0 dX9_init_57 ?_
  refine V_iconst (v := 0) dX9_init_58 rfl ?_
  refine V_put dX9_init_59 fp_X9_init_38 ho (by decide) ⟨rfl, rfl⟩ (Nat.le_of_ble_eq_true rfl) rfl fun H14 ho e14 z14 => ?_
  replace hb := hb.fr e14 (by decide)
  replace hk := hk.fr e14 (by decide)
  replace hu := hu.fr e14 (by decide) (by decide)
  replace hv := hv.fr e14 (by decide) (by decide)
  replace E := E.trans (e14.wide (by decide))
  exact V_retv dX9_init_62 rfl (kk H14 g8 ⟨rfl, rfl, b, k0, u, v, ho, hb, hk, hu.CL, hv.PL⟩ E)
theorem take_one {α : Type} {l : List α} {j : Nat} {d : α} (h : j < l.length) : l.take j ++ [l.getD j d] = l.take (j + 1) := by
  rw [List.take_add_one, List.getD_eq_getElem?_getD, List.getElem?_eq_getElem h]
  rfl
theorem PL.len {G : GT} {H : Heap} {g : Nat → Nat} {t a : Nat} {xs : List PrecC} (h : PL G H g t a xs) : xs.length < 2 ^ 18 := by
  obtain ⟨rs, ⟨b, mc, -, -, hlen, -⟩, h2, h3⟩ := h
  omega
set_option maxHeartbeats 1000000 in
set_option maxRecDepth 100000 in
theorem c_copyC {G : GT} {X : String → Heap → Prop} {Q : Option Value → Heap → Prop} {H0 : Heap} {g0 : Nat → Nat} {a q c2 s2 : Nat} {bal ten bal2 ten2 : List Int32} {cs : List CaseC} {ps : List PrecC} {n ch td nx n2 ch2 td2 nx2 : Int32} {ps2 : List PrecC} (h40 : cs.length ≤ 40) : ∀ (k j : Nat) (H : Heap) (g : Nat → Nat) (cc ss : Nat), j + k = cs.length → MS G H g 0 a (bal, ten, cs, ps, n, ch, td, nx) → MS G H g 10 q (bal2, ten2, cs.take j, ps2, n2, ch2, td2, nx2) → Ext G [10, 11, 12, 13, 14, 15, 16] H0 g0 H g → c2 + 1 * k ≤ cc → s2 + 61 * k ≤ ss → (∀ (H1 : Heap) (g1 : Nat → Nat), MS G H1 g1 0 a (bal, ten, cs, ps, n, ch, td, nx) → MS G H1 g1 10 q (bal2, ten2, cs, ps2, n2, ch2, td2, nx2) → Ext G [10, 11, 12, 13, 14, 15, 16] H0 g0 H1 g1 → ∀ i : Int32, V G kX9_copy 8 c2 s2 Q X 76 [some (.ref a), some (.ref q), some (.int i)] [] H1) → V G kX9_copy 8 cc ss Q X 40 [some (.ref a), some (.ref q), some (.int (nI j))] [] H := by
  intro k
  induction k with
  | zero =>
    intro j H g cc ss hj h0 h E hc hs kk
    obtain ⟨hbl0, htl0, b0, k00, u0, v0, ho0, hbal0, hten0, hcs0, hps0⟩ := id h0
    obtain ⟨hbl, htl, b, k0, u, v, ho, hbal, hten, hcs, hps⟩ := MS10 (id h)
    have hlen := hcs0.len
    refine V_iload_2 dX9_copy_40 ?_
    refine V_aload_0 dX9_copy_41 ?_
    refine V_getf dX9_copy_42 fl_X9_21 ho0.ro rfl ?_
    obtain ⟨f0, hf0⟩ := hcs0.ro
    refine V_call_i (runV0 dX9_copy_45 ce_Jx4a65c_size_8abf5 rfl ml_X9_48 im_Jx4a65c_size_8abf5 se_Jx4a65c_size_8abf5 hf0 ⟨_, rfl, rfl⟩ (Nat.le_of_ble_eq_true rfl)) (by omega) (by omega) (by omega) (c_clsize hcs0 ?_)
    refine V_icmp_ge (tgt := 76) dX9_copy_48 (by decide) (fun c_48 => ?_) (fun c_48 => ?_)
    · refine V_mono (c2 := c2) (s2 := s2) (by omega) (by omega) (kk H g h0 (by have e : cs.take j = cs := List.take_of_length_le (by omega); rw [e] at h; exact h) E _)
    · exact absurd (nI_le (by omega) (by omega)) c_48
  | succ k ih =>
    intro j H g cc ss hj h0 h E hc hs kk
    obtain ⟨hbl0, htl0, b0, k00, u0, v0, ho0, hbal0, hten0, hcs0, hps0⟩ := id h0
    obtain ⟨hbl, htl, b, k0, u, v, ho, hbal, hten, hcs, hps⟩ := MS10 (id h)
    have hlen := hcs0.len
    refine V_iload_2 dX9_copy_40 ?_
    refine V_aload_0 dX9_copy_41 ?_
    refine V_getf dX9_copy_42 fl_X9_21 ho0.ro rfl ?_
    obtain ⟨f0, hf0⟩ := hcs0.ro
    refine V_call_i (runV0 dX9_copy_45 ce_Jx4a65c_size_8abf5 rfl ml_X9_48 im_Jx4a65c_size_8abf5 se_Jx4a65c_size_8abf5 hf0 ⟨_, rfl, rfl⟩ (Nat.le_of_ble_eq_true rfl)) (by omega) (by omega) (by omega) (c_clsize hcs0 ?_)
    refine V_icmp_ge (tgt := 76) dX9_copy_48 (by decide) (fun c_48 => ?_) (fun c_48 => ?_)
    · exact absurd c_48 (nI_ge (by omega) (by omega))
    · refine V_aload_1 dX9_copy_51 ?_
      refine V_getf dX9_copy_52 fl_X9_21 ho.ro rfl ?_
      refine V_aload_0 dX9_copy_55 ?_
      refine V_getf dX9_copy_56 fl_X9_21 ho0.ro rfl ?_
      refine V_iload_2 dX9_copy_59 ?_
      obtain ⟨f0, hf0⟩ := hcs0.ro
      refine V_call_a (runV1 dX9_copy_60 ce_Jx4a65c_get_915e3 rfl ml_X9_52 im_Jx4a65c_get_915e3 se_Jx4a65c_get_915e3 hf0 ⟨_, rfl, rfl⟩ (Nat.le_of_ble_eq_true rfl)) (by omega) (by omega) (by omega) (c_clget hcs0 (nI_pos (by omega)) c_48 fun r hrx => ?_)
      obtain ⟨mr, hr, hrm⟩ := hrx.md
      refine V_castS (ci := 5) dX9_copy_63 rfl ck_X9_56 hr.1 ?_
      obtain ⟨f1, hf1⟩ := hcs.ro
      refine V_call_i (runV1 dX9_copy_66 ce_Jx4a65c_add_9ea2d rfl ml_X9_58 im_Jx4a65c_add_9ea2d se_Jx4a65c_add_9ea2d hf1 ⟨_, rfl, rfl⟩ (Nat.le_of_ble_eq_true rfl)) (by omega) (by omega) (by omega) (c_cladd hcs (by rw [List.length_take]; omega) hrx (by decide) fun H1 g1 hnew e => ?_)
      refine V_pop dX9_copy_69 rfl ?_
      refine V_iinc_2 (v := 1) dX9_copy_70 rfl rfl ?_
      refine V_goto (tgt := 40) dX9_copy_73 (by decide) ?_
      have eg : gC cs (nI j) = cs.getD j c0 := by unfold gC; rw [nI_clamp (by omega)]
      rw [eg, take_one (by omega)] at hnew
      rw [nI_1]
      exact ih (j + 1) H1 g1 _ _ (by omega) (h0.fr e (tkn0 (by decide))) ⟨hbl, htl, b, k0, u, v, ho.fr e (by decide), hbal.fr e (by decide), hten.fr e (by decide), hnew, hps.fr e (by decide) (by decide)⟩ (E.trans (e.wide (by decide))) (by omega) (by omega) kk
set_option maxHeartbeats 1000000 in
set_option maxRecDepth 100000 in
theorem c_copyP {G : GT} {X : String → Heap → Prop} {Q : Option Value → Heap → Prop} {H0 : Heap} {g0 : Nat → Nat} {a q c2 s2 : Nat} {bal ten bal2 ten2 : List Int32} {cs : List CaseC} {ps : List PrecC} {n ch td nx n2 ch2 td2 nx2 : Int32} {cs2 : List CaseC} (h40 : ps.length ≤ 40) : ∀ (k j : Nat) (H : Heap) (g : Nat → Nat) (cc ss : Nat), j + k = ps.length → MS G H g 0 a (bal, ten, cs, ps, n, ch, td, nx) → MS G H g 10 q (bal2, ten2, cs2, ps.take j, n2, ch2, td2, nx2) → Ext G [10, 11, 12, 13, 14, 15, 16] H0 g0 H g → c2 + 1 * k ≤ cc → s2 + 61 * k ≤ ss → (∀ (H1 : Heap) (g1 : Nat → Nat), MS G H1 g1 0 a (bal, ten, cs, ps, n, ch, td, nx) → MS G H1 g1 10 q (bal2, ten2, cs2, ps, n2, ch2, td2, nx2) → Ext G [10, 11, 12, 13, 14, 15, 16] H0 g0 H1 g1 → ∀ i : Int32, V G kX9_copy 8 c2 s2 Q X 114 [some (.ref a), some (.ref q), some (.int i)] [] H1) → V G kX9_copy 8 cc ss Q X 78 [some (.ref a), some (.ref q), some (.int (nI j))] [] H := by
  intro k
  induction k with
  | zero =>
    intro j H g cc ss hj h0 h E hc hs kk
    obtain ⟨hbl0, htl0, b0, k00, u0, v0, ho0, hbal0, hten0, hcs0, hps0⟩ := id h0
    obtain ⟨hbl, htl, b, k0, u, v, ho, hbal, hten, hcs, hps⟩ := MS10 (id h)
    have hlen := hps0.len
    refine V_iload_2 dX9_copy_78 ?_
    refine V_aload_0 dX9_copy_79 ?_
    refine V_getf dX9_copy_80 fl_X9_25 ho0.ro rfl ?_
    obtain ⟨f0, hf0⟩ := hps0.ro
    refine V_call_i (runV0 dX9_copy_83 ce_Jx4a65c_size_8abf5 rfl ml_X9_48 im_Jx4a65c_size_8abf5 se_Jx4a65c_size_8abf5 hf0 ⟨_, rfl, rfl⟩ (Nat.le_of_ble_eq_true rfl)) (by omega) (by omega) (by omega) (c_plsize hps0 ?_)
    refine V_icmp_ge (tgt := 114) dX9_copy_86 (by decide) (fun c_86 => ?_) (fun c_86 => ?_)
    · refine V_mono (c2 := c2) (s2 := s2) (by omega) (by omega) (kk H g h0 (by have e : ps.take j = ps := List.take_of_length_le (by omega); rw [e] at h; exact h) E _)
    · exact absurd (nI_le (by omega) (by omega)) c_86
  | succ k ih =>
    intro j H g cc ss hj h0 h E hc hs kk
    obtain ⟨hbl0, htl0, b0, k00, u0, v0, ho0, hbal0, hten0, hcs0, hps0⟩ := id h0
    obtain ⟨hbl, htl, b, k0, u, v, ho, hbal, hten, hcs, hps⟩ := MS10 (id h)
    have hlen := hps0.len
    refine V_iload_2 dX9_copy_78 ?_
    refine V_aload_0 dX9_copy_79 ?_
    refine V_getf dX9_copy_80 fl_X9_25 ho0.ro rfl ?_
    obtain ⟨f0, hf0⟩ := hps0.ro
    refine V_call_i (runV0 dX9_copy_83 ce_Jx4a65c_size_8abf5 rfl ml_X9_48 im_Jx4a65c_size_8abf5 se_Jx4a65c_size_8abf5 hf0 ⟨_, rfl, rfl⟩ (Nat.le_of_ble_eq_true rfl)) (by omega) (by omega) (by omega) (c_plsize hps0 ?_)
    refine V_icmp_ge (tgt := 114) dX9_copy_86 (by decide) (fun c_86 => ?_) (fun c_86 => ?_)
    · exact absurd c_86 (nI_ge (by omega) (by omega))
    · refine V_aload_1 dX9_copy_89 ?_
      refine V_getf dX9_copy_90 fl_X9_25 ho.ro rfl ?_
      refine V_aload_0 dX9_copy_93 ?_
      refine V_getf dX9_copy_94 fl_X9_25 ho0.ro rfl ?_
      refine V_iload_2 dX9_copy_97 ?_
      obtain ⟨f0, hf0⟩ := hps0.ro
      refine V_call_a (runV1 dX9_copy_98 ce_Jx4a65c_get_915e3 rfl ml_X9_52 im_Jx4a65c_get_915e3 se_Jx4a65c_get_915e3 hf0 ⟨_, rfl, rfl⟩ (Nat.le_of_ble_eq_true rfl)) (by omega) (by omega) (by omega) (c_plget hps0 (nI_pos (by omega)) c_86 fun r mr hr hrm => ?_)
      have hrx : isPrec G H g r (gP ps (nI j)) := ⟨mr, hr, hrm⟩
      refine V_castS (ci := 9) dX9_copy_101 rfl ck_X9_62 hr.1 ?_
      obtain ⟨f1, hf1⟩ := hps.ro
      refine V_call_i (runV1 dX9_copy_104 ce_Jx4a65c_add_9ea2d rfl ml_X9_58 im_Jx4a65c_add_9ea2d se_Jx4a65c_add_9ea2d hf1 ⟨_, rfl, rfl⟩ (Nat.le_of_ble_eq_true rfl)) (by omega) (by omega) (by omega) (c_pladd hps (by rw [List.length_take]; omega) hrx (by decide) fun H1 g1 hnew e => ?_)
      refine V_pop dX9_copy_107 rfl ?_
      refine V_iinc_2 (v := 1) dX9_copy_108 rfl rfl ?_
      refine V_goto (tgt := 78) dX9_copy_111 (by decide) ?_
      have eg : gP ps (nI j) = ps.getD j p0 := by unfold gP; rw [nI_clamp (by omega)]
      rw [eg, take_one (by omega)] at hnew
      rw [nI_1]
      exact ih (j + 1) H1 g1 _ _ (by omega) (h0.fr e (tkn0 (by decide))) ⟨hbl, htl, b, k0, u, v, ho.fr e (by decide), hbal.fr e (by decide), hten.fr e (by decide), hcs.fr e (by decide) (by decide), hnew⟩ (E.trans (e.wide (by decide))) (by omega) (by omega) kk
theorem layI_all {l m : List Int32} {n : Nat} (h1 : l.length = n) (h2 : m.length = n) : layI l m 0 0 n = l := by
  subst h1
  apply List.ext_getElem?
  intro i
  unfold layI
  by_cases h : i < l.length
  · rw [List.getElem?_map, List.getElem?_range (by omega)]
    simp [h, List.getD_eq_getElem?_getD]
  · rw [List.getElem?_eq_none (by simp; omega), List.getElem?_eq_none (by omega)]
theorem c8n : (8 : Int32).toNatClampNeg = 8 := rfl
theorem c64n : (64 : Int32).toNatClampNeg = 64 := rfl
theorem c0n : (0 : Int32).toNatClampNeg = 0 := rfl
set_option maxHeartbeats 1000000 in
set_option maxRecDepth 100000 in
theorem c_stCopy {G : GT} {H : Heap} {g : Nat → Nat} {a : Nat} {X : String → Heap → Prop} {bal ten : List Int32} {cs : List CaseC} {ps : List PrecC} {n ch td nx : Int32} (h : MS G H g 0 a (bal, ten, cs, ps, n, ch, td, nx)) (hc12 : cs.length ≤ 12) (hp20 : ps.length ≤ 20) {F : Nat → Heap → Prop} (kk : ∀ (q : Nat) (H1 : Heap) (g1 : Nat → Nat), MS G H1 g1 10 q (bal, ten, cs, ps, n, ch, td, nx) → Ext G [10, 11, 12, 13, 14, 15, 16] H g H1 g1 → F q H1) : Call G kX9_copy 8 37 2038 [.ref a] H (qa F) X := by
  have E : Ext G [10, 11, 12, 13, 14, 15, 16] H g H g := Ext.rf
  refine startL (L0 := [some (.ref a), none, none]) rfl rfl pl_X9_copy (Nat.le_of_ble_eq_true rfl) ?_
  refine V_mk2 (g := g) 10 8 dX9_copy_0 nw_X9_10 rfl (by omega) (by omega) fun q H1 g1 ho e1 z1 => ?_
  replace h := h.fr e1 (tkn0 (by simp))
  replace E := E.trans (e1.wide (by simp))
  refine V_dup dX9_copy_3 rfl ?_
  refine V_call_v (runI0 dX9_copy_4 ce_X9_init rfl rfl rfl ml_X9_41 im_X9_init (Nat.le_of_ble_eq_true rfl)) (by omega) (by omega) (by omega) (c_stInit ho fun H2 g2 hq e2 => ?_)
  replace h := h.fr e2 (tkn0 (by decide))
  replace E := E.trans e2
  clear ho
  obtain ⟨hbl0, htl0, b0, k00, u0, v0, ho0, hbal0, hten0, hcs0, hps0⟩ := id h
  obtain ⟨hbl, htl, b, k0, u, v, ho, hbal, hten, hcs, hps⟩ := MS10 hq
  refine V_astore_1 dX9_copy_7 rfl ?_
  refine V_aload_0 dX9_copy_8 ?_
  refine V_getf dX9_copy_9 fl_X9_9 ho0.ro rfl ?_
  refine V_iconst (v := 0) dX9_copy_12 rfl ?_
  refine V_aload_1 dX9_copy_13 ?_
  refine V_getf dX9_copy_14 fl_X9_9 ho.ro rfl ?_
  refine V_iconst (v := 0) dX9_copy_17 rfl ?_
  refine V_bipush (v := 8) dX9_copy_18 (by decide) ?_
  refine V_cpI2 dX9_copy_20 ml_X9_42 ex_acN ex_acS ex_sys (by omega) (Nat.le_of_ble_eq_true rfl) hbal0.ra hbal (by decide) (by decide) (by decide) (by decide) (by decide) (by rw [hbl0]; decide) (by rw [hbl]; decide) (fun i hi => rfl) fun H3 hnew o2 z2 => ?_
  have e8 : Ext G [11] H2 g2 H3 g2 := Ext.put z2 o2 (hbal.2 ▸ List.mem_singleton.mpr rfl)
  rw [c0n, c8n, layI_all hbl0 hbl] at hnew
  replace hq : MS G H3 g2 10 q (bal, List.replicate 64 0, [], [], 0, 0, 0, 0) := ⟨hbl0, htl, b, k0, u, v, ho.fr e8 (by decide), hnew, hten.fr e8 (by decide), hcs.fr e8 (by decide) (by decide), hps.fr e8 (by decide) (by decide)⟩
  replace h := h.fr e8 (tkn0 (by decide))
  replace E := E.trans (e8.wide (by decide))
  clear hnew z2 o2 hbl htl ho hbal hten hcs hps hbl0 htl0 ho0 hbal0 hten0 hcs0 hps0
  obtain ⟨hbl0, htl0, b0, k00, u0, v0, ho0, hbal0, hten0, hcs0, hps0⟩ := id h
  obtain ⟨hbl, htl, b, k0, u, v, ho, hbal, hten, hcs, hps⟩ := MS10 hq
  refine V_aload_0 dX9_copy_23 ?_
  refine V_getf dX9_copy_24 fl_X9_15 ho0.ro rfl ?_
  refine V_iconst (v := 0) dX9_copy_27 rfl ?_
  refine V_aload_1 dX9_copy_28 ?_
  refine V_getf dX9_copy_29 fl_X9_15 ho.ro rfl ?_
  refine V_iconst (v := 0) dX9_copy_32 rfl ?_
  refine V_bipush (v := 64) dX9_copy_33 (by decide) ?_
  refine V_cpI2 dX9_copy_35 ml_X9_42 ex_acN ex_acS ex_sys (by omega) (Nat.le_of_ble_eq_true rfl) hten0.ra hten (by decide) (by decide) (by decide) (by decide) (by decide) (by rw [htl0]; decide) (by rw [htl]; decide) (fun i hi => rfl) fun H4 hnew o2 z2 => ?_
  have e64 : Ext G [12] H3 g2 H4 g2 := Ext.put z2 o2 (hten.2 ▸ List.mem_singleton.mpr rfl)
  rw [c0n, c64n, layI_all htl0 htl] at hnew
  replace hq : MS G H4 g2 10 q (bal, ten, [], [], 0, 0, 0, 0) := ⟨hbl, htl0, b, k0, u, v, ho.fr e64 (by decide), hbal.fr e64 (by decide), hnew, hcs.fr e64 (by decide) (by decide), hps.fr e64 (by decide) (by decide)⟩
  replace h := h.fr e64 (tkn0 (by decide))
  replace E := E.trans (e64.wide (by decide))
  clear hnew z2 o2 hbl htl ho hbal hten hcs hps hbl0 htl0 ho0 hbal0 hten0 hcs0 hps0
  refine V_iconst (v := 0) dX9_copy_38 rfl ?_
  refine V_istore_2 dX9_copy_39 rfl ?_
  refine c_copyC (c2 := 20) (s2 := 1220) (by omega) cs.length 0 H4 g2 _ _ (Nat.zero_add _) h hq E (by omega) (by omega) fun H5 g5 h hq E i => ?_
  refine V_iconst (v := 0) dX9_copy_76 rfl ?_
  refine V_istore_2 dX9_copy_77 rfl ?_
  refine c_copyP (c2 := 0) (s2 := 0) (by omega) ps.length 0 H5 g5 _ _ (Nat.zero_add _) h hq E (by omega) (by omega) fun H6 g6 h hq E i => ?_
  obtain ⟨hbl0, htl0, b0, k00, u0, v0, ho0, hbal0, hten0, hcs0, hps0⟩ := id h
  obtain ⟨hbl, htl, b, k0, u, v, ho, hbal, hten, hcs, hps⟩ := MS10 hq
  refine V_aload_1 dX9_copy_114 ?_
  refine V_aload_0 dX9_copy_115 ?_
  refine V_getf dX9_copy_116 fl_X9_28 ho0.ro rfl ?_
  refine V_put dX9_copy_119 fp_X9_copy_28 ho (by decide) ⟨rfl, rfl⟩ (Nat.le_of_ble_eq_true rfl) rfl fun H7 ho e7 z7 => ?_
  replace hbal := hbal.fr e7 (by decide)
  replace hten := hten.fr e7 (by decide)
  replace hcs := hcs.fr e7 (by decide) (by decide)
  replace hps := hps.fr e7 (by decide) (by decide)
  replace ho0 := ho0.fr e7 (by decide)
  replace E := E.trans (e7.wide (by decide))
  refine V_aload_1 dX9_copy_122 ?_
  refine V_aload_0 dX9_copy_123 ?_
  refine V_getf dX9_copy_124 fl_X9_32 ho0.ro rfl ?_
  refine V_put dX9_copy_127 fp_X9_copy_32 ho (by decide) ⟨rfl, rfl⟩ (Nat.le_of_ble_eq_true rfl) rfl fun H8 ho e8 z8 => ?_
  replace hbal := hbal.fr e8 (by decide)
  replace hten := hten.fr e8 (by decide)
  replace hcs := hcs.fr e8 (by decide) (by decide)
  replace hps := hps.fr e8 (by decide) (by decide)
  replace ho0 := ho0.fr e8 (by decide)
  replace E := E.trans (e8.wide (by decide))
  refine V_aload_1 dX9_copy_130 ?_
  refine V_aload_0 dX9_copy_131 ?_
  refine V_getf dX9_copy_132 fl_X9_35 ho0.ro rfl ?_
  refine V_put dX9_copy_135 fp_X9_copy_35 ho (by decide) ⟨rfl, rfl⟩ (Nat.le_of_ble_eq_true rfl) rfl fun H9 ho e9 z9 => ?_
  replace hbal := hbal.fr e9 (by decide)
  replace hten := hten.fr e9 (by decide)
  replace hcs := hcs.fr e9 (by decide) (by decide)
  replace hps := hps.fr e9 (by decide) (by decide)
  replace ho0 := ho0.fr e9 (by decide)
  replace E := E.trans (e9.wide (by decide))
  refine V_aload_1 dX9_copy_138 ?_
  refine V_aload_0 dX9_copy_139 ?_
  refine V_getf dX9_copy_140 fl_X9_38 ho0.ro rfl ?_
  refine V_put dX9_copy_143 fp_X9_copy_38 ho (by decide) ⟨rfl, rfl⟩ (Nat.le_of_ble_eq_true rfl) rfl fun H10 ho e10 z10 => ?_
  replace hbal := hbal.fr e10 (by decide)
  replace hten := hten.fr e10 (by decide)
  replace hcs := hcs.fr e10 (by decide) (by decide)
  replace hps := hps.fr e10 (by decide) (by decide)
  replace ho0 := ho0.fr e10 (by decide)
  replace E := E.trans (e10.wide (by decide))
  refine V_aload_1 dX9_copy_146 ?_
  exact V_reta dX9_copy_147 rfl (Or.inl ⟨_, rfl⟩) (kk q H10 g6 ⟨hbl, htl, b, k0, u, v, ho, hbal, hten, hcs, hps⟩ E)

theorem V_mk2 {G : GT} {K : MT} {d c s : Nat} {Q : Option Value → Heap → Prop} {X : String → Heap → Prop} {H : Heap} {L : List (Option Value)} {rest : List Value} {pc : Nat} {g : Nat → Nat} (t N : Nat) {idx ci : Nat} {fs : List Value} (hd : decode K.2.1 pc = .ok (.new idx, 3)) (hw : NW K.1.cls idx ci fs) (hN : fs.length = N) (h1 : 1 ≤ c) (h2 : N ≤ s)
    (kk : ∀ (a : Nat) (H1 : Heap) (g1 : Nat → Nat), Ob G H1 g1 t a ci fs → Ext G [] H g H1 g1 → a = H.size → V G K d (c - 1) (s - N) Q X (pc + 3) L (.ref a :: rest) H1) : V G K d c s Q X pc L rest H := by
  subst hN
  exact V_mk t hd hw h1 h2 kk
theorem isBtw_nn {x : Int32} (h : ¬ isBtw x 1 5 = 0) : ¬ x < 0 := fun q => h (by unfold isBtw; rw [if_pos (Int32.lt_trans q (by decide))])
theorem nr0 : (narrow .char (.int 102) = .int 102 ∧ fits .char (.int 102) = true) ∧ narrow .boolean (.int 0) = .int 0 ∧ fits .boolean (.int 0) = true := ⟨⟨rfl, rfl⟩, rfl, rfl⟩
theorem CL.small {G : GT} {H : Heap} {g : Nat → Nat} {t a : Nat} {xs : List CaseC} (h : CL G H g t a xs) {n : Nat} (c : nI xs.length < nI n) (hn : n < 41) : ¬ 40 < xs.length := by
  obtain ⟨rs, ⟨b, mc, -, -, hlen, -⟩, h2, h3⟩ := h
  have := (nI_ltI (by omega) (by omega)).mp c
  omega
theorem PL.small {G : GT} {H : Heap} {g : Nat → Nat} {t a : Nat} {xs : List PrecC} (h : PL G H g t a xs) {n : Nat} (c : nI xs.length < nI n) (hn : n < 41) : ¬ 40 < xs.length := by
  obtain ⟨rs, ⟨b, mc, -, -, hlen, -⟩, h2, h3⟩ := h
  have := (nI_ltI (by omega) (by omega)).mp c
  omega
def entP (bal : List Int32) (ten : List Int32) (cs : List CaseC) (ps : List PrecC) (n : Int32) (ch : Int32) (td : Int32) (nx : Int32) (x : Int32) (mt : List Int32) : Int32 × StC := if (isBtw x 0 100) = 0 then ((-2), (bal, ten, cs, ps, n, ch, td, nx)) else (if (nI ps.length) < 20 then (if (b2i (decide (mt = []))) = 0 then ((nI (ps ++ [(mt, x)]).length) - 1, (bal, ten, cs, ps ++ [(mt, x)], n, ch, td, nx)) else ((-5), (bal, ten, cs, ps, n, ch, td, nx))) else ((-3), (bal, ten, cs, ps, n, ch, td, nx)))
set_option maxHeartbeats 4000000 in
set_option maxRecDepth 100000 in
theorem c_entP {G : GT} {H : Heap} {g : Nat → Nat} {a : Nat} {X : String → Heap → Prop} {bal ten : List Int32} {cs : List CaseC} {ps : List PrecC} {n ch td nx : Int32} (h : MS G H g 10 a (bal, ten, cs, ps, n, ch, td, nx)) {o m : Nat} {x : Int32} {mt : List Int32} (hmt : Sz G H g m mt) {F : Int32 → Heap → Prop} (kk : ∀ (H1 : Heap) (g1 : Nat → Nat), MS G H1 g1 10 a (entP bal ten cs ps n ch td nx x mt).2 → Ext G [10, 11, 12, 13, 14, 15, 16] H g H1 g1 → F (entP bal ten cs ps n ch td nx x mt).1 H1) : Call G kX2_enterPrecedent 8 2 63 [.ref o, .ref a, .int x, .ref m] H (qi F) X := by
  obtain ⟨hbl, htl, b, k0, u, v, ho, hbal, hten, hcs, hps⟩ := MS10 h
  have E : Ext G [10, 11, 12, 13, 14, 15, 16] H g H g := Ext.rf
  refine startL (L0 := [some (.ref o), some (.ref a), some (.int x), some (.ref m)]) rfl rfl pl_X2_enterPrecedent (Nat.le_of_ble_eq_true rfl) ?_
  refine V_iload_2 dX2_enterPrecedent_0 ?_
  refine V_iconst (v := 0) dX2_enterPrecedent_1 rfl ?_
  refine V_bipush (v := 100) dX2_enterPrecedent_2 (by decide) ?_
  refine V_call_i (runS3 dX2_enterPrecedent_4 ce_X2_isBetween rfl ml_X2_100 st_X2_isBetween (Nat.le_of_ble_eq_true rfl)) (by omega) (by omega) (by omega) (c_isBtw (x := x) (y := 0) (z := 100) ?_)
  refine V_if_ne (tgt := 13) dX2_enterPrecedent_7 (by decide) (fun c_7 => ?_) (fun c_7 => ?_)
  · refine V_aload_1 dX2_enterPrecedent_13 ?_
    refine V_getf dX2_enterPrecedent_14 fl_X2_112 ho.ro rfl ?_
    obtain ⟨fw, hw⟩ := hps.ro
    refine V_call_i (runV0 dX2_enterPrecedent_17 ce_Jx4a65c_size_8abf5 rfl ml_X2_116 im_Jx4a65c_size_8abf5 se_Jx4a65c_size_8abf5 hw ⟨_, rfl, rfl⟩ (Nat.le_of_ble_eq_true rfl)) (by omega) (by omega) (by omega) (c_plsize hps ?_)
    refine V_bipush (v := 20) dX2_enterPrecedent_20 (by decide) ?_
    refine V_icmp_lt (tgt := 28) dX2_enterPrecedent_22 (by decide) (fun c_22 => ?_) (fun c_22 => ?_)
    · refine V_aload_3 dX2_enterPrecedent_28 ?_
      obtain ⟨fst, hst⟩ := hmt.str.o
      refine V_call_i (runV0 dX2_enterPrecedent_29 ce_J0_isEmpty_aae02 rfl ml_X2_121 im_J0_isEmpty_aae02 se_J0_isEmpty_aae02 hst ⟨_, rfl, rfl⟩ (Nat.le_of_ble_eq_true rfl)) (by omega) (by omega) (by omega) (c_sempty hmt.str ?_)
      refine V_if_eq (tgt := 38) dX2_enterPrecedent_32 (by decide) (fun c_32 => ?_) (fun c_32 => ?_)
      · refine V_aload_1 dX2_enterPrecedent_38 ?_
        refine V_getf dX2_enterPrecedent_39 fl_X2_112 ho.ro rfl ?_
        refine V_mk2 (g := g) 15 2 dX2_enterPrecedent_42 nw_X2_127 rfl (by omega) (by omega) fun q H1 g1 hq e1 z1 => ?_
        replace hbal := hbal.fr e1 (by decide)
        replace hten := hten.fr e1 (by decide)
        replace hcs := hcs.fr e1 (by decide) (by decide)
        replace hps := hps.fr e1 (by decide) (by decide)
        replace ho := ho.fr e1 (by decide)
        replace hmt := hmt.fr e1 (by decide)
        replace E := E.trans (e1.wide (by simp))
        refine V_dup dX2_enterPrecedent_45 rfl ?_
        refine V_aload_3 dX2_enterPrecedent_46 ?_
        refine V_iload_2 dX2_enterPrecedent_47 ?_
        refine V_call_v (runI2 dX2_enterPrecedent_48 ce_X5_init rfl rfl rfl ml_X2_129 im_X5_init (Nat.le_of_ble_eq_true rfl)) (by omega) (by omega) (by omega) (c_precInit hq (by decide) fun H2 hq e2 => ?_)
        replace hbal := hbal.fr e2 (by decide)
        replace hten := hten.fr e2 (by decide)
        replace hcs := hcs.fr e2 (by decide) (by decide)
        replace hps := hps.fr e2 (by decide) (by decide)
        replace ho := ho.fr e2 (by decide)
        replace hmt := hmt.fr e2 (by decide)
        replace E := E.trans (e2.wide (by decide))
        replace hq := hq.rz
        have e3 := ext_frz (G := G) (H := H2) (g := g1) (t := 15)
        replace hbal := hbal.fr e3 (by decide)
        replace hten := hten.fr e3 (by decide)
        replace hcs := hcs.fr e3 (by decide) (by decide)
        replace hps := hps.fr e3 (by decide) (by decide)
        replace ho := ho.fr e3 (by decide)
        replace hmt := hmt.fr e3 (by decide)
        replace E := E.trans (e3.wide (by decide))
        obtain ⟨fl, hfl⟩ := hps.ro
        refine V_call_i (runV1 dX2_enterPrecedent_51 ce_Jx4a65c_add_9ea2d rfl ml_X2_132 im_Jx4a65c_add_9ea2d se_Jx4a65c_add_9ea2d hfl ⟨_, rfl, rfl⟩ (Nat.le_of_ble_eq_true rfl)) (by omega) (by omega) (by omega) (c_pladd (x := (mt, x)) hps (hps.small c_22 (by decide)) ⟨m, hq, hmt⟩ (by decide) fun H4 g4 hnew e4 => ?_)
        replace hbal := hbal.fr e4 (by decide)
        replace hten := hten.fr e4 (by decide)
        replace hcs := hcs.fr e4 (by decide) (by decide)
        replace ho := ho.fr e4 (by decide)
        replace hmt := hmt.fr e4 (by decide)
        replace hq := hq.fr e4 (by decide)
        replace E := E.trans (e4.wide (by decide))
        replace hps := hnew
        clear hnew
        refine V_pop dX2_enterPrecedent_54 rfl ?_
        refine V_aload_1 dX2_enterPrecedent_55 ?_
        refine V_getf dX2_enterPrecedent_56 fl_X2_112 ho.ro rfl ?_
        obtain ⟨fw, hw⟩ := hps.ro
        refine V_call_i (runV0 dX2_enterPrecedent_59 ce_Jx4a65c_size_8abf5 rfl ml_X2_116 im_Jx4a65c_size_8abf5 se_Jx4a65c_size_8abf5 hw ⟨_, rfl, rfl⟩ (Nat.le_of_ble_eq_true rfl)) (by omega) (by omega) (by omega) (c_plsize hps ?_)
        refine V_iconst (v := 1) dX2_enterPrecedent_62 rfl ?_
        refine V_isub dX2_enterPrecedent_63 ?_
        exact V_reti dX2_enterPrecedent_64 rfl rfl (by rw [entP, if_neg c_7, if_pos c_22, if_pos c_32] at kk; exact kk H4 g4 ⟨hbl, htl, b, k0, u, v, ho, hbal, hten, hcs, hps⟩ E)
      · refine V_bipush (v := (-5)) dX2_enterPrecedent_35 (by decide) ?_
        exact V_reti dX2_enterPrecedent_37 rfl rfl (by rw [entP, if_neg c_7, if_pos c_22, if_neg c_32] at kk; exact kk H g ⟨hbl, htl, b, k0, u, v, ho, hbal, hten, hcs, hps⟩ E)
    · refine V_bipush (v := (-3)) dX2_enterPrecedent_25 (by decide) ?_
      exact V_reti dX2_enterPrecedent_27 rfl rfl (by rw [entP, if_neg c_7, if_neg c_22] at kk; exact kk H g ⟨hbl, htl, b, k0, u, v, ho, hbal, hten, hcs, hps⟩ E)
  · refine V_bipush (v := (-2)) dX2_enterPrecedent_10 (by decide) ?_
    exact V_reti dX2_enterPrecedent_12 rfl rfl (by rw [entP, if_pos c_7] at kk; exact kk H g ⟨hbl, htl, b, k0, u, v, ho, hbal, hten, hcs, hps⟩ E)
def entC (bal : List Int32) (ten : List Int32) (cs : List CaseC) (ps : List PrecC) (n : Int32) (ch : Int32) (td : Int32) (nx : Int32) (x1 : Int32) (x2 : Int32) (x3 : Int32) (x4 : Int32) (x5 : Int32) (mt : List Int32) : Int32 × StC := if (b2i (hasB n x1)) = 0 then ((-1), (bal, ten, cs, ps, n, ch, td, nx)) else (if (b2i (hasB n x2)) = 0 then ((-1), (bal, ten, cs, ps, n, ch, td, nx)) else (if x1 = x2 then ((-2), (bal, ten, cs, ps, n, ch, td, nx)) else (if (isBtw x3 1 99) = 0 then ((-2), (bal, ten, cs, ps, n, ch, td, nx)) else (if (isBtw x4 1 5) = 0 then ((-2), (bal, ten, cs, ps, n, ch, td, nx)) else (if (isBtw x5 0 999) = 0 then ((-2), (bal, ten, cs, ps, n, ch, td, nx)) else (if (nI cs.length) < 12 then (if (b2i (decide (mt = []))) = 0 then (nx, (bal, ten, cs ++ [(nx, x1, x2, x3, x4, x5, mt, 102, 0, 0, 0, -1, -1, 0)], ps, n, ch, td, nx + 1)) else ((-5), (bal, ten, cs, ps, n, ch, td, nx))) else ((-3), (bal, ten, cs, ps, n, ch, td, nx))))))))
set_option maxHeartbeats 4000000 in
set_option maxRecDepth 100000 in
theorem c_entC {G : GT} {H : Heap} {g : Nat → Nat} {a : Nat} {X : String → Heap → Prop} {bal ten : List Int32} {cs : List CaseC} {ps : List PrecC} {n ch td nx : Int32} (h : MS G H g 10 a (bal, ten, cs, ps, n, ch, td, nx)) {o m : Nat} {x1 x2 x3 x4 x5 : Int32} {mt : List Int32} (hmt : Sz G H g m mt) {F : Int32 → Heap → Prop} (kk : ∀ (H1 : Heap) (g1 : Nat → Nat), MS G H1 g1 10 a (entC bal ten cs ps n ch td nx x1 x2 x3 x4 x5 mt).2 → Ext G [10, 11, 12, 13, 14, 15, 16] H g H1 g1 → F (entC bal ten cs ps n ch td nx x1 x2 x3 x4 x5 mt).1 H1) : Call G kX2_enterCase 8 2 75 [.ref o, .ref a, .int x1, .int x2, .int x3, .int x4, .int x5, .ref m] H (qi F) X := by
  obtain ⟨hbl, htl, b, k0, u, v, ho, hbal, hten, hcs, hps⟩ := MS10 h
  have E : Ext G [10, 11, 12, 13, 14, 15, 16] H g H g := Ext.rf
  refine startL (L0 := [some (.ref o), some (.ref a), some (.int x1), some (.int x2), some (.int x3), some (.int x4), some (.int x5), some (.ref m), none]) rfl rfl pl_X2_enterCase (Nat.le_of_ble_eq_true rfl) ?_
  refine V_aload_1 dX2_enterCase_0 ?_
  refine V_iload_2 dX2_enterCase_1 ?_
  have h : MS G H g 10 a (bal, ten, cs, ps, n, ch, td, nx) := ⟨hbl, htl, b, k0, u, v, ho, hbal, hten, hcs, hps⟩
  refine V_call_i (runV1 dX2_enterCase_2 ce_X9_hasButton rfl ml_X2_96 im_X9_hasButton se_X9_hasButton ho.ro ⟨_, rfl, rfl⟩ (Nat.le_of_ble_eq_true rfl)) (by omega) (by omega) (by omega) (c_hasButton h x1 ?_)
  refine V_if_eq (tgt := 16) dX2_enterCase_5 (by decide) (fun c_5 => ?_) (fun c_5 => ?_)
  · refine V_iconst (v := (-1)) dX2_enterCase_16 rfl ?_
    exact V_reti dX2_enterCase_17 rfl rfl (by rw [entC, if_pos c_5] at kk; exact kk H g ⟨hbl, htl, b, k0, u, v, ho, hbal, hten, hcs, hps⟩ E)
  · refine V_aload_1 dX2_enterCase_8 ?_
    refine V_iload_3 dX2_enterCase_9 ?_
    have h : MS G H g 10 a (bal, ten, cs, ps, n, ch, td, nx) := ⟨hbl, htl, b, k0, u, v, ho, hbal, hten, hcs, hps⟩
    refine V_call_i (runV1 dX2_enterCase_10 ce_X9_hasButton rfl ml_X2_96 im_X9_hasButton se_X9_hasButton ho.ro ⟨_, rfl, rfl⟩ (Nat.le_of_ble_eq_true rfl)) (by omega) (by omega) (by omega) (c_hasButton h x2 ?_)
    refine V_if_ne (tgt := 18) dX2_enterCase_13 (by decide) (fun c_13 => ?_) (fun c_13 => ?_)
    · refine V_iload_2 dX2_enterCase_18 ?_
      refine V_iload_3 dX2_enterCase_19 ?_
      refine V_icmp_eq (tgt := 56) dX2_enterCase_20 (by decide) (fun c_20 => ?_) (fun c_20 => ?_)
      · refine V_bipush (v := (-2)) dX2_enterCase_56 (by decide) ?_
        exact V_reti dX2_enterCase_58 rfl rfl (by rw [entC, if_neg c_5, if_neg c_13, if_pos c_20] at kk; exact kk H g ⟨hbl, htl, b, k0, u, v, ho, hbal, hten, hcs, hps⟩ E)
      · refine V_iload_4 dX2_enterCase_23 ?_
        refine V_iconst (v := 1) dX2_enterCase_25 rfl ?_
        refine V_bipush (v := 99) dX2_enterCase_26 (by decide) ?_
        refine V_call_i (runS3 dX2_enterCase_28 ce_X2_isBetween rfl ml_X2_100 st_X2_isBetween (Nat.le_of_ble_eq_true rfl)) (by omega) (by omega) (by omega) (c_isBtw (x := x3) (y := 1) (z := 99) ?_)
        refine V_if_eq (tgt := 56) dX2_enterCase_31 (by decide) (fun c_31 => ?_) (fun c_31 => ?_)
        · refine V_bipush (v := (-2)) dX2_enterCase_56 (by decide) ?_
          exact V_reti dX2_enterCase_58 rfl rfl (by rw [entC, if_neg c_5, if_neg c_13, if_neg c_20, if_pos c_31] at kk; exact kk H g ⟨hbl, htl, b, k0, u, v, ho, hbal, hten, hcs, hps⟩ E)
        · refine V_iload_5 dX2_enterCase_34 ?_
          refine V_iconst (v := 1) dX2_enterCase_36 rfl ?_
          refine V_iconst (v := 5) dX2_enterCase_37 rfl ?_
          refine V_call_i (runS3 dX2_enterCase_38 ce_X2_isBetween rfl ml_X2_100 st_X2_isBetween (Nat.le_of_ble_eq_true rfl)) (by omega) (by omega) (by omega) (c_isBtw (x := x4) (y := 1) (z := 5) ?_)
          refine V_if_eq (tgt := 56) dX2_enterCase_41 (by decide) (fun c_41 => ?_) (fun c_41 => ?_)
          · refine V_bipush (v := (-2)) dX2_enterCase_56 (by decide) ?_
            exact V_reti dX2_enterCase_58 rfl rfl (by rw [entC, if_neg c_5, if_neg c_13, if_neg c_20, if_neg c_31, if_pos c_41] at kk; exact kk H g ⟨hbl, htl, b, k0, u, v, ho, hbal, hten, hcs, hps⟩ E)
          · refine V_iload_6 dX2_enterCase_44 ?_
            refine V_iconst (v := 0) dX2_enterCase_46 rfl ?_
            refine V_sipush (v := 999) dX2_enterCase_47 (by decide) ?_
            refine V_call_i (runS3 dX2_enterCase_50 ce_X2_isBetween rfl ml_X2_100 st_X2_isBetween (Nat.le_of_ble_eq_true rfl)) (by omega) (by omega) (by omega) (c_isBtw (x := x5) (y := 0) (z := 999) ?_)
            refine V_if_ne (tgt := 59) dX2_enterCase_53 (by decide) (fun c_53 => ?_) (fun c_53 => ?_)
            · refine V_aload_1 dX2_enterCase_59 ?_
              refine V_getf dX2_enterCase_60 fl_X2_136 ho.ro rfl ?_
              obtain ⟨fu, hu⟩ := hcs.ro
              refine V_call_i (runV0 dX2_enterCase_63 ce_Jx4a65c_size_8abf5 rfl ml_X2_116 im_Jx4a65c_size_8abf5 se_Jx4a65c_size_8abf5 hu ⟨_, rfl, rfl⟩ (Nat.le_of_ble_eq_true rfl)) (by omega) (by omega) (by omega) (c_clsize hcs ?_)
              refine V_bipush (v := 12) dX2_enterCase_66 (by decide) ?_
              refine V_icmp_lt (tgt := 74) dX2_enterCase_68 (by decide) (fun c_68 => ?_) (fun c_68 => ?_)
              · refine V_aload_7 dX2_enterCase_74 ?_
                obtain ⟨fst, hst⟩ := hmt.str.o
                refine V_call_i (runV0 dX2_enterCase_76 ce_J0_isEmpty_aae02 rfl ml_X2_121 im_J0_isEmpty_aae02 se_J0_isEmpty_aae02 hst ⟨_, rfl, rfl⟩ (Nat.le_of_ble_eq_true rfl)) (by omega) (by omega) (by omega) (c_sempty hmt.str ?_)
                refine V_if_eq (tgt := 85) dX2_enterCase_79 (by decide) (fun c_79 => ?_) (fun c_79 => ?_)
                · refine V_aload_1 dX2_enterCase_85 ?_
                  refine V_getf dX2_enterCase_86 fl_X2_139 ho.ro rfl ?_
                  refine V_istore_8 dX2_enterCase_89 rfl ?_
                  refine V_aload_1 dX2_enterCase_91 ?_
                  refine V_dup dX2_enterCase_92 rfl ?_
                  refine V_getf dX2_enterCase_93 fl_X2_139 ho.ro rfl ?_
                  refine V_iconst (v := 1) dX2_enterCase_96 rfl ?_
                  refine V_iadd dX2_enterCase_97 ?_
                  refine V_put dX2_enterCase_98 fp_X2_enterCase_139 ho (by decide) ⟨rfl, rfl⟩ (Nat.le_of_ble_eq_true rfl) rfl fun H1 ho e1 z1 => ?_
                  replace hbal := hbal.fr e1 (by decide)
                  replace hten := hten.fr e1 (by decide)
                  replace hcs := hcs.fr e1 (by decide) (by decide)
                  replace hps := hps.fr e1 (by decide) (by decide)
                  replace hmt := hmt.fr e1 (by decide)
                  replace E := E.trans (e1.wide (by decide))
                  refine V_aload_1 dX2_enterCase_101 ?_
                  refine V_getf dX2_enterCase_102 fl_X2_136 ho.ro rfl ?_
                  refine V_mk2 (g := g) 15 14 dX2_enterCase_105 nw_X2_142 rfl (by omega) (by omega) fun q H2 g2 hq e2 z2 => ?_
                  replace hbal := hbal.fr e2 (by decide)
                  replace hten := hten.fr e2 (by decide)
                  replace hcs := hcs.fr e2 (by decide) (by decide)
                  replace hps := hps.fr e2 (by decide) (by decide)
                  replace ho := ho.fr e2 (by decide)
                  replace hmt := hmt.fr e2 (by decide)
                  replace E := E.trans (e2.wide (by simp))
                  refine V_dup dX2_enterCase_108 rfl ?_
                  refine V_iload_8 dX2_enterCase_109 ?_
                  refine V_iload_2 dX2_enterCase_111 ?_
                  refine V_iload_3 dX2_enterCase_112 ?_
                  refine V_iload_4 dX2_enterCase_113 ?_
                  refine V_iload_5 dX2_enterCase_115 ?_
                  refine V_iload_6 dX2_enterCase_117 ?_
                  refine V_aload_7 dX2_enterCase_119 ?_
                  refine V_call_v (runI7 dX2_enterCase_121 ce_X1_init rfl rfl rfl ml_X2_144 im_X1_init (Nat.le_of_ble_eq_true rfl)) (by omega) (by omega) (by omega) (c_caseInit hq (by decide) fun H3 hq e3 => ?_)
                  replace hbal := hbal.fr e3 (by decide)
                  replace hten := hten.fr e3 (by decide)
                  replace hcs := hcs.fr e3 (by decide) (by decide)
                  replace hps := hps.fr e3 (by decide) (by decide)
                  replace ho := ho.fr e3 (by decide)
                  replace hmt := hmt.fr e3 (by decide)
                  replace E := E.trans (e3.wide (by decide))
                  replace hq := hq.rz
                  have e4 := ext_frz (G := G) (H := H3) (g := g2) (t := 15)
                  replace hbal := hbal.fr e4 (by decide)
                  replace hten := hten.fr e4 (by decide)
                  replace hcs := hcs.fr e4 (by decide) (by decide)
                  replace hps := hps.fr e4 (by decide) (by decide)
                  replace ho := ho.fr e4 (by decide)
                  replace hmt := hmt.fr e4 (by decide)
                  replace E := E.trans (e4.wide (by decide))
                  obtain ⟨fl, hfl⟩ := hcs.ro
                  refine V_call_i (runV1 dX2_enterCase_124 ce_Jx4a65c_add_9ea2d rfl ml_X2_132 im_Jx4a65c_add_9ea2d se_Jx4a65c_add_9ea2d hfl ⟨_, rfl, rfl⟩ (Nat.le_of_ble_eq_true rfl)) (by omega) (by omega) (by omega) (c_cladd (x := (nx, x1, x2, x3, x4, x5, mt, 102, 0, 0, 0, -1, -1, 0)) hcs (hcs.small c_68 (by decide)) (isCase.mk (x := (nx, x1, x2, x3, x4, x5, mt, 102, 0, 0, 0, -1, -1, 0)) hq hmt ⟨nr0.1, nr0.2.1, nr0.2.2, isBtw_nn c_41⟩) (by decide) fun H5 g5 hnew e5 => ?_)
                  replace hbal := hbal.fr e5 (by decide)
                  replace hten := hten.fr e5 (by decide)
                  replace hps := hps.fr e5 (by decide) (by decide)
                  replace ho := ho.fr e5 (by decide)
                  replace hmt := hmt.fr e5 (by decide)
                  replace hq := hq.fr e5 (by decide)
                  replace E := E.trans (e5.wide (by decide))
                  replace hcs := hnew
                  clear hnew
                  refine V_pop dX2_enterCase_127 rfl ?_
                  refine V_iload_8 dX2_enterCase_128 ?_
                  exact V_reti dX2_enterCase_130 rfl rfl (by rw [entC, if_neg c_5, if_neg c_13, if_neg c_20, if_neg c_31, if_neg c_41, if_neg c_53, if_pos c_68, if_pos c_79] at kk; exact kk H5 g5 ⟨hbl, htl, b, k0, u, v, ho, hbal, hten, hcs, hps⟩ E)
                · refine V_bipush (v := (-5)) dX2_enterCase_82 (by decide) ?_
                  exact V_reti dX2_enterCase_84 rfl rfl (by rw [entC, if_neg c_5, if_neg c_13, if_neg c_20, if_neg c_31, if_neg c_41, if_neg c_53, if_pos c_68, if_neg c_79] at kk; exact kk H g ⟨hbl, htl, b, k0, u, v, ho, hbal, hten, hcs, hps⟩ E)
              · refine V_bipush (v := (-3)) dX2_enterCase_71 (by decide) ?_
                exact V_reti dX2_enterCase_73 rfl rfl (by rw [entC, if_neg c_5, if_neg c_13, if_neg c_20, if_neg c_31, if_neg c_41, if_neg c_53, if_neg c_68] at kk; exact kk H g ⟨hbl, htl, b, k0, u, v, ho, hbal, hten, hcs, hps⟩ E)
            · refine V_bipush (v := (-2)) dX2_enterCase_56 (by decide) ?_
              exact V_reti dX2_enterCase_58 rfl rfl (by rw [entC, if_neg c_5, if_neg c_13, if_neg c_20, if_neg c_31, if_neg c_41, if_pos c_53] at kk; exact kk H g ⟨hbl, htl, b, k0, u, v, ho, hbal, hten, hcs, hps⟩ E)
    · refine V_iconst (v := (-1)) dX2_enterCase_16 rfl ?_
      exact V_reti dX2_enterCase_17 rfl rfl (by rw [entC, if_neg c_5, if_pos c_13] at kk; exact kk H g ⟨hbl, htl, b, k0, u, v, ho, hbal, hten, hcs, hps⟩ E)

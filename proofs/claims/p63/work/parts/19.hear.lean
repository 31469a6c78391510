def c7 (x : CaseC) (v : Int32) : CaseC := (cId x, cPl x, cDf x, cCl x, cDu x, cDl x, cMt x, v, cPc x, cAw x, cCo x, cDb x, cAa x, cAp x)
def c8 (x : CaseC) (v : Int32) : CaseC := (cId x, cPl x, cDf x, cCl x, cDu x, cDl x, cMt x, cSd x, v, cAw x, cCo x, cDb x, cAa x, cAp x)
def c9 (x : CaseC) (v : Int32) : CaseC := (cId x, cPl x, cDf x, cCl x, cDu x, cDl x, cMt x, cSd x, cPc x, v, cCo x, cDb x, cAa x, cAp x)
def c10 (x : CaseC) (v : Int32) : CaseC := (cId x, cPl x, cDf x, cCl x, cDu x, cDl x, cMt x, cSd x, cPc x, cAw x, v, cDb x, cAa x, cAp x)
def c11 (x : CaseC) (v : Int32) : CaseC := (cId x, cPl x, cDf x, cCl x, cDu x, cDl x, cMt x, cSd x, cPc x, cAw x, cCo x, v, cAa x, cAp x)
def c12 (x : CaseC) (v : Int32) : CaseC := (cId x, cPl x, cDf x, cCl x, cDu x, cDl x, cMt x, cSd x, cPc x, cAw x, cCo x, cDb x, v, cAp x)
def c13 (x : CaseC) (v : Int32) : CaseC := (cId x, cPl x, cDf x, cCl x, cDu x, cDl x, cMt x, cSd x, cPc x, cAw x, cCo x, cDb x, cAa x, v)
def ruleA (y : Int32) (x : CaseC) : CaseC := c9 (c8 x y) (((cCl (c8 x y)) * y) / 100)
set_option maxHeartbeats 1000000 in
set_option maxRecDepth 100000 in
theorem c_ruleA {G : GT} {X : String → Heap → Prop} {H : Heap} {g : Nat → Nat} {q mq : Nat} {y : Int32} {x : CaseC} (hq : Ob G H g 15 q 5 (cFs x mq))  {F : Heap → Prop} (kk : ∀ (H1 : Heap) (g1 : Nat → Nat), Ob G H1 g1 15 q 5 (cFs (ruleA y x) mq) → Ext G [15] H g H1 g1 → F H1) : Call G kX1_ruleAt 0 0 0 [.ref q, .int y] H (qv F) X := by
  have E : Ext G [15] H g H g := Ext.rf
  refine startL (L0 := [some (.ref q), some (.int y)]) rfl rfl pl_X1_ruleAt (Nat.le_of_ble_eq_true rfl) ?_
  refine V_aload_0 dX1_ruleAt_0 ?_
  refine V_iload_1 dX1_ruleAt_1 ?_
  refine V_put dX1_ruleAt_2 fp_X1_ruleAt_15 hq (by decide) ⟨rfl, rfl⟩ (Nat.le_of_ble_eq_true rfl) rfl fun H1 hnew e1 z1 => ?_
  replace E := E.trans (e1.wide (by decide))
  replace hq : Ob G H1 g 15 q 5 (cFs (c8 x y) mq) := hnew
  clear hnew
  refine V_aload_0 dX1_ruleAt_5 ?_
  refine V_aload_0 dX1_ruleAt_6 ?_
  refine V_getf dX1_ruleAt_7 fl_X1_44 hq.ro rfl ?_
  refine V_iload_1 dX1_ruleAt_10 ?_
  refine V_imul dX1_ruleAt_11 ?_
  refine V_bipush (v := 100) dX1_ruleAt_12 (by decide) ?_
  refine V_idiv dX1_ruleAt_14 (by decide) ?_
  refine V_put dX1_ruleAt_15 fp_X1_ruleAt_19 hq (by decide) ⟨rfl, rfl⟩ (Nat.le_of_ble_eq_true rfl) rfl fun H2 hnew e2 z2 => ?_
  replace E := E.trans (e2.wide (by decide))
  replace hq : Ob G H2 g 15 q 5 (cFs (c9 (c8 x y) (((cCl (c8 x y)) * y) / 100)) mq) := hnew
  clear hnew
  exact V_retv dX1_ruleAt_18 rfl (by rw [ruleA] at kk; exact kk H2 g hq E)
def addR  (bal : List Int32) (ten : List Int32) (cs : List CaseC) (ps : List PrecC) (n : Int32) (ch : Int32) (td : Int32) (nx : Int32) (x : CaseC) : List Int32 × List Int32 × List CaseC × List PrecC × Int32 × Int32 × Int32 × Int32 × CaseC := if 20 ≤ (nI ps.length) then (bal, ten, cs, ps, n, ch, td, nx, x) else (bal, ten, cs, ps ++ [(cMt x, cPc x)], n, ch, td, nx, c12 x (nI ps.length))
set_option maxHeartbeats 1000000 in
set_option maxRecDepth 100000 in
theorem c_addR {G : GT} {X : String → Heap → Prop} {H : Heap} {g : Nat → Nat} {a : Nat} {q mq : Nat} {bal : List Int32} {ten : List Int32} {cs : List CaseC} {ps : List PrecC} {n : Int32} {ch : Int32} {td : Int32} {nx : Int32} {x : CaseC} (h : MS G H g 10 a (bal, ten, cs, ps, n, ch, td, nx)) (hq : Ob G H g 15 q 5 (cFs x mq)) (hqm : Sz G H g mq (cMt x)) {F : Heap → Prop} (kk : ∀ (H1 : Heap) (g1 : Nat → Nat), MS G H1 g1 10 a ((addR bal ten cs ps n ch td nx x).1, (addR bal ten cs ps n ch td nx x).2.1, (addR bal ten cs ps n ch td nx x).2.2.1, (addR bal ten cs ps n ch td nx x).2.2.2.1, (addR bal ten cs ps n ch td nx x).2.2.2.2.1, (addR bal ten cs ps n ch td nx x).2.2.2.2.2.1, (addR bal ten cs ps n ch td nx x).2.2.2.2.2.2.1, (addR bal ten cs ps n ch td nx x).2.2.2.2.2.2.2.1) → Ob G H1 g1 15 q 5 (cFs (addR bal ten cs ps n ch td nx x).2.2.2.2.2.2.2.2 mq) → Ext G [10, 11, 12, 13, 14, 15, 16] H g H1 g1 → F H1) : Call G kX2_addRuling 8 2 63 [.ref a, .ref q] H (qv F) X := by
  have E : Ext G [10, 11, 12, 13, 14, 15, 16] H g H g := Ext.rf
  obtain ⟨hbl, htl, b, k0, u, v, ho, hbal, hten, hcs, hps⟩ := MS10 h
  clear h
  refine startL (L0 := [some (.ref a), some (.ref q)]) rfl rfl pl_X2_addRuling (Nat.le_of_ble_eq_true rfl) ?_
  refine V_aload_0 dX2_addRuling_0 ?_
  refine V_getf dX2_addRuling_1 fl_X2_112 ho.ro rfl ?_
  obtain ⟨fw, hw⟩ := hps.ro
  refine V_call_i (runV0 dX2_addRuling_4 ce_Jx4a65c_size_8abf5 rfl ml_X2_116 im_Jx4a65c_size_8abf5 se_Jx4a65c_size_8abf5 hw ⟨_, rfl, rfl⟩ (Nat.le_of_ble_eq_true rfl)) (by omega) (by omega) (by omega) (c_plsize hps ?_)
  refine V_bipush (v := 20) dX2_addRuling_7 (by decide) ?_
  refine V_icmp_ge (tgt := 46) dX2_addRuling_9 (by decide) (fun c_9 => ?_) (fun c_9 => ?_)
  · exact V_retv dX2_addRuling_46 rfl (by rw [addR, if_pos c_9] at kk; exact kk H g (show MS G H g 10 a (bal, ten, cs, ps, n, ch, td, nx) from ⟨hbl, htl, b, k0, u, v, ho, hbal, hten, hcs, hps⟩) hq E)
  · refine V_aload_1 dX2_addRuling_12 ?_
    refine V_aload_0 dX2_addRuling_13 ?_
    refine V_getf dX2_addRuling_14 fl_X2_112 ho.ro rfl ?_
    obtain ⟨fw, hw⟩ := hps.ro
    refine V_call_i (runV0 dX2_addRuling_17 ce_Jx4a65c_size_8abf5 rfl ml_X2_116 im_Jx4a65c_size_8abf5 se_Jx4a65c_size_8abf5 hw ⟨_, rfl, rfl⟩ (Nat.le_of_ble_eq_true rfl)) (by omega) (by omega) (by omega) (c_plsize hps ?_)
    refine V_put dX2_addRuling_20 fp_X2_addRuling_217 hq (by decide) ⟨rfl, rfl⟩ (Nat.le_of_ble_eq_true rfl) rfl fun H1 hnew e1 z1 => ?_
    replace ho := ho.fr e1 (by decide)
    replace hbal := hbal.fr e1 (by decide)
    replace hten := hten.fr e1 (by decide)
    replace hcs := hcs.fr e1 (by decide) (by decide)
    replace hps := hps.fr e1 (by decide) (by decide)
    replace hqm := hqm.fr e1 (by decide)
    replace E := E.trans (e1.wide (by decide))
    replace hq : Ob G H1 g 15 q 5 (cFs (c12 x (nI ps.length)) mq) := hnew
    clear hnew
    refine V_aload_0 dX2_addRuling_23 ?_
    refine V_getf dX2_addRuling_24 fl_X2_112 ho.ro rfl ?_
    refine V_mk2 (g := g) 16 2 dX2_addRuling_27 nw_X2_127 rfl (by omega) (by omega) fun r H2 g2 hr e2 z2 => ?_
    replace ho := ho.fr e2 (by decide)
    replace hbal := hbal.fr e2 (by decide)
    replace hten := hten.fr e2 (by decide)
    replace hcs := hcs.fr e2 (by decide) (by decide)
    replace hps := hps.fr e2 (by decide) (by decide)
    replace hq := hq.fr e2 (by decide)
    replace hqm := hqm.fr e2 (by decide)
    replace E := E.trans (e2.wide (by simp))
    refine V_dup dX2_addRuling_30 rfl ?_
    refine V_aload_1 dX2_addRuling_31 ?_
    refine V_getf dX2_addRuling_32 fl_X2_184 hq.ro rfl ?_
    refine V_aload_1 dX2_addRuling_35 ?_
    refine V_getf dX2_addRuling_36 fl_X2_220 hq.ro rfl ?_
    refine V_call_v (runI2 dX2_addRuling_39 ce_X5_init rfl rfl rfl ml_X2_129 im_X5_init (Nat.le_of_ble_eq_true rfl)) (by omega) (by omega) (by omega) (c_precInit hr (by decide) fun H3 hr e3 => ?_)
    replace ho := ho.fr e3 (by decide)
    replace hbal := hbal.fr e3 (by decide)
    replace hten := hten.fr e3 (by decide)
    replace hcs := hcs.fr e3 (by decide) (by decide)
    replace hps := hps.fr e3 (by decide) (by decide)
    replace hq := hq.fr e3 (by decide)
    replace hqm := hqm.fr e3 (by decide)
    replace E := E.trans (e3.wide (by decide))
    have hz := hr.rz
    have e4 := ext_frz (G := G) (H := H3) (g := g2) (t := 16)
    replace ho := ho.fr e4 (by decide)
    replace hbal := hbal.fr e4 (by decide)
    replace hten := hten.fr e4 (by decide)
    replace hcs := hcs.fr e4 (by decide) (by decide)
    replace hps := hps.fr e4 (by decide) (by decide)
    replace hq := hq.fr e4 (by decide)
    replace hqm := hqm.fr e4 (by decide)
    replace E := E.trans (e4.wide (by decide))
    replace hr := hz
    clear hz
    obtain ⟨fl, hfl⟩ := hps.ro
    refine V_call_i (runV1 dX2_addRuling_42 ce_Jx4a65c_add_9ea2d rfl ml_X2_132 im_Jx4a65c_add_9ea2d se_Jx4a65c_add_9ea2d hfl ⟨_, rfl, rfl⟩ (Nat.le_of_ble_eq_true rfl)) (by omega) (by omega) (by omega) (c_pladd (x := (cMt x, cPc x)) hps (hps.small (Int32.not_le.mp c_9) (by decide)) ⟨mq, hr, hqm⟩ (by decide) fun H5 g5 hnew e5 => ?_)
    replace ho := ho.fr e5 (by decide)
    replace hbal := hbal.fr e5 (by decide)
    replace hten := hten.fr e5 (by decide)
    replace hcs := hcs.fr e5 (by decide) (by decide)
    replace hps := hnew
    clear hnew
    replace hq := hq.fr e5 (by decide)
    replace hqm := hqm.fr e5 (by decide)
    replace hr := hr.fr e5 (by decide)
    replace E := E.trans (e5.wide (by decide))
    refine V_pop dX2_addRuling_45 rfl ?_
    exact V_retv dX2_addRuling_46 rfl (by rw [addR, if_neg c_9] at kk; exact kk H5 g5 (show MS G H5 g5 10 a (bal, ten, cs, ps ++ [(cMt x, cPc x)], n, ch, td, nx) from ⟨hbl, htl, b, k0, u, v, ho, hbal, hten, hcs, hps⟩) hq E)

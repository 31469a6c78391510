def c7 (x : CaseC) (v : Int32) : CaseC := (cId x, cPl x, cDf x, cCl x, cDu x, cDl x, cMt x, v, cPc x, cAw x, cCo x, cDb x, cAa x, cAp x)
def c8 (x : CaseC) (v : Int32) : CaseC := (cId x, cPl x, cDf x, cCl x, cDu x, cDl x, cMt x, cSd x, v, cAw x, cCo x, cDb x, cAa x, cAp x)
def c9 (x : CaseC) (v : Int32) : CaseC := (cId x, cPl x, cDf x, cCl x, cDu x, cDl x, cMt x, cSd x, cPc x, v, cCo x, cDb x, cAa x, cAp x)
def c10 (x : CaseC) (v : Int32) : CaseC := (cId x, cPl x, cDf x, cCl x, cDu x, cDl x, cMt x, cSd x, cPc x, cAw x, v, cDb x, cAa x, cAp x)
def c11 (x : CaseC) (v : Int32) : CaseC := (cId x, cPl x, cDf x, cCl x, cDu x, cDl x, cMt x, cSd x, cPc x, cAw x, cCo x, v, cAa x, cAp x)
def c12 (x : CaseC) (v : Int32) : CaseC := (cId x, cPl x, cDf x, cCl x, cDu x, cDl x, cMt x, cSd x, cPc x, cAw x, cCo x, cDb x, v, cAp x)
def c13 (x : CaseC) (v : Int32) : CaseC := (cId x, cPl x, cDf x, cCl x, cDu x, cDl x, cMt x, cSd x, cPc x, cAw x, cCo x, cDb x, cAa x, v)
def ruleA (y : Int32) (x : CaseC) : CaseC := c9 (c8 x y) (((cCl (c8 x y)) * y) / 100)
set_option maxHeartbeats 1000000 in
set_option maxRecDepth 100000 in
theorem c_ruleA {G : GT} {X : String → Heap → Prop} {H : Heap} {g : Nat → Nat} {q mq : Nat} {y : Int32} {x : CaseC} (hq : Ob G H g 15 q 5 (cFs x mq))  {F : Heap → Prop} (kk : ∀ (H1 : Heap) (g1 : Nat → Nat), Ob G H1 g1 15 q 5 (cFs (ruleA y x) mq) → Ext G [15] H g H1 g1 → F H1) : Call G kX1_ruleAt 0 0 0 [.ref q, .int y] H (qv F) X := by
  have E : Ext G [15] H g H g := Ext.rf
  refine startL (L0 := [some (.ref q), some (.int y)]) rfl rfl pl_X1_ruleAt (Nat.le_of_ble_eq_true rfl) ?_
  refine V_aload_0 dX1_ruleAt_0 ?_
  refine V_iload_1 dX1_ruleAt_1 ?_
  refine V_put dX1_ruleAt_2 fp_X1_ruleAt_15 hq (by decide) ⟨rfl, rfl⟩ (Nat.le_of_ble_eq_true rfl) rfl fun H1 hnew e1 z1 => ?_
  replace E := E.trans (e1.wide (by decide))
  replace hq : Ob G H1 g 15 q 5 (cFs (c8 x y) mq) := hnew
  clear hnew
  refine V_aload_0 dX1_ruleAt_5 ?_
  refine V_aload_0 dX1_ruleAt_6 ?_
  refine V_getf dX1_ruleAt_7 fl_X1_44 hq.ro rfl ?_
  refine V_iload_1 dX1_ruleAt_10 ?_
  refine V_imul dX1_ruleAt_11 ?_
  refine V_bipush (v := 100) dX1_ruleAt_12 (by decide) ?_
  refine V_idiv dX1_ruleAt_14 (by decide) ?_
  refine V_put dX1_ruleAt_15 fp_X1_ruleAt_19 hq (by decide) ⟨rfl, rfl⟩ (Nat.le_of_ble_eq_true rfl) rfl fun H2 hnew e2 z2 => ?_
  replace E := E.trans (e2.wide (by decide))
  replace hq : Ob G H2 g 15 q 5 (cFs (c9 (c8 x y) (((cCl (c8 x y)) * y) / 100)) mq) := hnew
  clear hnew
  exact V_retv dX1_ruleAt_18 rfl (by rw [ruleA] at kk; exact kk H2 g hq E)
def addR  (bal : List Int32) (ten : List Int32) (cs : List CaseC) (ps : List PrecC) (n : Int32) (ch : Int32) (td : Int32) (nx : Int32) (x : CaseC) : List Int32 × List Int32 × List CaseC × List PrecC × Int32 × Int32 × Int32 × Int32 × CaseC := if 20 ≤ (nI ps.length) then (bal, ten, cs, ps, n, ch, td, nx, x) else (bal, ten, cs, ps ++ [(cMt x, cPc x)], n, ch, td, nx, c12 x (nI ps.length))
set_option maxHeartbeats 1000000 in
set_option maxRecDepth 100000 in
theorem c_addR {G : GT} {X : String → Heap → Prop} {H : Heap} {g : Nat → Nat} {a : Nat} {q mq : Nat} {bal : List Int32} {ten : List Int32} {cs : List CaseC} {ps : List PrecC} {n : Int32} {ch : Int32} {td : Int32} {nx : Int32} {x : CaseC} (h : MS G H g 10 a (bal, ten, cs, ps, n, ch, td, nx)) (hq : Ob G H g 15 q 5 (cFs x mq)) (hqm : Sz G H g mq (cMt x)) {F : Heap → Prop} (kk : ∀ (H1 : Heap) (g1 : Nat → Nat), MS G H1 g1 10 a ((addR bal ten cs ps n ch td nx x).1, (addR bal ten cs ps n ch td nx x).2.1, (addR bal ten cs ps n ch td nx x).2.2.1, (addR bal ten cs ps n ch td nx x).2.2.2.1, (addR bal ten cs ps n ch td nx x).2.2.2.2.1, (addR bal ten cs ps n ch td nx x).2.2.2.2.2.1, (addR bal ten cs ps n ch td nx x).2.2.2.2.2.2.1, (addR bal ten cs ps n ch td nx x).2.2.2.2.2.2.2.1) → Ob G H1 g1 15 q 5 (cFs (addR bal ten cs ps n ch td nx x).2.2.2.2.2.2.2.2 mq) → Ext G [10, 11, 12, 13, 14, 15, 16] H g H1 g1 → F H1) : Call G kX2_addRuling 8 2 63 [.ref a, .ref q] H (qv F) X := by
  have E : Ext G [10, 11, 12, 13, 14, 15, 16] H g H g := Ext.rf
  obtain ⟨hbl, htl, b, k0, u, v, ho, hbal, hten, hcs, hps⟩ := MS10 h
  clear h
  refine startL (L0 := [some (.ref a), some (.ref q)]) rfl rfl pl_X2_addRuling (Nat.le_of_ble_eq_true rfl) ?_
  refine V_aload_0 dX2_addRuling_0 ?_
  refine V_getf dX2_addRuling_1 fl_X2_112 ho.ro rfl ?_
  obtain ⟨fw, hw⟩ := hps.ro
  refine V_call_i (runV0 dX2_addRuling_4 ce_Jx4a65c_size_8abf5 rfl ml_X2_116 im_Jx4a65c_size_8abf5 se_Jx4a65c_size_8abf5 hw ⟨_, rfl, rfl⟩ (Nat.le_of_ble_eq_true rfl)) (by omega) (by omega) (by omega) (c_plsize hps ?_)
  refine V_bipush (v := 20) dX2_addRuling_7 (by decide) ?_
  refine V_icmp_ge (tgt := 46) dX2_addRuling_9 (by decide) (fun c_9 => ?_) (fun c_9 => ?_)
  · exact V_retv dX2_addRuling_46 rfl (by rw [addR, if_pos c_9] at kk; exact kk H g (show MS G H g 10 a (bal, ten, cs, ps, n, ch, td, nx) from ⟨hbl, htl, b, k0, u, v, ho, hbal, hten, hcs, hps⟩) hq E)
  · refine V_aload_1 dX2_addRuling_12 ?_
    refine V_aload_0 dX2_addRuling_13 ?_
    refine V_getf dX2_addRuling_14 fl_X2_112 ho.ro rfl ?_
    obtain ⟨fw, hw⟩ := hps.ro
    refine V_call_i (runV0 dX2_addRuling_17 ce_Jx4a65c_size_8abf5 rfl ml_X2_116 im_Jx4a65c_size_8abf5 se_Jx4a65c_size_8abf5 hw ⟨_, rfl, rfl⟩ (Nat.le_of_ble_eq_true rfl)) (by omega) (by omega) (by omega) (c_plsize hps ?_)
    refine V_put dX2_addRuling_20 fp_X2_addRuling_217 hq (by decide) ⟨rfl, rfl⟩ (Nat.le_of_ble_eq_true rfl) rfl fun H1 hnew e1 z1 => ?_
    replace ho := ho.fr e1 (by decide)
    replace hbal := hbal.fr e1 (by decide)
    replace hten := hten.fr e1 (by decide)
    replace hcs := hcs.fr e1 (by decide) (by decide)
    replace hps := hps.fr e1 (by decide) (by decide)
    replace hqm := hqm.fr e1 (by decide)
    replace E := E.trans (e1.wide (by decide))
    replace hq : Ob G H1 g 15 q 5 (cFs (c12 x (nI ps.length)) mq) := hnew
    clear hnew
    refine V_aload_0 dX2_addRuling_23 ?_
    refine V_getf dX2_addRuling_24 fl_X2_112 ho.ro rfl ?_
    refine V_mk2 (g := g) 16 2 dX2_addRuling_27 nw_X2_127 rfl (by omega) (by omega) fun r H2 g2 hr e2 z2 => ?_
    replace ho := ho.fr e2 (by decide)
    replace hbal := hbal.fr e2 (by decide)
    replace hten := hten.fr e2 (by decide)
    replace hcs := hcs.fr e2 (by decide) (by decide)
    replace hps := hps.fr e2 (by decide) (by decide)
    replace hq := hq.fr e2 (by decide)
    replace hqm := hqm.fr e2 (by decide)
    replace E := E.trans (e2.wide (by simp))
    refine V_dup dX2_addRuling_30 rfl ?_
    refine V_aload_1 dX2_addRuling_31 ?_
    refine V_getf dX2_addRuling_32 fl_X2_184 hq.ro rfl ?_
    refine V_aload_1 dX2_addRuling_35 ?_
    refine V_getf dX2_addRuling_36 fl_X2_220 hq.ro rfl ?_
    refine V_call_v (runI2 dX2_addRuling_39 ce_X5_init rfl rfl rfl ml_X2_129 im_X5_init (Nat.le_of_ble_eq_true rfl)) (by omega) (by omega) (by omega) (c_precInit hr (by decide) fun H3 hr e3 => ?_)
    replace ho := ho.fr e3 (by decide)
    replace hbal := hbal.fr e3 (by decide)
    replace hten := hten.fr e3 (by decide)
    replace hcs := hcs.fr e3 (by decide) (by decide)
    replace hps := hps.fr e3 (by decide) (by decide)
    replace hq := hq.fr e3 (by decide)
    replace hqm := hqm.fr e3 (by decide)
    replace E := E.trans (e3.wide (by decide))
    have hz := hr.rz
    have e4 := ext_frz (G := G) (H := H3) (g := g2) (t := 16)
    replace ho := ho.fr e4 (by decide)
    replace hbal := hbal.fr e4 (by decide)
    replace hten := hten.fr e4 (by decide)
    replace hcs := hcs.fr e4 (by decide) (by decide)
    replace hps := hps.fr e4 (by decide) (by decide)
    replace hq := hq.fr e4 (by decide)
    replace hqm := hqm.fr e4 (by decide)
    replace E := E.trans (e4.wide (by decide))
    replace hr := hz
    clear hz
    obtain ⟨fl, hfl⟩ := hps.ro
    refine V_call_i (runV1 dX2_addRuling_42 ce_Jx4a65c_add_9ea2d rfl ml_X2_132 im_Jx4a65c_add_9ea2d se_Jx4a65c_add_9ea2d hfl ⟨_, rfl, rfl⟩ (Nat.le_of_ble_eq_true rfl)) (by omega) (by omega) (by omega) (c_pladd (x := (cMt x, cPc x)) hps (hps.small (Int32.not_le.mp c_9) (by decide)) ⟨mq, hr, hqm⟩ (by decide) fun H5 g5 hnew e5 => ?_)
    replace ho := ho.fr e5 (by decide)
    replace hbal := hbal.fr e5 (by decide)
    replace hten := hten.fr e5 (by decide)
    replace hcs := hcs.fr e5 (by decide) (by decide)
    replace hps := hnew
    clear hnew
    replace hq := hq.fr e5 (by decide)
    replace hqm := hqm.fr e5 (by decide)
    replace hr := hr.fr e5 (by decide)
    replace E := E.trans (e5.wide (by decide))
    refine V_pop dX2_addRuling_45 rfl ?_
    exact V_retv dX2_addRuling_46 rfl (by rw [addR, if_neg c_9] at kk; exact kk H5 g5 (show MS G H5 g5 10 a (bal, ten, cs, ps ++ [(cMt x, cPc x)], n, ch, td, nx) from ⟨hbl, htl, b, k0, u, v, ho, hbal, hten, hcs, hps⟩) hq E)
def nrC (x : CaseC) : Prop := (narrow .char (.int (cSd x)) = .int (cSd x) ∧ fits .char (.int (cSd x)) = true) ∧ narrow .boolean (.int (cAp x)) = .int (cAp x) ∧ fits .boolean (.int (cAp x)) = true ∧ ¬ cDu x < 0
theorem nr7 {x : CaseC} {v : Int32} (h : nrC x) (hv : narrow .char (.int v) = .int v ∧ fits .char (.int v) = true) : nrC (c7 x v) := ⟨hv, h.2⟩
theorem nr13 {x : CaseC} {v : Int32} (h : nrC x) (hv : narrow .boolean (.int v) = .int v ∧ fits .boolean (.int v) = true) : nrC (c13 x v) := ⟨h.1, hv.1, hv.2, h.2.2.2⟩
theorem nr8 {x : CaseC} {v : Int32} (h : nrC x) : nrC (c8 x v) := h
theorem nr10 {x : CaseC} {v : Int32} (h : nrC x) : nrC (c10 x v) := h
theorem nr11 {x : CaseC} {v : Int32} (h : nrC x) : nrC (c11 x v) := h
theorem nr12 {x : CaseC} {v : Int32} (h : nrC x) : nrC (c12 x v) := h
theorem nrR {x : CaseC} {v : Int32} (h : nrC x) : nrC (ruleA v x) := h
theorem nrA {x : CaseC} {bal ten : List Int32} {cs : List CaseC} {ps : List PrecC} {n ch td nx : Int32} (h : nrC x) : nrC (addR bal ten cs ps n ch td nx x).2.2.2.2.2.2.2.2 := by
  unfold addR
  split
  · exact h
  · exact nr12 h
theorem mtA {x : CaseC} {bal ten : List Int32} {cs : List CaseC} {ps : List PrecC} {n ch td nx : Int32} : cMt (addR bal ten cs ps n ch td nx x).2.2.2.2.2.2.2.2 = cMt x := by
  unfold addR
  split <;> rfl
theorem szA {G : GT} {H : Heap} {g : Nat → Nat} {m : Nat} {x : CaseC} {bal ten : List Int32} {cs : List CaseC} {ps : List PrecC} {n ch td nx : Int32} (h : Sz G H g m (cMt x)) : Sz G H g m (cMt (addR bal ten cs ps n ch td nx x).2.2.2.2.2.2.2.2) := by
  rw [mtA]
  exact h
theorem csA {x : CaseC} {bal ten : List Int32} {cs : List CaseC} {ps : List PrecC} {n ch td nx : Int32} : (addR bal ten cs ps n ch td nx x).2.2.1 = cs := by
  unfold addR
  split <;> rfl
def hearC2 (x : Int32) (pos : Int32) (bal : List Int32) (ten : List Int32) (cs : List CaseC) (ps : List PrecC) (n : Int32) (ch : Int32) (td : Int32) (nx : Int32) (gs : List Int32) (lf : List Int32) (ls : List Int32) (lt : List Int32) (y : CaseC) : Int32 × List Int32 × List Int32 × List CaseC × List PrecC × Int32 × Int32 × Int32 × Int32 × List Int32 × List Int32 × List Int32 × List Int32 := (cAw (y), (shareCB (moveAB (bal, ten, cs.set (pos).toNatClampNeg (y), ps, n, ch, td, nx) y (cAw (y))) y).1, (shareCB (moveAB (bal, ten, cs.set (pos).toNatClampNeg (y), ps, n, ch, td, nx) y (cAw (y))) y).2.1, (shareCB (moveAB (bal, ten, cs.set (pos).toNatClampNeg (y), ps, n, ch, td, nx) y (cAw (y))) y).2.2.1, (shareCB (moveAB (bal, ten, cs.set (pos).toNatClampNeg (y), ps, n, ch, td, nx) y (cAw (y))) y).2.2.2.1, (shareCB (moveAB (bal, ten, cs.set (pos).toNatClampNeg (y), ps, n, ch, td, nx) y (cAw (y))) y).2.2.2.2.1, (shareCB (moveAB (bal, ten, cs.set (pos).toNatClampNeg (y), ps, n, ch, td, nx) y (cAw (y))) y).2.2.2.2.2.1, (shareCB (moveAB (bal, ten, cs.set (pos).toNatClampNeg (y), ps, n, ch, td, nx) y (cAw (y))) y).2.2.2.2.2.2.1, (shareCB (moveAB (bal, ten, cs.set (pos).toNatClampNeg (y), ps, n, ch, td, nx) y (cAw (y))) y).2.2.2.2.2.2.2, gs, lf, ls, lt)
def hearC4 (x : Int32) (pos : Int32) (bal : List Int32) (ten : List Int32) (cs : List CaseC) (ps : List PrecC) (n : Int32) (ch : Int32) (td : Int32) (nx : Int32) (gs : List Int32) (lf : List Int32) (ls : List Int32) (lt : List Int32) (y : CaseC) : Int32 × List Int32 × List Int32 × List CaseC × List PrecC × Int32 × Int32 × Int32 × Int32 × List Int32 × List Int32 × List Int32 × List Int32 := hearC2 x pos ((addR bal ten cs ps n ch td nx y).1) ((addR bal ten cs ps n ch td nx y).2.1) ((addR bal ten cs ps n ch td nx y).2.2.1) ((addR bal ten cs ps n ch td nx y).2.2.2.1) ((addR bal ten cs ps n ch td nx y).2.2.2.2.1) ((addR bal ten cs ps n ch td nx y).2.2.2.2.2.1) ((addR bal ten cs ps n ch td nx y).2.2.2.2.2.2.1) ((addR bal ten cs ps n ch td nx y).2.2.2.2.2.2.2.1) gs lf ls lt ((addR bal ten cs ps n ch td nx y).2.2.2.2.2.2.2.2)
def hearC3 (x : Int32) (pos : Int32) (bal : List Int32) (ten : List Int32) (cs : List CaseC) (ps : List PrecC) (n : Int32) (ch : Int32) (td : Int32) (nx : Int32) (gs : List Int32) (lf : List Int32) (ls : List Int32) (lt : List Int32) (y : CaseC) : Int32 × List Int32 × List Int32 × List CaseC × List PrecC × Int32 × Int32 × Int32 × Int32 × List Int32 × List Int32 × List Int32 × List Int32 := hearC4 x pos bal ten cs ps n ch td nx gs ((percB ps (cDb y) (cMt y) lf ls lt).2.1) ((percB ps (cDb y) (cMt y) lf ls lt).2.2.1) ((percB ps (cDb y) (cMt y) lf ls lt).2.2.2) (ruleA ((percB ps (cDb y) (cMt y) lf ls lt).1) y)
def hearC1 (x : Int32) (pos : Int32) (it : Int32) (bal : List Int32) (ten : List Int32) (cs : List CaseC) (ps : List PrecC) (n : Int32) (ch : Int32) (td : Int32) (nx : Int32) (gs : List Int32) (lf : List Int32) (ls : List Int32) (lt : List Int32) (y : CaseC) : Int32 × List Int32 × List Int32 × List CaseC × List PrecC × Int32 × Int32 × Int32 × Int32 × List Int32 × List Int32 × List Int32 × List Int32 := if it = 0 then (hearC2 x pos bal ten cs ps n ch td nx gs lf ls lt y) else (hearC3 x pos bal ten cs ps n ch td nx gs ((near ps (cMt y) (-1) (-1) lf ls lt).2.1) ((near ps (cMt y) (-1) (-1) lf ls lt).2.2.1) ((near ps (cMt y) (-1) (-1) lf ls lt).2.2.2) (c11 y ((near ps (cMt y) (-1) (-1) lf ls lt).1)))
def hearCb (x : Int32) (pos : Int32) (it : Int32) (bal : List Int32) (ten : List Int32) (cs : List CaseC) (ps : List PrecC) (n : Int32) (ch : Int32) (td : Int32) (nx : Int32) (gs : List Int32) (lf : List Int32) (ls : List Int32) (lt : List Int32) (y : CaseC) : Int32 × List Int32 × List Int32 × List CaseC × List PrecC × Int32 × Int32 × Int32 × Int32 × List Int32 × List Int32 × List Int32 × List Int32 := if it = 0 then (if it = 0 then (hearC1 x pos it bal ten cs ps n ch (td + (cDu y)) nx ((strainJ ten n (cPl y) (cDf y) gs).2) lf ls lt (c7 (c10 y ((4 * (cDu y)) + ((strainJ ten n (cPl y) (cDf y) gs).1))) 100)) else (hearC1 x pos it bal ten cs ps n ch (td + (cDu y)) nx ((strainJ ten n (cPl y) (cDf y) gs).2) lf ls lt (c7 (c10 y ((4 * (cDu y)) + ((strainJ ten n (cPl y) (cDf y) gs).1))) 114))) else (if (b2i (decide (ps = []))) = 0 then (if it = 0 then (hearC1 x pos it bal ten cs ps n ch (td + (cDu y)) nx ((strainJ ten n (cPl y) (cDf y) gs).2) lf ls lt (c7 (c10 y ((4 * (cDu y)) + ((strainJ ten n (cPl y) (cDf y) gs).1))) 100)) else (hearC1 x pos it bal ten cs ps n ch (td + (cDu y)) nx ((strainJ ten n (cPl y) (cDf y) gs).2) lf ls lt (c7 (c10 y ((4 * (cDu y)) + ((strainJ ten n (cPl y) (cDf y) gs).1))) 114))) else ((-5), bal, ten, cs, ps, n, ch, td, nx, gs, lf, ls, lt))
def hearC0 (x : Int32) (pos : Int32) (bal : List Int32) (ten : List Int32) (cs : List CaseC) (ps : List PrecC) (n : Int32) (ch : Int32) (td : Int32) (nx : Int32) (gs : List Int32) (lf : List Int32) (ls : List Int32) (lt : List Int32) (y : CaseC) : Int32 × List Int32 × List Int32 × List CaseC × List PrecC × Int32 × Int32 × Int32 × Int32 × List Int32 × List Int32 × List Int32 × List Int32 := if (cSd y) = 102 then (if (cDl y) < (td + (cDu y)) then (hearCb x pos 0 bal ten cs ps n ch td nx gs lf ls lt y) else (hearCb x pos 1 bal ten cs ps n ch td nx gs lf ls lt y)) else ((-3), bal, ten, cs, ps, n, ch, td, nx, gs, lf, ls, lt)
def hearC (x : Int32) (bal : List Int32) (ten : List Int32) (cs : List CaseC) (ps : List PrecC) (n : Int32) (ch : Int32) (td : Int32) (nx : Int32) (gs : List Int32) (lf : List Int32) (ls : List Int32) (lt : List Int32) : Int32 × List Int32 × List Int32 × List CaseC × List PrecC × Int32 × Int32 × Int32 × Int32 × List Int32 × List Int32 × List Int32 × List Int32 := if (posOf cs x) < 0 then ((-4), bal, ten, cs, ps, n, ch, td, nx, gs, lf, ls, lt) else (if (posOf cs x) < (nI cs.length) then (hearC0 x (posOf cs x) bal ten cs ps n ch td nx gs lf ls lt (gC cs ((posOf cs x)))) else ((-4), bal, ten, cs, ps, n, ch, td, nx, gs, lf, ls, lt))
set_option maxHeartbeats 1000000 in
set_option maxRecDepth 100000 in
theorem c_hearC2 {G : GT} {X : String → Heap → Prop} {H0 : Heap} {g0 : Nat → Nat} {c s : Nat} {a : Nat} {o : Nat} {th p p2 p3 : Nat} {ru qf qs qt : Nat} {x : Int32} {q mq : Nat} {F : Int32 → Heap → Prop} : ∀ (pos : Int32) (bal : List Int32) (ten : List Int32) (cs : List CaseC) (ps : List PrecC) (n : Int32) (ch : Int32) (td : Int32) (nx : Int32) (gs : List Int32) (lf : List Int32) (ls : List Int32) (lt : List Int32) (y : CaseC) (H : Heap) (g : Nat → Nat), MS G H g 10 a (bal, ten, cs, ps, n, ch, td, nx) → Ja G H g 21 p 0 8 gs → Ja G H g 24 qf 1 8 lf → Ja G H g 25 qs 1 8 ls → Ja G H g 26 qt 0 81 lt → Rz G H g o 6 [.ref th, .ref ru] → Rz G H g th 14 [.ref p, .ref p2, .ref p3] → Rz G H g ru 10 [.ref qf, .ref qs, .ref qt] → Ob G H g 15 q 5 (cFs y mq) → Sz G H g mq (cMt y) → nrC y → Ext G [10, 11, 12, 13, 14, 15, 16, 21, 24, 25, 26] H0 g0 H g → ¬ pos < 0 → ¬ nI cs.length ≤ pos → 0 ≤ c → 0 ≤ s → (∀ (H1 : Heap) (g1 : Nat → Nat), MS G H1 g1 10 a ((hearC2 x pos bal ten cs ps n ch td nx gs lf ls lt y).2.1, (hearC2 x pos bal ten cs ps n ch td nx gs lf ls lt y).2.2.1, (hearC2 x pos bal ten cs ps n ch td nx gs lf ls lt y).2.2.2.1, (hearC2 x pos bal ten cs ps n ch td nx gs lf ls lt y).2.2.2.2.1, (hearC2 x pos bal ten cs ps n ch td nx gs lf ls lt y).2.2.2.2.2.1, (hearC2 x pos bal ten cs ps n ch td nx gs lf ls lt y).2.2.2.2.2.2.1, (hearC2 x pos bal ten cs ps n ch td nx gs lf ls lt y).2.2.2.2.2.2.2.1, (hearC2 x pos bal ten cs ps n ch td nx gs lf ls lt y).2.2.2.2.2.2.2.2.1) → Ja G H1 g1 21 p 0 8 (hearC2 x pos bal ten cs ps n ch td nx gs lf ls lt y).2.2.2.2.2.2.2.2.2.1 → Ja G H1 g1 24 qf 1 8 (hearC2 x pos bal ten cs ps n ch td nx gs lf ls lt y).2.2.2.2.2.2.2.2.2.2.1 → Ja G H1 g1 25 qs 1 8 (hearC2 x pos bal ten cs ps n ch td nx gs lf ls lt y).2.2.2.2.2.2.2.2.2.2.2.1 → Ja G H1 g1 26 qt 0 81 (hearC2 x pos bal ten cs ps n ch td nx gs lf ls lt y).2.2.2.2.2.2.2.2.2.2.2.2 → Ext G [10, 11, 12, 13, 14, 15, 16, 21, 24, 25, 26] H0 g0 H1 g1 → F ((hearC2 x pos bal ten cs ps n ch td nx gs lf ls lt y).1) H1) → V G kX2_hearCase 9 c s (qi F) X 206 [some (.ref o), some (.ref a), some (.int x), some (.int pos), some (.ref q), none] [] H := by
  intro pos bal ten cs ps n ch td nx gs lf ls lt y H g h hgs hlf hls hlt hco hth hru hq hqm hnr E hp0 hp1 hc hs kk
  obtain ⟨hbl, htl, b, k0, u, v, ho, hbal, hten, hcs, hps⟩ := MS10 h
  clear h
  refine V_aload_1 dX2_hearCase_206 ?_
  refine V_getf dX2_hearCase_207 fl_X2_136 ho.ro rfl ?_
  refine V_iload_3 dX2_hearCase_210 ?_
  refine V_aload_4 dX2_hearCase_211 ?_
  have hz := hq.rz
  have e1 := ext_frz (G := G) (H := H) (g := g) (t := 15)
  replace ho := ho.fr e1 (by decide)
  replace hbal := hbal.fr e1 (by decide)
  replace hten := hten.fr e1 (by decide)
  replace hcs := hcs.fr e1 (by decide) (by decide)
  replace hps := hps.fr e1 (by decide) (by decide)
  replace hgs := hgs.fr e1 (by decide)
  replace hlf := hlf.fr e1 (by decide)
  replace hls := hls.fr e1 (by decide)
  replace hlt := hlt.fr e1 (by decide)
  replace hco := hco.fr e1 (by decide)
  replace hth := hth.fr e1 (by decide)
  replace hru := hru.fr e1 (by decide)
  replace hqm := hqm.fr e1 (by decide)
  replace E := E.trans (e1.wide (by decide))
  replace hq := hz
  clear hz
  replace hqm : Sz G H (gall G g [15] 0) mq (cMt (y)) := hqm
  obtain ⟨fl, hfl⟩ := hcs.ro
  refine V_call_a (runV2 dX2_hearCase_213 ce_Jx4a65c_set_bcc79 rfl ml_X2_203 im_Jx4a65c_set_bcc79 se_Jx4a65c_set_bcc79 hfl ⟨_, rfl, rfl⟩ (Nat.le_of_ble_eq_true rfl)) (by omega) (by omega) (by omega) (c_clset (x := (y)) hcs hp0 hp1 (isCase.mk (x := y) hq hqm hnr) (by decide) fun dropped H2 g2 hnew e2 => ?_)
  replace ho := ho.fr e2 (by decide)
  replace hbal := hbal.fr e2 (by decide)
  replace hten := hten.fr e2 (by decide)
  replace hcs := hnew
  clear hnew
  replace hps := hps.fr e2 (by decide) (by decide)
  replace hgs := hgs.fr e2 (by decide)
  replace hlf := hlf.fr e2 (by decide)
  replace hls := hls.fr e2 (by decide)
  replace hlt := hlt.fr e2 (by decide)
  replace hco := hco.fr e2 (by decide)
  replace hth := hth.fr e2 (by decide)
  replace hru := hru.fr e2 (by decide)
  replace hq := hq.fr e2 (by decide)
  replace hqm := hqm.fr e2 (by decide)
  replace E := E.trans (e2.wide (by decide))
  refine V_pop dX2_hearCase_216 rfl ?_
  refine V_aload_1 dX2_hearCase_217 ?_
  refine V_aload_4 dX2_hearCase_218 ?_
  refine V_aload_4 dX2_hearCase_220 ?_
  refine V_getf dX2_hearCase_222 fl_X2_207 hq.1 rfl ?_
  have h : MS G H2 g2 10 a (bal, ten, cs.set (pos).toNatClampNeg (y), ps, n, ch, td, nx) := ⟨hbl, htl, b, k0, u, v, ho, hbal, hten, hcs, hps⟩
  refine V_call_v (runS3 dX2_hearCase_225 ce_X2_moveAward rfl ml_X2_210 st_X2_moveAward (Nat.le_of_ble_eq_true rfl)) (by omega) (by omega) (by omega) (c_moveA h hq (y := (cAw (y))) fun H3 g3 h_ e3 => ?_)
  clear h hbl htl ho hbal hten hcs hps
  have h : MS G H3 g3 10 a (((moveAB (bal, ten, cs.set (pos).toNatClampNeg (y), ps, n, ch, td, nx) y (cAw (y))).1), ((moveAB (bal, ten, cs.set (pos).toNatClampNeg (y), ps, n, ch, td, nx) y (cAw (y))).2.1), ((moveAB (bal, ten, cs.set (pos).toNatClampNeg (y), ps, n, ch, td, nx) y (cAw (y))).2.2.1), ((moveAB (bal, ten, cs.set (pos).toNatClampNeg (y), ps, n, ch, td, nx) y (cAw (y))).2.2.2.1), ((moveAB (bal, ten, cs.set (pos).toNatClampNeg (y), ps, n, ch, td, nx) y (cAw (y))).2.2.2.2.1), ((moveAB (bal, ten, cs.set (pos).toNatClampNeg (y), ps, n, ch, td, nx) y (cAw (y))).2.2.2.2.2.1), ((moveAB (bal, ten, cs.set (pos).toNatClampNeg (y), ps, n, ch, td, nx) y (cAw (y))).2.2.2.2.2.2.1), ((moveAB (bal, ten, cs.set (pos).toNatClampNeg (y), ps, n, ch, td, nx) y (cAw (y))).2.2.2.2.2.2.2)) := h_
  obtain ⟨hbl, htl, b, k0, u, v, ho, hbal, hten, hcs, hps⟩ := MS10 h
  clear h h_
  replace hgs := hgs.fr e3 (by decide)
  replace hlf := hlf.fr e3 (by decide)
  replace hls := hls.fr e3 (by decide)
  replace hlt := hlt.fr e3 (by decide)
  replace hco := hco.fr e3 (by decide)
  replace hth := hth.fr e3 (by decide)
  replace hru := hru.fr e3 (by decide)
  replace hq := hq.fr e3 (by decide)
  replace hqm := hqm.fr e3 (by decide)
  replace E := E.trans (e3.wide (by decide))
  refine V_aload_1 dX2_hearCase_228 ?_
  refine V_aload_4 dX2_hearCase_229 ?_
  have h : MS G H3 g3 10 a ((moveAB (bal, ten, cs.set (pos).toNatClampNeg (y), ps, n, ch, td, nx) y (cAw (y))).1, (moveAB (bal, ten, cs.set (pos).toNatClampNeg (y), ps, n, ch, td, nx) y (cAw (y))).2.1, (moveAB (bal, ten, cs.set (pos).toNatClampNeg (y), ps, n, ch, td, nx) y (cAw (y))).2.2.1, (moveAB (bal, ten, cs.set (pos).toNatClampNeg (y), ps, n, ch, td, nx) y (cAw (y))).2.2.2.1, (moveAB (bal, ten, cs.set (pos).toNatClampNeg (y), ps, n, ch, td, nx) y (cAw (y))).2.2.2.2.1, (moveAB (bal, ten, cs.set (pos).toNatClampNeg (y), ps, n, ch, td, nx) y (cAw (y))).2.2.2.2.2.1, (moveAB (bal, ten, cs.set (pos).toNatClampNeg (y), ps, n, ch, td, nx) y (cAw (y))).2.2.2.2.2.2.1, (moveAB (bal, ten, cs.set (pos).toNatClampNeg (y), ps, n, ch, td, nx) y (cAw (y))).2.2.2.2.2.2.2) := ⟨hbl, htl, b, k0, u, v, ho, hbal, hten, hcs, hps⟩
  refine V_call_v (runS2 dX2_hearCase_231 ce_X2_shareCost rfl ml_X2_214 st_X2_shareCost (Nat.le_of_ble_eq_true rfl)) (by omega) (by omega) (by omega) (c_shareC h hq fun H4 g4 h_ e4 => ?_)
  clear h hbl htl ho hbal hten hcs hps
  have h : MS G H4 g4 10 a (((shareCB (moveAB (bal, ten, cs.set (pos).toNatClampNeg (y), ps, n, ch, td, nx) y (cAw (y))) y).1), ((shareCB (moveAB (bal, ten, cs.set (pos).toNatClampNeg (y), ps, n, ch, td, nx) y (cAw (y))) y).2.1), ((shareCB (moveAB (bal, ten, cs.set (pos).toNatClampNeg (y), ps, n, ch, td, nx) y (cAw (y))) y).2.2.1), ((shareCB (moveAB (bal, ten, cs.set (pos).toNatClampNeg (y), ps, n, ch, td, nx) y (cAw (y))) y).2.2.2.1), ((shareCB (moveAB (bal, ten, cs.set (pos).toNatClampNeg (y), ps, n, ch, td, nx) y (cAw (y))) y).2.2.2.2.1), ((shareCB (moveAB (bal, ten, cs.set (pos).toNatClampNeg (y), ps, n, ch, td, nx) y (cAw (y))) y).2.2.2.2.2.1), ((shareCB (moveAB (bal, ten, cs.set (pos).toNatClampNeg (y), ps, n, ch, td, nx) y (cAw (y))) y).2.2.2.2.2.2.1), ((shareCB (moveAB (bal, ten, cs.set (pos).toNatClampNeg (y), ps, n, ch, td, nx) y (cAw (y))) y).2.2.2.2.2.2.2)) := h_
  obtain ⟨hbl, htl, b, k0, u, v, ho, hbal, hten, hcs, hps⟩ := MS10 h
  clear h h_
  replace hgs := hgs.fr e4 (by decide)
  replace hlf := hlf.fr e4 (by decide)
  replace hls := hls.fr e4 (by decide)
  replace hlt := hlt.fr e4 (by decide)
  replace hco := hco.fr e4 (by decide)
  replace hth := hth.fr e4 (by decide)
  replace hru := hru.fr e4 (by decide)
  replace hq := hq.fr e4 (by decide)
  replace hqm := hqm.fr e4 (by decide)
  replace E := E.trans (e4.wide (by decide))
  refine V_aload_4 dX2_hearCase_234 ?_
  refine V_getf dX2_hearCase_236 fl_X2_207 hq.1 rfl ?_
  exact V_reti dX2_hearCase_239 rfl rfl (by rw [hearC2] at kk; exact kk H4 g4 (show MS G H4 g4 10 a ((shareCB (moveAB (bal, ten, cs.set (pos).toNatClampNeg (y), ps, n, ch, td, nx) y (cAw (y))) y).1, (shareCB (moveAB (bal, ten, cs.set (pos).toNatClampNeg (y), ps, n, ch, td, nx) y (cAw (y))) y).2.1, (shareCB (moveAB (bal, ten, cs.set (pos).toNatClampNeg (y), ps, n, ch, td, nx) y (cAw (y))) y).2.2.1, (shareCB (moveAB (bal, ten, cs.set (pos).toNatClampNeg (y), ps, n, ch, td, nx) y (cAw (y))) y).2.2.2.1, (shareCB (moveAB (bal, ten, cs.set (pos).toNatClampNeg (y), ps, n, ch, td, nx) y (cAw (y))) y).2.2.2.2.1, (shareCB (moveAB (bal, ten, cs.set (pos).toNatClampNeg (y), ps, n, ch, td, nx) y (cAw (y))) y).2.2.2.2.2.1, (shareCB (moveAB (bal, ten, cs.set (pos).toNatClampNeg (y), ps, n, ch, td, nx) y (cAw (y))) y).2.2.2.2.2.2.1, (shareCB (moveAB (bal, ten, cs.set (pos).toNatClampNeg (y), ps, n, ch, td, nx) y (cAw (y))) y).2.2.2.2.2.2.2) from ⟨hbl, htl, b, k0, u, v, ho, hbal, hten, hcs, hps⟩) hgs hlf hls hlt E)
set_option maxHeartbeats 1000000 in
set_option maxRecDepth 100000 in
theorem c_hearC4 {G : GT} {X : String → Heap → Prop} {H0 : Heap} {g0 : Nat → Nat} {c s : Nat} {a : Nat} {o : Nat} {th p p2 p3 : Nat} {ru qf qs qt : Nat} {x : Int32} {q mq : Nat} {F : Int32 → Heap → Prop} : ∀ (pos : Int32) (bal : List Int32) (ten : List Int32) (cs : List CaseC) (ps : List PrecC) (n : Int32) (ch : Int32) (td : Int32) (nx : Int32) (gs : List Int32) (lf : List Int32) (ls : List Int32) (lt : List Int32) (y : CaseC) (H : Heap) (g : Nat → Nat), MS G H g 10 a (bal, ten, cs, ps, n, ch, td, nx) → Ja G H g 21 p 0 8 gs → Ja G H g 24 qf 1 8 lf → Ja G H g 25 qs 1 8 ls → Ja G H g 26 qt 0 81 lt → Rz G H g o 6 [.ref th, .ref ru] → Rz G H g th 14 [.ref p, .ref p2, .ref p3] → Rz G H g ru 10 [.ref qf, .ref qs, .ref qt] → Ob G H g 15 q 5 (cFs y mq) → Sz G H g mq (cMt y) → nrC y → Ext G [10, 11, 12, 13, 14, 15, 16, 21, 24, 25, 26] H0 g0 H g → ¬ pos < 0 → ¬ nI cs.length ≤ pos → 2 ≤ c → 63 ≤ s → (∀ (H1 : Heap) (g1 : Nat → Nat), MS G H1 g1 10 a ((hearC4 x pos bal ten cs ps n ch td nx gs lf ls lt y).2.1, (hearC4 x pos bal ten cs ps n ch td nx gs lf ls lt y).2.2.1, (hearC4 x pos bal ten cs ps n ch td nx gs lf ls lt y).2.2.2.1, (hearC4 x pos bal ten cs ps n ch td nx gs lf ls lt y).2.2.2.2.1, (hearC4 x pos bal ten cs ps n ch td nx gs lf ls lt y).2.2.2.2.2.1, (hearC4 x pos bal ten cs ps n ch td nx gs lf ls lt y).2.2.2.2.2.2.1, (hearC4 x pos bal ten cs ps n ch td nx gs lf ls lt y).2.2.2.2.2.2.2.1, (hearC4 x pos bal ten cs ps n ch td nx gs lf ls lt y).2.2.2.2.2.2.2.2.1) → Ja G H1 g1 21 p 0 8 (hearC4 x pos bal ten cs ps n ch td nx gs lf ls lt y).2.2.2.2.2.2.2.2.2.1 → Ja G H1 g1 24 qf 1 8 (hearC4 x pos bal ten cs ps n ch td nx gs lf ls lt y).2.2.2.2.2.2.2.2.2.2.1 → Ja G H1 g1 25 qs 1 8 (hearC4 x pos bal ten cs ps n ch td nx gs lf ls lt y).2.2.2.2.2.2.2.2.2.2.2.1 → Ja G H1 g1 26 qt 0 81 (hearC4 x pos bal ten cs ps n ch td nx gs lf ls lt y).2.2.2.2.2.2.2.2.2.2.2.2 → Ext G [10, 11, 12, 13, 14, 15, 16, 21, 24, 25, 26] H0 g0 H1 g1 → F ((hearC4 x pos bal ten cs ps n ch td nx gs lf ls lt y).1) H1) → V G kX2_hearCase 9 c s (qi F) X 200 [some (.ref o), some (.ref a), some (.int x), some (.int pos), some (.ref q), none] [] H := by
  intro pos bal ten cs ps n ch td nx gs lf ls lt y H g h hgs hlf hls hlt hco hth hru hq hqm hnr E hp0 hp1 hc hs kk
  obtain ⟨hbl, htl, b, k0, u, v, ho, hbal, hten, hcs, hps⟩ := MS10 h
  clear h
  refine V_aload_1 dX2_hearCase_200 ?_
  refine V_aload_4 dX2_hearCase_201 ?_
  have h : MS G H g 10 a (bal, ten, cs, ps, n, ch, td, nx) := ⟨hbl, htl, b, k0, u, v, ho, hbal, hten, hcs, hps⟩
  refine V_call_v (runS2 dX2_hearCase_203 ce_X2_addRuling rfl ml_X2_199 st_X2_addRuling (Nat.le_of_ble_eq_true rfl)) (by omega) (by omega) (by omega) (c_addR h hq hqm fun H1 g1 h_ hq_ e1 => ?_)
  clear h hbl htl ho hbal hten hcs hps
  have h : MS G H1 g1 10 a (((addR bal ten cs ps n ch td nx y).1), ((addR bal ten cs ps n ch td nx y).2.1), ((addR bal ten cs ps n ch td nx y).2.2.1), ((addR bal ten cs ps n ch td nx y).2.2.2.1), ((addR bal ten cs ps n ch td nx y).2.2.2.2.1), ((addR bal ten cs ps n ch td nx y).2.2.2.2.2.1), ((addR bal ten cs ps n ch td nx y).2.2.2.2.2.2.1), ((addR bal ten cs ps n ch td nx y).2.2.2.2.2.2.2.1)) := h_
  obtain ⟨hbl, htl, b, k0, u, v, ho, hbal, hten, hcs, hps⟩ := MS10 h
  clear h h_
  replace hgs := hgs.fr e1 (by decide)
  replace hlf := hlf.fr e1 (by decide)
  replace hls := hls.fr e1 (by decide)
  replace hlt := hlt.fr e1 (by decide)
  replace hco := hco.fr e1 (by decide)
  replace hth := hth.fr e1 (by decide)
  replace hru := hru.fr e1 (by decide)
  replace hqm := hqm.fr e1 (by decide)
  replace E := E.trans (e1.wide (by decide))
  replace hq : Ob G H1 g1 15 q 5 (cFs ((addR bal ten cs ps n ch td nx y).2.2.2.2.2.2.2.2) mq) := hq_
  clear hq_
  exact c_hearC2  pos ((addR bal ten cs ps n ch td nx y).1) ((addR bal ten cs ps n ch td nx y).2.1) ((addR bal ten cs ps n ch td nx y).2.2.1) ((addR bal ten cs ps n ch td nx y).2.2.2.1) ((addR bal ten cs ps n ch td nx y).2.2.2.2.1) ((addR bal ten cs ps n ch td nx y).2.2.2.2.2.1) ((addR bal ten cs ps n ch td nx y).2.2.2.2.2.2.1) ((addR bal ten cs ps n ch td nx y).2.2.2.2.2.2.2.1) gs lf ls lt ((addR bal ten cs ps n ch td nx y).2.2.2.2.2.2.2.2) H1 g1 (show MS G H1 g1 10 a ((addR bal ten cs ps n ch td nx y).1, (addR bal ten cs ps n ch td nx y).2.1, (addR bal ten cs ps n ch td nx y).2.2.1, (addR bal ten cs ps n ch td nx y).2.2.2.1, (addR bal ten cs ps n ch td nx y).2.2.2.2.1, (addR bal ten cs ps n ch td nx y).2.2.2.2.2.1, (addR bal ten cs ps n ch td nx y).2.2.2.2.2.2.1, (addR bal ten cs ps n ch td nx y).2.2.2.2.2.2.2.1) from ⟨hbl, htl, b, k0, u, v, ho, hbal, hten, hcs, hps⟩) hgs hlf hls hlt hco hth hru hq (szA hqm) (nrA hnr) E hp0 (by first | exact hp1 | (rw [csA]; exact hp1)) (by omega) (by omega) (by rw [hearC4] at kk; exact kk)
set_option maxHeartbeats 1000000 in
set_option maxRecDepth 100000 in
theorem c_hearC3 {G : GT} {X : String → Heap → Prop} {H0 : Heap} {g0 : Nat → Nat} {c s : Nat} {a : Nat} {o : Nat} {th p p2 p3 : Nat} {ru qf qs qt : Nat} {x : Int32} {q mq : Nat} {F : Int32 → Heap → Prop} : ∀ (pos : Int32) (bal : List Int32) (ten : List Int32) (cs : List CaseC) (ps : List PrecC) (n : Int32) (ch : Int32) (td : Int32) (nx : Int32) (gs : List Int32) (lf : List Int32) (ls : List Int32) (lt : List Int32) (y : CaseC) (H : Heap) (g : Nat → Nat), MS G H g 10 a (bal, ten, cs, ps, n, ch, td, nx) → Ja G H g 21 p 0 8 gs → Ja G H g 24 qf 1 8 lf → Ja G H g 25 qs 1 8 ls → Ja G H g 26 qt 0 81 lt → Rz G H g o 6 [.ref th, .ref ru] → Rz G H g th 14 [.ref p, .ref p2, .ref p3] → Rz G H g ru 10 [.ref qf, .ref qs, .ref qt] → Ob G H g 15 q 5 (cFs y mq) → Sz G H g mq (cMt y) → nrC y → Ext G [10, 11, 12, 13, 14, 15, 16, 21, 24, 25, 26] H0 g0 H g → ¬ pos < 0 → ¬ nI cs.length ≤ pos → 2 ≤ c → 63 ≤ s → (∀ (H1 : Heap) (g1 : Nat → Nat), MS G H1 g1 10 a ((hearC3 x pos bal ten cs ps n ch td nx gs lf ls lt y).2.1, (hearC3 x pos bal ten cs ps n ch td nx gs lf ls lt y).2.2.1, (hearC3 x pos bal ten cs ps n ch td nx gs lf ls lt y).2.2.2.1, (hearC3 x pos bal ten cs ps n ch td nx gs lf ls lt y).2.2.2.2.1, (hearC3 x pos bal ten cs ps n ch td nx gs lf ls lt y).2.2.2.2.2.1, (hearC3 x pos bal ten cs ps n ch td nx gs lf ls lt y).2.2.2.2.2.2.1, (hearC3 x pos bal ten cs ps n ch td nx gs lf ls lt y).2.2.2.2.2.2.2.1, (hearC3 x pos bal ten cs ps n ch td nx gs lf ls lt y).2.2.2.2.2.2.2.2.1) → Ja G H1 g1 21 p 0 8 (hearC3 x pos bal ten cs ps n ch td nx gs lf ls lt y).2.2.2.2.2.2.2.2.2.1 → Ja G H1 g1 24 qf 1 8 (hearC3 x pos bal ten cs ps n ch td nx gs lf ls lt y).2.2.2.2.2.2.2.2.2.2.1 → Ja G H1 g1 25 qs 1 8 (hearC3 x pos bal ten cs ps n ch td nx gs lf ls lt y).2.2.2.2.2.2.2.2.2.2.2.1 → Ja G H1 g1 26 qt 0 81 (hearC3 x pos bal ten cs ps n ch td nx gs lf ls lt y).2.2.2.2.2.2.2.2.2.2.2.2 → Ext G [10, 11, 12, 13, 14, 15, 16, 21, 24, 25, 26] H0 g0 H1 g1 → F ((hearC3 x pos bal ten cs ps n ch td nx gs lf ls lt y).1) H1) → V G kX2_hearCase 9 c s (qi F) X 180 [some (.ref o), some (.ref a), some (.int x), some (.int pos), some (.ref q), none] [] H := by
  intro pos bal ten cs ps n ch td nx gs lf ls lt y H g h hgs hlf hls hlt hco hth hru hq hqm hnr E hp0 hp1 hc hs kk
  obtain ⟨hbl, htl, b, k0, u, v, ho, hbal, hten, hcs, hps⟩ := MS10 h
  clear h
  refine V_aload_4 dX2_hearCase_180 ?_
  refine V_aload_0 dX2_hearCase_182 ?_
  refine V_aload_1 dX2_hearCase_183 ?_
  refine V_aload_4 dX2_hearCase_184 ?_
  refine V_getf dX2_hearCase_186 fl_X2_189 hq.ro rfl ?_
  refine V_aload_4 dX2_hearCase_189 ?_
  refine V_getf dX2_hearCase_191 fl_X2_184 hq.ro rfl ?_
  have h : MS G H g 10 a (bal, ten, cs, ps, n, ch, td, nx) := ⟨hbl, htl, b, k0, u, v, ho, hbal, hten, hcs, hps⟩
  refine V_call_i (runV3 dX2_hearCase_194 ce_X2_percentageBy rfl ml_X2_192 im_X2_percentageBy se_X2_percentageBy hco.1 ⟨_, rfl, rfl⟩ (Nat.le_of_ble_eq_true rfl)) (by omega) (by omega) (by omega) (c_percB (x := (cDb y)) (Or.inr rfl) hlf hls hlt h hco hru hqm fun H1 g1 hlf_ hls_ hlt_ e1 => ?_)
  clear h
  replace ho := ho.fr e1 (by decide)
  replace hbal := hbal.fr e1 (by decide)
  replace hten := hten.fr e1 (by decide)
  replace hcs := hcs.fr e1 (by decide) (by decide)
  replace hps := hps.fr e1 (by decide) (by decide)
  replace hgs := hgs.fr e1 (by decide)
  replace hco := hco.fr e1 (by decide)
  replace hth := hth.fr e1 (by decide)
  replace hru := hru.fr e1 (by decide)
  replace hq := hq.fr e1 (by decide)
  replace hqm := hqm.fr e1 (by decide)
  replace E := E.trans (e1.wide (by decide))
  replace hlf : Ja G H1 g1 24 qf 1 8 ((percB ps (cDb y) (cMt y) lf ls lt).2.1) := hlf_
  clear hlf_
  replace hls : Ja G H1 g1 25 qs 1 8 ((percB ps (cDb y) (cMt y) lf ls lt).2.2.1) := hls_
  clear hls_
  replace hlt : Ja G H1 g1 26 qt 0 81 ((percB ps (cDb y) (cMt y) lf ls lt).2.2.2) := hlt_
  clear hlt_
  have h : MS G H1 g1 10 a (bal, ten, cs, ps, n, ch, td, nx) := ⟨hbl, htl, b, k0, u, v, ho, hbal, hten, hcs, hps⟩
  refine V_call_v (runV1 dX2_hearCase_197 ce_X1_ruleAt rfl ml_X2_195 im_X1_ruleAt se_X1_ruleAt hq.ro ⟨_, rfl, rfl⟩ (Nat.le_of_ble_eq_true rfl)) (by omega) (by omega) (by omega) (c_ruleA (y := ((percB ps (cDb y) (cMt y) lf ls lt).1)) hq fun H2 g2 hnew e2 => ?_)
  clear h
  replace ho := ho.fr e2 (by decide)
  replace hbal := hbal.fr e2 (by decide)
  replace hten := hten.fr e2 (by decide)
  replace hcs := hcs.fr e2 (by decide) (by decide)
  replace hps := hps.fr e2 (by decide) (by decide)
  replace hgs := hgs.fr e2 (by decide)
  replace hlf := hlf.fr e2 (by decide)
  replace hls := hls.fr e2 (by decide)
  replace hlt := hlt.fr e2 (by decide)
  replace hco := hco.fr e2 (by decide)
  replace hth := hth.fr e2 (by decide)
  replace hru := hru.fr e2 (by decide)
  replace hqm := hqm.fr e2 (by decide)
  replace E := E.trans (e2.wide (by decide))
  replace hq : Ob G H2 g2 15 q 5 (cFs (ruleA ((percB ps (cDb y) (cMt y) lf ls lt).1) y) mq) := hnew
  clear hnew
  exact c_hearC4  pos bal ten cs ps n ch td nx gs ((percB ps (cDb y) (cMt y) lf ls lt).2.1) ((percB ps (cDb y) (cMt y) lf ls lt).2.2.1) ((percB ps (cDb y) (cMt y) lf ls lt).2.2.2) (ruleA ((percB ps (cDb y) (cMt y) lf ls lt).1) y) H2 g2 (show MS G H2 g2 10 a (bal, ten, cs, ps, n, ch, td, nx) from ⟨hbl, htl, b, k0, u, v, ho, hbal, hten, hcs, hps⟩) hgs hlf hls hlt hco hth hru hq hqm (nrR hnr) E hp0 hp1 (by omega) (by omega) (by rw [hearC3] at kk; exact kk)
set_option maxHeartbeats 1000000 in
set_option maxRecDepth 100000 in
theorem c_hearC1 {G : GT} {X : String → Heap → Prop} {H0 : Heap} {g0 : Nat → Nat} {c s : Nat} {a : Nat} {o : Nat} {th p p2 p3 : Nat} {ru qf qs qt : Nat} {x : Int32} {q mq : Nat} {F : Int32 → Heap → Prop} : ∀ (pos : Int32) (it : Int32) (bal : List Int32) (ten : List Int32) (cs : List CaseC) (ps : List PrecC) (n : Int32) (ch : Int32) (td : Int32) (nx : Int32) (gs : List Int32) (lf : List Int32) (ls : List Int32) (lt : List Int32) (y : CaseC) (H : Heap) (g : Nat → Nat), MS G H g 10 a (bal, ten, cs, ps, n, ch, td, nx) → Ja G H g 21 p 0 8 gs → Ja G H g 24 qf 1 8 lf → Ja G H g 25 qs 1 8 ls → Ja G H g 26 qt 0 81 lt → Rz G H g o 6 [.ref th, .ref ru] → Rz G H g th 14 [.ref p, .ref p2, .ref p3] → Rz G H g ru 10 [.ref qf, .ref qs, .ref qt] → Ob G H g 15 q 5 (cFs y mq) → Sz G H g mq (cMt y) → nrC y → Ext G [10, 11, 12, 13, 14, 15, 16, 21, 24, 25, 26] H0 g0 H g → ¬ pos < 0 → ¬ nI cs.length ≤ pos → 2 ≤ c → 63 ≤ s → (∀ (H1 : Heap) (g1 : Nat → Nat), MS G H1 g1 10 a ((hearC1 x pos it bal ten cs ps n ch td nx gs lf ls lt y).2.1, (hearC1 x pos it bal ten cs ps n ch td nx gs lf ls lt y).2.2.1, (hearC1 x pos it bal ten cs ps n ch td nx gs lf ls lt y).2.2.2.1, (hearC1 x pos it bal ten cs ps n ch td nx gs lf ls lt y).2.2.2.2.1, (hearC1 x pos it bal ten cs ps n ch td nx gs lf ls lt y).2.2.2.2.2.1, (hearC1 x pos it bal ten cs ps n ch td nx gs lf ls lt y).2.2.2.2.2.2.1, (hearC1 x pos it bal ten cs ps n ch td nx gs lf ls lt y).2.2.2.2.2.2.2.1, (hearC1 x pos it bal ten cs ps n ch td nx gs lf ls lt y).2.2.2.2.2.2.2.2.1) → Ja G H1 g1 21 p 0 8 (hearC1 x pos it bal ten cs ps n ch td nx gs lf ls lt y).2.2.2.2.2.2.2.2.2.1 → Ja G H1 g1 24 qf 1 8 (hearC1 x pos it bal ten cs ps n ch td nx gs lf ls lt y).2.2.2.2.2.2.2.2.2.2.1 → Ja G H1 g1 25 qs 1 8 (hearC1 x pos it bal ten cs ps n ch td nx gs lf ls lt y).2.2.2.2.2.2.2.2.2.2.2.1 → Ja G H1 g1 26 qt 0 81 (hearC1 x pos it bal ten cs ps n ch td nx gs lf ls lt y).2.2.2.2.2.2.2.2.2.2.2.2 → Ext G [10, 11, 12, 13, 14, 15, 16, 21, 24, 25, 26] H0 g0 H1 g1 → F ((hearC1 x pos it bal ten cs ps n ch td nx gs lf ls lt y).1) H1) → V G kX2_hearCase 9 c s (qi F) X 158 [some (.ref o), some (.ref a), some (.int x), some (.int pos), some (.ref q), some (.int it)] [] H := by
  intro pos it bal ten cs ps n ch td nx gs lf ls lt y H g h hgs hlf hls hlt hco hth hru hq hqm hnr E hp0 hp1 hc hs kk
  obtain ⟨hbl, htl, b, k0, u, v, ho, hbal, hten, hcs, hps⟩ := MS10 h
  clear h
  refine V_iload_5 dX2_hearCase_158 ?_
  refine V_if_eq (tgt := 206) dX2_hearCase_160 (by decide) (fun c_160 => ?_) (fun c_160 => ?_)
  · refine V_drop 5 rfl ?_
    exact c_hearC2  pos bal ten cs ps n ch td nx gs lf ls lt y H g (show MS G H g 10 a (bal, ten, cs, ps, n, ch, td, nx) from ⟨hbl, htl, b, k0, u, v, ho, hbal, hten, hcs, hps⟩) hgs hlf hls hlt hco hth hru hq hqm hnr E hp0 (by first | exact hp1 | (rw [csA]; exact hp1)) (by omega) (by omega) (by rw [hearC1, if_pos c_160] at kk; exact kk)
  · refine V_aload_4 dX2_hearCase_163 ?_
    refine V_aload_0 dX2_hearCase_165 ?_
    refine V_aload_1 dX2_hearCase_166 ?_
    refine V_aload_4 dX2_hearCase_167 ?_
    refine V_getf dX2_hearCase_169 fl_X2_184 hq.ro rfl ?_
    refine V_iconst (v := (-1)) dX2_hearCase_172 rfl ?_
    refine V_iconst (v := (-1)) dX2_hearCase_173 rfl ?_
    have h : MS G H g 10 a (bal, ten, cs, ps, n, ch, td, nx) := ⟨hbl, htl, b, k0, u, v, ho, hbal, hten, hcs, hps⟩
    refine V_call_i (runV4 dX2_hearCase_174 ce_X2_nearestOf rfl ml_X2_185 im_X2_nearestOf se_X2_nearestOf hco.1 ⟨_, rfl, rfl⟩ (Nat.le_of_ble_eq_true rfl)) (by omega) (by omega) (by omega) (c_near (x := (-1)) (y := (-1)) (Or.inr rfl) hlf hls hlt h hco hru hqm fun H1 g1 hlf_ hls_ hlt_ e1 => ?_)
    clear h
    replace ho := ho.fr e1 (by decide)
    replace hbal := hbal.fr e1 (by decide)
    replace hten := hten.fr e1 (by decide)
    replace hcs := hcs.fr e1 (by decide) (by decide)
    replace hps := hps.fr e1 (by decide) (by decide)
    replace hgs := hgs.fr e1 (by decide)
    replace hco := hco.fr e1 (by decide)
    replace hth := hth.fr e1 (by decide)
    replace hru := hru.fr e1 (by decide)
    replace hq := hq.fr e1 (by decide)
    replace hqm := hqm.fr e1 (by decide)
    replace E := E.trans (e1.wide (by decide))
    replace hlf : Ja G H1 g1 24 qf 1 8 ((near ps (cMt y) (-1) (-1) lf ls lt).2.1) := hlf_
    clear hlf_
    replace hls : Ja G H1 g1 25 qs 1 8 ((near ps (cMt y) (-1) (-1) lf ls lt).2.2.1) := hls_
    clear hls_
    replace hlt : Ja G H1 g1 26 qt 0 81 ((near ps (cMt y) (-1) (-1) lf ls lt).2.2.2) := hlt_
    clear hlt_
    refine V_put dX2_hearCase_177 fp_X2_hearCase_189 hq (by decide) ⟨rfl, rfl⟩ (Nat.le_of_ble_eq_true rfl) rfl fun H2 hnew e2 z2 => ?_
    replace ho := ho.fr e2 (by decide)
    replace hbal := hbal.fr e2 (by decide)
    replace hten := hten.fr e2 (by decide)
    replace hcs := hcs.fr e2 (by decide) (by decide)
    replace hps := hps.fr e2 (by decide) (by decide)
    replace hgs := hgs.fr e2 (by decide)
    replace hlf := hlf.fr e2 (by decide)
    replace hls := hls.fr e2 (by decide)
    replace hlt := hlt.fr e2 (by decide)
    replace hco := hco.fr e2 (by decide)
    replace hth := hth.fr e2 (by decide)
    replace hru := hru.fr e2 (by decide)
    replace hqm := hqm.fr e2 (by decide)
    replace E := E.trans (e2.wide (by decide))
    replace hq : Ob G H2 g1 15 q 5 (cFs (c11 y ((near ps (cMt y) (-1) (-1) lf ls lt).1)) mq) := hnew
    clear hnew
    refine V_drop 5 rfl ?_
    exact c_hearC3  pos bal ten cs ps n ch td nx gs ((near ps (cMt y) (-1) (-1) lf ls lt).2.1) ((near ps (cMt y) (-1) (-1) lf ls lt).2.2.1) ((near ps (cMt y) (-1) (-1) lf ls lt).2.2.2) (c11 y ((near ps (cMt y) (-1) (-1) lf ls lt).1)) H2 g1 (show MS G H2 g1 10 a (bal, ten, cs, ps, n, ch, td, nx) from ⟨hbl, htl, b, k0, u, v, ho, hbal, hten, hcs, hps⟩) hgs hlf hls hlt hco hth hru hq hqm (nr11 hnr) E hp0 hp1 (by omega) (by omega) (by rw [hearC1, if_neg c_160] at kk; exact kk)
set_option maxHeartbeats 1000000 in
set_option maxRecDepth 100000 in
theorem c_hearCb {G : GT} {X : String → Heap → Prop} {H0 : Heap} {g0 : Nat → Nat} {c s : Nat} {a : Nat} {o : Nat} {th p p2 p3 : Nat} {ru qf qs qt : Nat} {x : Int32} {q mq : Nat} {F : Int32 → Heap → Prop} : ∀ (pos : Int32) (it : Int32) (bal : List Int32) (ten : List Int32) (cs : List CaseC) (ps : List PrecC) (n : Int32) (ch : Int32) (td : Int32) (nx : Int32) (gs : List Int32) (lf : List Int32) (ls : List Int32) (lt : List Int32) (y : CaseC) (H : Heap) (g : Nat → Nat), MS G H g 10 a (bal, ten, cs, ps, n, ch, td, nx) → Ja G H g 21 p 0 8 gs → Ja G H g 24 qf 1 8 lf → Ja G H g 25 qs 1 8 ls → Ja G H g 26 qt 0 81 lt → Rz G H g o 6 [.ref th, .ref ru] → Rz G H g th 14 [.ref p, .ref p2, .ref p3] → Rz G H g ru 10 [.ref qf, .ref qs, .ref qt] → Ob G H g 15 q 5 (cFs y mq) → Sz G H g mq (cMt y) → nrC y → Ext G [10, 11, 12, 13, 14, 15, 16, 21, 24, 25, 26] H0 g0 H g → ¬ pos < 0 → ¬ nI cs.length ≤ pos → 2 ≤ c → 63 ≤ s → (∀ (H1 : Heap) (g1 : Nat → Nat), MS G H1 g1 10 a ((hearCb x pos it bal ten cs ps n ch td nx gs lf ls lt y).2.1, (hearCb x pos it bal ten cs ps n ch td nx gs lf ls lt y).2.2.1, (hearCb x pos it bal ten cs ps n ch td nx gs lf ls lt y).2.2.2.1, (hearCb x pos it bal ten cs ps n ch td nx gs lf ls lt y).2.2.2.2.1, (hearCb x pos it bal ten cs ps n ch td nx gs lf ls lt y).2.2.2.2.2.1, (hearCb x pos it bal ten cs ps n ch td nx gs lf ls lt y).2.2.2.2.2.2.1, (hearCb x pos it bal ten cs ps n ch td nx gs lf ls lt y).2.2.2.2.2.2.2.1, (hearCb x pos it bal ten cs ps n ch td nx gs lf ls lt y).2.2.2.2.2.2.2.2.1) → Ja G H1 g1 21 p 0 8 (hearCb x pos it bal ten cs ps n ch td nx gs lf ls lt y).2.2.2.2.2.2.2.2.2.1 → Ja G H1 g1 24 qf 1 8 (hearCb x pos it bal ten cs ps n ch td nx gs lf ls lt y).2.2.2.2.2.2.2.2.2.2.1 → Ja G H1 g1 25 qs 1 8 (hearCb x pos it bal ten cs ps n ch td nx gs lf ls lt y).2.2.2.2.2.2.2.2.2.2.2.1 → Ja G H1 g1 26 qt 0 81 (hearCb x pos it bal ten cs ps n ch td nx gs lf ls lt y).2.2.2.2.2.2.2.2.2.2.2.2 → Ext G [10, 11, 12, 13, 14, 15, 16, 21, 24, 25, 26] H0 g0 H1 g1 → F ((hearCb x pos it bal ten cs ps n ch td nx gs lf ls lt y).1) H1) → V G kX2_hearCase 9 c s (qi F) X 78 [some (.ref o), some (.ref a), some (.int x), some (.int pos), some (.ref q), some (.int it)] [] H := by
  intro pos it bal ten cs ps n ch td nx gs lf ls lt y H g h hgs hlf hls hlt hco hth hru hq hqm hnr E hp0 hp1 hc hs kk
  obtain ⟨hbl, htl, b, k0, u, v, ho, hbal, hten, hcs, hps⟩ := MS10 h
  clear h
  refine V_iload_5 dX2_hearCase_78 ?_
  refine V_if_eq (tgt := 96) dX2_hearCase_80 (by decide) (fun c_80 => ?_) (fun c_80 => ?_)
  · refine V_aload_1 dX2_hearCase_96 ?_
    refine V_dup dX2_hearCase_97 rfl ?_
    refine V_getf dX2_hearCase_98 fl_X2_162 ho.ro rfl ?_
    refine V_aload_4 dX2_hearCase_101 ?_
    refine V_getf dX2_hearCase_103 fl_X2_165 hq.ro rfl ?_
    refine V_iadd dX2_hearCase_106 ?_
    refine V_put dX2_hearCase_107 fp_X2_hearCase_162 ho (by decide) ⟨rfl, rfl⟩ (Nat.le_of_ble_eq_true rfl) rfl fun H1 hnew e1 z1 => ?_
    replace ho := hnew
    clear hnew
    replace hbal := hbal.fr e1 (by decide)
    replace hten := hten.fr e1 (by decide)
    replace hcs := hcs.fr e1 (by decide) (by decide)
    replace hps := hps.fr e1 (by decide) (by decide)
    replace hgs := hgs.fr e1 (by decide)
    replace hlf := hlf.fr e1 (by decide)
    replace hls := hls.fr e1 (by decide)
    replace hlt := hlt.fr e1 (by decide)
    replace hco := hco.fr e1 (by decide)
    replace hth := hth.fr e1 (by decide)
    replace hru := hru.fr e1 (by decide)
    replace hq := hq.fr e1 (by decide)
    replace hqm := hqm.fr e1 (by decide)
    replace E := E.trans (e1.wide (by decide))
    refine V_aload_4 dX2_hearCase_110 ?_
    refine V_iconst (v := 4) dX2_hearCase_112 rfl ?_
    refine V_aload_4 dX2_hearCase_113 ?_
    refine V_getf dX2_hearCase_115 fl_X2_165 hq.ro rfl ?_
    refine V_imul dX2_hearCase_118 ?_
    refine V_aload_0 dX2_hearCase_119 ?_
    refine V_getf dX2_hearCase_120 fl_X2_12 hco.1 rfl ?_
    refine V_aload_1 dX2_hearCase_123 ?_
    refine V_aload_4 dX2_hearCase_124 ?_
    refine V_getf dX2_hearCase_126 fl_X2_172 hq.ro rfl ?_
    refine V_aload_4 dX2_hearCase_129 ?_
    refine V_getf dX2_hearCase_131 fl_X2_175 hq.ro rfl ?_
    have h : MS G H1 g 10 a (bal, ten, cs, ps, n, ch, td + (cDu y), nx) := ⟨hbl, htl, b, k0, u, v, ho, hbal, hten, hcs, hps⟩
    refine V_call_i (runV3 dX2_hearCase_134 ce_X10_strainByJoining rfl ml_X2_178 im_X10_strainByJoining se_X10_strainByJoining hth.1 ⟨_, rfl, rfl⟩ (Nat.le_of_ble_eq_true rfl)) (by omega) (by omega) (by omega) (c_strainJ (x := (cPl y)) (y := (cDf y)) (Or.inr rfl) hgs h hth fun H2 g2 hgs_ e2 => ?_)
    clear h
    replace ho := ho.fr e2 (by decide)
    replace hbal := hbal.fr e2 (by decide)
    replace hten := hten.fr e2 (by decide)
    replace hcs := hcs.fr e2 (by decide) (by decide)
    replace hps := hps.fr e2 (by decide) (by decide)
    replace hlf := hlf.fr e2 (by decide)
    replace hls := hls.fr e2 (by decide)
    replace hlt := hlt.fr e2 (by decide)
    replace hco := hco.fr e2 (by decide)
    replace hth := hth.fr e2 (by decide)
    replace hru := hru.fr e2 (by decide)
    replace hq := hq.fr e2 (by decide)
    replace hqm := hqm.fr e2 (by decide)
    replace E := E.trans (e2.wide (by decide))
    replace hgs : Ja G H2 g2 21 p 0 8 ((strainJ ten n (cPl y) (cDf y) gs).2) := hgs_
    clear hgs_
    refine V_iadd dX2_hearCase_137 ?_
    refine V_put dX2_hearCase_138 fp_X2_hearCase_181 hq (by decide) ⟨rfl, rfl⟩ (Nat.le_of_ble_eq_true rfl) rfl fun H3 hnew e3 z3 => ?_
    replace ho := ho.fr e3 (by decide)
    replace hbal := hbal.fr e3 (by decide)
    replace hten := hten.fr e3 (by decide)
    replace hcs := hcs.fr e3 (by decide) (by decide)
    replace hps := hps.fr e3 (by decide) (by decide)
    replace hgs := hgs.fr e3 (by decide)
    replace hlf := hlf.fr e3 (by decide)
    replace hls := hls.fr e3 (by decide)
    replace hlt := hlt.fr e3 (by decide)
    replace hco := hco.fr e3 (by decide)
    replace hth := hth.fr e3 (by decide)
    replace hru := hru.fr e3 (by decide)
    replace hqm := hqm.fr e3 (by decide)
    replace E := E.trans (e3.wide (by decide))
    replace hq : Ob G H3 g2 15 q 5 (cFs (c10 y ((4 * (cDu y)) + ((strainJ ten n (cPl y) (cDf y) gs).1))) mq) := hnew
    clear hnew
    refine V_aload_4 dX2_hearCase_141 ?_
    refine V_iload_5 dX2_hearCase_143 ?_
    refine V_if_eq (tgt := 153) dX2_hearCase_145 (by decide) (fun c_145 => ?_) (fun c_145 => ?_)
    · refine V_bipush (v := 100) dX2_hearCase_153 (by decide) ?_
      refine V_put dX2_hearCase_155 fp_X2_hearCase_158 hq (by decide) ⟨rfl, rfl⟩ (Nat.le_of_ble_eq_true rfl) rfl fun H4 hnew e4 z4 => ?_
      replace ho := ho.fr e4 (by decide)
      replace hbal := hbal.fr e4 (by decide)
      replace hten := hten.fr e4 (by decide)
      replace hcs := hcs.fr e4 (by decide) (by decide)
      replace hps := hps.fr e4 (by decide) (by decide)
      replace hgs := hgs.fr e4 (by decide)
      replace hlf := hlf.fr e4 (by decide)
      replace hls := hls.fr e4 (by decide)
      replace hlt := hlt.fr e4 (by decide)
      replace hco := hco.fr e4 (by decide)
      replace hth := hth.fr e4 (by decide)
      replace hru := hru.fr e4 (by decide)
      replace hqm := hqm.fr e4 (by decide)
      replace E := E.trans (e4.wide (by decide))
      replace hq : Ob G H4 g2 15 q 5 (cFs (c7 (c10 y ((4 * (cDu y)) + ((strainJ ten n (cPl y) (cDf y) gs).1))) 100) mq) := hnew
      clear hnew
      exact c_hearC1  pos it bal ten cs ps n ch (td + (cDu y)) nx ((strainJ ten n (cPl y) (cDf y) gs).2) lf ls lt (c7 (c10 y ((4 * (cDu y)) + ((strainJ ten n (cPl y) (cDf y) gs).1))) 100) H4 g2 (show MS G H4 g2 10 a (bal, ten, cs, ps, n, ch, td + (cDu y), nx) from ⟨hbl, htl, b, k0, u, v, ho, hbal, hten, hcs, hps⟩) hgs hlf hls hlt hco hth hru hq hqm (nr7 (nr10 hnr) ⟨rfl, rfl⟩) E hp0 hp1 (by omega) (by omega) (by rw [hearCb, if_pos c_80, if_pos c_145] at kk; exact kk)
    · refine V_bipush (v := 114) dX2_hearCase_148 (by decide) ?_
      refine V_goto (tgt := 155) dX2_hearCase_150 (by decide) ?_
      refine V_put dX2_hearCase_155 fp_X2_hearCase_158 hq (by decide) ⟨rfl, rfl⟩ (Nat.le_of_ble_eq_true rfl) rfl fun H4 hnew e4 z4 => ?_
      replace ho := ho.fr e4 (by decide)
      replace hbal := hbal.fr e4 (by decide)
      replace hten := hten.fr e4 (by decide)
      replace hcs := hcs.fr e4 (by decide) (by decide)
      replace hps := hps.fr e4 (by decide) (by decide)
      replace hgs := hgs.fr e4 (by decide)
      replace hlf := hlf.fr e4 (by decide)
      replace hls := hls.fr e4 (by decide)
      replace hlt := hlt.fr e4 (by decide)
      replace hco := hco.fr e4 (by decide)
      replace hth := hth.fr e4 (by decide)
      replace hru := hru.fr e4 (by decide)
      replace hqm := hqm.fr e4 (by decide)
      replace E := E.trans (e4.wide (by decide))
      replace hq : Ob G H4 g2 15 q 5 (cFs (c7 (c10 y ((4 * (cDu y)) + ((strainJ ten n (cPl y) (cDf y) gs).1))) 114) mq) := hnew
      clear hnew
      exact c_hearC1  pos it bal ten cs ps n ch (td + (cDu y)) nx ((strainJ ten n (cPl y) (cDf y) gs).2) lf ls lt (c7 (c10 y ((4 * (cDu y)) + ((strainJ ten n (cPl y) (cDf y) gs).1))) 114) H4 g2 (show MS G H4 g2 10 a (bal, ten, cs, ps, n, ch, td + (cDu y), nx) from ⟨hbl, htl, b, k0, u, v, ho, hbal, hten, hcs, hps⟩) hgs hlf hls hlt hco hth hru hq hqm (nr7 (nr10 hnr) ⟨rfl, rfl⟩) E hp0 hp1 (by omega) (by omega) (by rw [hearCb, if_pos c_80, if_neg c_145] at kk; exact kk)
  · refine V_aload_1 dX2_hearCase_83 ?_
    refine V_getf dX2_hearCase_84 fl_X2_112 ho.ro rfl ?_
    obtain ⟨fw, hw⟩ := hps.ro
    refine V_call_i (runV0 dX2_hearCase_87 ce_Jx4a65c_isEmpty_aae02 rfl ml_X2_171 im_Jx4a65c_isEmpty_aae02 se_Jx4a65c_isEmpty_aae02 hw ⟨_, rfl, rfl⟩ (Nat.le_of_ble_eq_true rfl)) (by omega) (by omega) (by omega) (c_plempty hps ?_)
    refine V_if_eq (tgt := 96) dX2_hearCase_90 (by decide) (fun c_90 => ?_) (fun c_90 => ?_)
    · refine V_aload_1 dX2_hearCase_96 ?_
      refine V_dup dX2_hearCase_97 rfl ?_
      refine V_getf dX2_hearCase_98 fl_X2_162 ho.ro rfl ?_
      refine V_aload_4 dX2_hearCase_101 ?_
      refine V_getf dX2_hearCase_103 fl_X2_165 hq.ro rfl ?_
      refine V_iadd dX2_hearCase_106 ?_
      refine V_put dX2_hearCase_107 fp_X2_hearCase_162 ho (by decide) ⟨rfl, rfl⟩ (Nat.le_of_ble_eq_true rfl) rfl fun H1 hnew e1 z1 => ?_
      replace ho := hnew
      clear hnew
      replace hbal := hbal.fr e1 (by decide)
      replace hten := hten.fr e1 (by decide)
      replace hcs := hcs.fr e1 (by decide) (by decide)
      replace hps := hps.fr e1 (by decide) (by decide)
      replace hgs := hgs.fr e1 (by decide)
      replace hlf := hlf.fr e1 (by decide)
      replace hls := hls.fr e1 (by decide)
      replace hlt := hlt.fr e1 (by decide)
      replace hco := hco.fr e1 (by decide)
      replace hth := hth.fr e1 (by decide)
      replace hru := hru.fr e1 (by decide)
      replace hq := hq.fr e1 (by decide)
      replace hqm := hqm.fr e1 (by decide)
      replace E := E.trans (e1.wide (by decide))
      refine V_aload_4 dX2_hearCase_110 ?_
      refine V_iconst (v := 4) dX2_hearCase_112 rfl ?_
      refine V_aload_4 dX2_hearCase_113 ?_
      refine V_getf dX2_hearCase_115 fl_X2_165 hq.ro rfl ?_
      refine V_imul dX2_hearCase_118 ?_
      refine V_aload_0 dX2_hearCase_119 ?_
      refine V_getf dX2_hearCase_120 fl_X2_12 hco.1 rfl ?_
      refine V_aload_1 dX2_hearCase_123 ?_
      refine V_aload_4 dX2_hearCase_124 ?_
      refine V_getf dX2_hearCase_126 fl_X2_172 hq.ro rfl ?_
      refine V_aload_4 dX2_hearCase_129 ?_
      refine V_getf dX2_hearCase_131 fl_X2_175 hq.ro rfl ?_
      have h : MS G H1 g 10 a (bal, ten, cs, ps, n, ch, td + (cDu y), nx) := ⟨hbl, htl, b, k0, u, v, ho, hbal, hten, hcs, hps⟩
      refine V_call_i (runV3 dX2_hearCase_134 ce_X10_strainByJoining rfl ml_X2_178 im_X10_strainByJoining se_X10_strainByJoining hth.1 ⟨_, rfl, rfl⟩ (Nat.le_of_ble_eq_true rfl)) (by omega) (by omega) (by omega) (c_strainJ (x := (cPl y)) (y := (cDf y)) (Or.inr rfl) hgs h hth fun H2 g2 hgs_ e2 => ?_)
      clear h
      replace ho := ho.fr e2 (by decide)
      replace hbal := hbal.fr e2 (by decide)
      replace hten := hten.fr e2 (by decide)
      replace hcs := hcs.fr e2 (by decide) (by decide)
      replace hps := hps.fr e2 (by decide) (by decide)
      replace hlf := hlf.fr e2 (by decide)
      replace hls := hls.fr e2 (by decide)
      replace hlt := hlt.fr e2 (by decide)
      replace hco := hco.fr e2 (by decide)
      replace hth := hth.fr e2 (by decide)
      replace hru := hru.fr e2 (by decide)
      replace hq := hq.fr e2 (by decide)
      replace hqm := hqm.fr e2 (by decide)
      replace E := E.trans (e2.wide (by decide))
      replace hgs : Ja G H2 g2 21 p 0 8 ((strainJ ten n (cPl y) (cDf y) gs).2) := hgs_
      clear hgs_
      refine V_iadd dX2_hearCase_137 ?_
      refine V_put dX2_hearCase_138 fp_X2_hearCase_181 hq (by decide) ⟨rfl, rfl⟩ (Nat.le_of_ble_eq_true rfl) rfl fun H3 hnew e3 z3 => ?_
      replace ho := ho.fr e3 (by decide)
      replace hbal := hbal.fr e3 (by decide)
      replace hten := hten.fr e3 (by decide)
      replace hcs := hcs.fr e3 (by decide) (by decide)
      replace hps := hps.fr e3 (by decide) (by decide)
      replace hgs := hgs.fr e3 (by decide)
      replace hlf := hlf.fr e3 (by decide)
      replace hls := hls.fr e3 (by decide)
      replace hlt := hlt.fr e3 (by decide)
      replace hco := hco.fr e3 (by decide)
      replace hth := hth.fr e3 (by decide)
      replace hru := hru.fr e3 (by decide)
      replace hqm := hqm.fr e3 (by decide)
      replace E := E.trans (e3.wide (by decide))
      replace hq : Ob G H3 g2 15 q 5 (cFs (c10 y ((4 * (cDu y)) + ((strainJ ten n (cPl y) (cDf y) gs).1))) mq) := hnew
      clear hnew
      refine V_aload_4 dX2_hearCase_141 ?_
      refine V_iload_5 dX2_hearCase_143 ?_
      refine V_if_eq (tgt := 153) dX2_hearCase_145 (by decide) (fun c_145 => ?_) (fun c_145 => ?_)
      · refine V_bipush (v := 100) dX2_hearCase_153 (by decide) ?_
        refine V_put dX2_hearCase_155 fp_X2_hearCase_158 hq (by decide) ⟨rfl, rfl⟩ (Nat.le_of_ble_eq_true rfl) rfl fun H4 hnew e4 z4 => ?_
        replace ho := ho.fr e4 (by decide)
        replace hbal := hbal.fr e4 (by decide)
        replace hten := hten.fr e4 (by decide)
        replace hcs := hcs.fr e4 (by decide) (by decide)
        replace hps := hps.fr e4 (by decide) (by decide)
        replace hgs := hgs.fr e4 (by decide)
        replace hlf := hlf.fr e4 (by decide)
        replace hls := hls.fr e4 (by decide)
        replace hlt := hlt.fr e4 (by decide)
        replace hco := hco.fr e4 (by decide)
        replace hth := hth.fr e4 (by decide)
        replace hru := hru.fr e4 (by decide)
        replace hqm := hqm.fr e4 (by decide)
        replace E := E.trans (e4.wide (by decide))
        replace hq : Ob G H4 g2 15 q 5 (cFs (c7 (c10 y ((4 * (cDu y)) + ((strainJ ten n (cPl y) (cDf y) gs).1))) 100) mq) := hnew
        clear hnew
        exact c_hearC1  pos it bal ten cs ps n ch (td + (cDu y)) nx ((strainJ ten n (cPl y) (cDf y) gs).2) lf ls lt (c7 (c10 y ((4 * (cDu y)) + ((strainJ ten n (cPl y) (cDf y) gs).1))) 100) H4 g2 (show MS G H4 g2 10 a (bal, ten, cs, ps, n, ch, td + (cDu y), nx) from ⟨hbl, htl, b, k0, u, v, ho, hbal, hten, hcs, hps⟩) hgs hlf hls hlt hco hth hru hq hqm (nr7 (nr10 hnr) ⟨rfl, rfl⟩) E hp0 hp1 (by omega) (by omega) (by rw [hearCb, if_neg c_80, if_pos c_90, if_pos c_145] at kk; exact kk)
      · refine V_bipush (v := 114) dX2_hearCase_148 (by decide) ?_
        refine V_goto (tgt := 155) dX2_hearCase_150 (by decide) ?_
        refine V_put dX2_hearCase_155 fp_X2_hearCase_158 hq (by decide) ⟨rfl, rfl⟩ (Nat.le_of_ble_eq_true rfl) rfl fun H4 hnew e4 z4 => ?_
        replace ho := ho.fr e4 (by decide)
        replace hbal := hbal.fr e4 (by decide)
        replace hten := hten.fr e4 (by decide)
        replace hcs := hcs.fr e4 (by decide) (by decide)
        replace hps := hps.fr e4 (by decide) (by decide)
        replace hgs := hgs.fr e4 (by decide)
        replace hlf := hlf.fr e4 (by decide)
        replace hls := hls.fr e4 (by decide)
        replace hlt := hlt.fr e4 (by decide)
        replace hco := hco.fr e4 (by decide)
        replace hth := hth.fr e4 (by decide)
        replace hru := hru.fr e4 (by decide)
        replace hqm := hqm.fr e4 (by decide)
        replace E := E.trans (e4.wide (by decide))
        replace hq : Ob G H4 g2 15 q 5 (cFs (c7 (c10 y ((4 * (cDu y)) + ((strainJ ten n (cPl y) (cDf y) gs).1))) 114) mq) := hnew
        clear hnew
        exact c_hearC1  pos it bal ten cs ps n ch (td + (cDu y)) nx ((strainJ ten n (cPl y) (cDf y) gs).2) lf ls lt (c7 (c10 y ((4 * (cDu y)) + ((strainJ ten n (cPl y) (cDf y) gs).1))) 114) H4 g2 (show MS G H4 g2 10 a (bal, ten, cs, ps, n, ch, td + (cDu y), nx) from ⟨hbl, htl, b, k0, u, v, ho, hbal, hten, hcs, hps⟩) hgs hlf hls hlt hco hth hru hq hqm (nr7 (nr10 hnr) ⟨rfl, rfl⟩) E hp0 hp1 (by omega) (by omega) (by rw [hearCb, if_neg c_80, if_pos c_90, if_neg c_145] at kk; exact kk)
    · refine V_bipush (v := (-5)) dX2_hearCase_93 (by decide) ?_
      exact V_reti dX2_hearCase_95 rfl rfl (by rw [hearCb, if_neg c_80, if_neg c_90] at kk; exact kk H g (show MS G H g 10 a (bal, ten, cs, ps, n, ch, td, nx) from ⟨hbl, htl, b, k0, u, v, ho, hbal, hten, hcs, hps⟩) hgs hlf hls hlt E)
set_option maxHeartbeats 1000000 in
set_option maxRecDepth 100000 in
theorem c_hearC0 {G : GT} {X : String → Heap → Prop} {H0 : Heap} {g0 : Nat → Nat} {c s : Nat} {a : Nat} {o : Nat} {th p p2 p3 : Nat} {ru qf qs qt : Nat} {x : Int32} {q mq : Nat} {F : Int32 → Heap → Prop} : ∀ (pos : Int32) (bal : List Int32) (ten : List Int32) (cs : List CaseC) (ps : List PrecC) (n : Int32) (ch : Int32) (td : Int32) (nx : Int32) (gs : List Int32) (lf : List Int32) (ls : List Int32) (lt : List Int32) (y : CaseC) (H : Heap) (g : Nat → Nat), MS G H g 10 a (bal, ten, cs, ps, n, ch, td, nx) → Ja G H g 21 p 0 8 gs → Ja G H g 24 qf 1 8 lf → Ja G H g 25 qs 1 8 ls → Ja G H g 26 qt 0 81 lt → Rz G H g o 6 [.ref th, .ref ru] → Rz G H g th 14 [.ref p, .ref p2, .ref p3] → Rz G H g ru 10 [.ref qf, .ref qs, .ref qt] → Ob G H g 15 q 5 (cFs y mq) → Sz G H g mq (cMt y) → nrC y → Ext G [10, 11, 12, 13, 14, 15, 16, 21, 24, 25, 26] H0 g0 H g → ¬ pos < 0 → ¬ nI cs.length ≤ pos → 2 ≤ c → 63 ≤ s → (∀ (H1 : Heap) (g1 : Nat → Nat), MS G H1 g1 10 a ((hearC0 x pos bal ten cs ps n ch td nx gs lf ls lt y).2.1, (hearC0 x pos bal ten cs ps n ch td nx gs lf ls lt y).2.2.1, (hearC0 x pos bal ten cs ps n ch td nx gs lf ls lt y).2.2.2.1, (hearC0 x pos bal ten cs ps n ch td nx gs lf ls lt y).2.2.2.2.1, (hearC0 x pos bal ten cs ps n ch td nx gs lf ls lt y).2.2.2.2.2.1, (hearC0 x pos bal ten cs ps n ch td nx gs lf ls lt y).2.2.2.2.2.2.1, (hearC0 x pos bal ten cs ps n ch td nx gs lf ls lt y).2.2.2.2.2.2.2.1, (hearC0 x pos bal ten cs ps n ch td nx gs lf ls lt y).2.2.2.2.2.2.2.2.1) → Ja G H1 g1 21 p 0 8 (hearC0 x pos bal ten cs ps n ch td nx gs lf ls lt y).2.2.2.2.2.2.2.2.2.1 → Ja G H1 g1 24 qf 1 8 (hearC0 x pos bal ten cs ps n ch td nx gs lf ls lt y).2.2.2.2.2.2.2.2.2.2.1 → Ja G H1 g1 25 qs 1 8 (hearC0 x pos bal ten cs ps n ch td nx gs lf ls lt y).2.2.2.2.2.2.2.2.2.2.2.1 → Ja G H1 g1 26 qt 0 81 (hearC0 x pos bal ten cs ps n ch td nx gs lf ls lt y).2.2.2.2.2.2.2.2.2.2.2.2 → Ext G [10, 11, 12, 13, 14, 15, 16, 21, 24, 25, 26] H0 g0 H1 g1 → F ((hearC0 x pos bal ten cs ps n ch td nx gs lf ls lt y).1) H1) → V G kX2_hearCase 9 c s (qi F) X 40 [some (.ref o), some (.ref a), some (.int x), some (.int pos), some (.ref q), none] [] H := by
  intro pos bal ten cs ps n ch td nx gs lf ls lt y H g h hgs hlf hls hlt hco hth hru hq hqm hnr E hp0 hp1 hc hs kk
  obtain ⟨hbl, htl, b, k0, u, v, ho, hbal, hten, hcs, hps⟩ := MS10 h
  clear h
  refine V_aload_4 dX2_hearCase_40 ?_
  refine V_getf dX2_hearCase_42 fl_X2_158 hq.ro rfl ?_
  refine V_bipush (v := 102) dX2_hearCase_45 (by decide) ?_
  refine V_icmp_eq (tgt := 53) dX2_hearCase_47 (by decide) (fun c_47 => ?_) (fun c_47 => ?_)
  · refine V_aload_1 dX2_hearCase_53 ?_
    refine V_getf dX2_hearCase_54 fl_X2_162 ho.ro rfl ?_
    refine V_aload_4 dX2_hearCase_57 ?_
    refine V_getf dX2_hearCase_59 fl_X2_165 hq.ro rfl ?_
    refine V_iadd dX2_hearCase_62 ?_
    refine V_aload_4 dX2_hearCase_63 ?_
    refine V_getf dX2_hearCase_65 fl_X2_168 hq.ro rfl ?_
    refine V_icmp_gt (tgt := 75) dX2_hearCase_68 (by decide) (fun c_68 => ?_) (fun c_68 => ?_)
    · refine V_iconst (v := 0) dX2_hearCase_75 rfl ?_
      refine V_istore_5 dX2_hearCase_76 rfl ?_
      exact c_hearCb  pos 0 bal ten cs ps n ch td nx gs lf ls lt y H g (show MS G H g 10 a (bal, ten, cs, ps, n, ch, td, nx) from ⟨hbl, htl, b, k0, u, v, ho, hbal, hten, hcs, hps⟩) hgs hlf hls hlt hco hth hru hq hqm hnr E hp0 hp1 (by omega) (by omega) (by rw [hearC0, if_pos c_47, if_pos c_68] at kk; exact kk)
    · refine V_iconst (v := 1) dX2_hearCase_71 rfl ?_
      refine V_goto (tgt := 76) dX2_hearCase_72 (by decide) ?_
      refine V_istore_5 dX2_hearCase_76 rfl ?_
      exact c_hearCb  pos 1 bal ten cs ps n ch td nx gs lf ls lt y H g (show MS G H g 10 a (bal, ten, cs, ps, n, ch, td, nx) from ⟨hbl, htl, b, k0, u, v, ho, hbal, hten, hcs, hps⟩) hgs hlf hls hlt hco hth hru hq hqm hnr E hp0 hp1 (by omega) (by omega) (by rw [hearC0, if_pos c_47, if_neg c_68] at kk; exact kk)
  · refine V_bipush (v := (-3)) dX2_hearCase_50 (by decide) ?_
    exact V_reti dX2_hearCase_52 rfl rfl (by rw [hearC0, if_neg c_47] at kk; exact kk H g (show MS G H g 10 a (bal, ten, cs, ps, n, ch, td, nx) from ⟨hbl, htl, b, k0, u, v, ho, hbal, hten, hcs, hps⟩) hgs hlf hls hlt E)
set_option maxHeartbeats 1000000 in
set_option maxRecDepth 100000 in
theorem c_hearC {G : GT} {X : String → Heap → Prop} {H : Heap} {g : Nat → Nat} {a : Nat} {o : Nat} {th p p2 p3 : Nat} {ru qf qs qt : Nat} {x : Int32} {bal : List Int32} {ten : List Int32} {cs : List CaseC} {ps : List PrecC} {n : Int32} {ch : Int32} {td : Int32} {nx : Int32} {gs : List Int32} {lf : List Int32} {ls : List Int32} {lt : List Int32} (h : MS G H g 10 a (bal, ten, cs, ps, n, ch, td, nx)) (hgs : Ja G H g 21 p 0 8 gs) (hlf : Ja G H g 24 qf 1 8 lf) (hls : Ja G H g 25 qs 1 8 ls) (hlt : Ja G H g 26 qt 0 81 lt) (hco : Rz G H g o 6 [.ref th, .ref ru]) (hth : Rz G H g th 14 [.ref p, .ref p2, .ref p3]) (hru : Rz G H g ru 10 [.ref qf, .ref qs, .ref qt]) {F : Int32 → Heap → Prop} (kk : ∀ (H1 : Heap) (g1 : Nat → Nat), MS G H1 g1 10 a ((hearC x bal ten cs ps n ch td nx gs lf ls lt).2.1, (hearC x bal ten cs ps n ch td nx gs lf ls lt).2.2.1, (hearC x bal ten cs ps n ch td nx gs lf ls lt).2.2.2.1, (hearC x bal ten cs ps n ch td nx gs lf ls lt).2.2.2.2.1, (hearC x bal ten cs ps n ch td nx gs lf ls lt).2.2.2.2.2.1, (hearC x bal ten cs ps n ch td nx gs lf ls lt).2.2.2.2.2.2.1, (hearC x bal ten cs ps n ch td nx gs lf ls lt).2.2.2.2.2.2.2.1, (hearC x bal ten cs ps n ch td nx gs lf ls lt).2.2.2.2.2.2.2.2.1) → Ja G H1 g1 21 p 0 8 (hearC x bal ten cs ps n ch td nx gs lf ls lt).2.2.2.2.2.2.2.2.2.1 → Ja G H1 g1 24 qf 1 8 (hearC x bal ten cs ps n ch td nx gs lf ls lt).2.2.2.2.2.2.2.2.2.2.1 → Ja G H1 g1 25 qs 1 8 (hearC x bal ten cs ps n ch td nx gs lf ls lt).2.2.2.2.2.2.2.2.2.2.2.1 → Ja G H1 g1 26 qt 0 81 (hearC x bal ten cs ps n ch td nx gs lf ls lt).2.2.2.2.2.2.2.2.2.2.2.2 → Ext G [10, 11, 12, 13, 14, 15, 16, 21, 24, 25, 26] H g H1 g1 → F ((hearC x bal ten cs ps n ch td nx gs lf ls lt).1) H1) : Call G kX2_hearCase 9 3 77 [.ref o, .ref a, .int x] H (qi F) X := by
  have E : Ext G [10, 11, 12, 13, 14, 15, 16, 21, 24, 25, 26] H g H g := Ext.rf
  obtain ⟨hbl, htl, b, k0, u, v, ho, hbal, hten, hcs, hps⟩ := MS10 h
  clear h
  refine startL (L0 := [some (.ref o), some (.ref a), some (.int x), none, none, none]) rfl rfl pl_X2_hearCase (Nat.le_of_ble_eq_true rfl) ?_
  refine V_aload_1 dX2_hearCase_0 ?_
  refine V_iload_2 dX2_hearCase_1 ?_
  have h : MS G H g 10 a (bal, ten, cs, ps, n, ch, td, nx) := ⟨hbl, htl, b, k0, u, v, ho, hbal, hten, hcs, hps⟩
  refine V_call_i (runV1 dX2_hearCase_2 ce_X9_positionOf rfl ml_X2_147 im_X9_positionOf se_X9_positionOf ho.ro ⟨_, rfl, rfl⟩ (Nat.le_of_ble_eq_true rfl)) (by omega) (by omega) (by omega) (c_posOf h (x := x) ?_)
  refine V_istore_3 dX2_hearCase_5 rfl ?_
  refine V_iload_3 dX2_hearCase_6 ?_
  refine V_if_lt (tgt := 21) dX2_hearCase_7 (by decide) (fun c_7 => ?_) (fun c_7 => ?_)
  · refine V_bipush (v := (-4)) dX2_hearCase_21 (by decide) ?_
    exact V_reti dX2_hearCase_23 rfl rfl (by rw [hearC, if_pos c_7] at kk; exact kk H g (show MS G H g 10 a (bal, ten, cs, ps, n, ch, td, nx) from ⟨hbl, htl, b, k0, u, v, ho, hbal, hten, hcs, hps⟩) hgs hlf hls hlt E)
  · refine V_iload_3 dX2_hearCase_10 ?_
    refine V_aload_1 dX2_hearCase_11 ?_
    refine V_getf dX2_hearCase_12 fl_X2_136 ho.ro rfl ?_
    obtain ⟨fu, hu⟩ := hcs.ro
    refine V_call_i (runV0 dX2_hearCase_15 ce_Jx4a65c_size_8abf5 rfl ml_X2_116 im_Jx4a65c_size_8abf5 se_Jx4a65c_size_8abf5 hu ⟨_, rfl, rfl⟩ (Nat.le_of_ble_eq_true rfl)) (by omega) (by omega) (by omega) (c_clsize hcs ?_)
    refine V_icmp_lt (tgt := 24) dX2_hearCase_18 (by decide) (fun c_18 => ?_) (fun c_18 => ?_)
    · refine V_aload_1 dX2_hearCase_24 ?_
      refine V_getf dX2_hearCase_25 fl_X2_136 ho.ro rfl ?_
      refine V_iload_3 dX2_hearCase_28 ?_
      have hpos := Int32.not_le.mpr c_18
      obtain ⟨fu, hu⟩ := hcs.ro
      refine V_call_a (runV1 dX2_hearCase_29 ce_Jx4a65c_get_915e3 rfl ml_X2_150 im_Jx4a65c_get_915e3 se_Jx4a65c_get_915e3 hu ⟨_, rfl, rfl⟩ (Nat.le_of_ble_eq_true rfl)) (by omega) (by omega) (by omega) (c_clget hcs c_7 (Int32.not_le.mpr c_18) fun r hrx => ?_)
      obtain ⟨mr, hr, hrm⟩ := hrx.md
      refine V_castS (ci := 5) dX2_hearCase_32 rfl ck_X2_142 hr.1 ?_
      refine V_call_a (runV0 dX2_hearCase_35 ce_X1_copy rfl ml_X2_154 im_X1_copy se_X1_copy hr.1 ⟨_, rfl, rfl⟩ (Nat.le_of_ble_eq_true rfl)) (by omega) (by omega) (by omega) (c_caseCopy hrx fun q mq H1 g1 hq hqm e1 => ?_)
      have hnr : nrC (gC cs ((posOf cs x))) := hrx.nr
      clear hr hrm hrx
      replace ho := ho.fr e1 (by decide)
      replace hbal := hbal.fr e1 (by decide)
      replace hten := hten.fr e1 (by decide)
      replace hcs := hcs.fr e1 (by decide) (by decide)
      replace hps := hps.fr e1 (by decide) (by decide)
      replace hgs := hgs.fr e1 (by decide)
      replace hlf := hlf.fr e1 (by decide)
      replace hls := hls.fr e1 (by decide)
      replace hlt := hlt.fr e1 (by decide)
      replace hco := hco.fr e1 (by decide)
      replace hth := hth.fr e1 (by decide)
      replace hru := hru.fr e1 (by decide)
      replace E := E.trans (e1.wide (by decide))
      refine V_astore_4 dX2_hearCase_38 rfl ?_
      exact c_hearC0  (posOf cs x) bal ten cs ps n ch td nx gs lf ls lt (gC cs ((posOf cs x))) H1 g1 (show MS G H1 g1 10 a (bal, ten, cs, ps, n, ch, td, nx) from ⟨hbl, htl, b, k0, u, v, ho, hbal, hten, hcs, hps⟩) hgs hlf hls hlt hco hth hru hq hqm hnr E c_7 hpos (by omega) (by omega) (by rw [hearC, if_neg c_7, if_pos c_18] at kk; exact kk)
    · refine V_bipush (v := (-4)) dX2_hearCase_21 (by decide) ?_
      exact V_reti dX2_hearCase_23 rfl rfl (by rw [hearC, if_neg c_7, if_neg c_18] at kk; exact kk H g (show MS G H g 10 a (bal, ten, cs, ps, n, ch, td, nx) from ⟨hbl, htl, b, k0, u, v, ho, hbal, hten, hcs, hps⟩) hgs hlf hls hlt E)
def hearB (S : StC) (x : Int32) (gs lf ls lt : List Int32) := hearC x S.1 S.2.1 S.2.2.1 S.2.2.2.1 S.2.2.2.2.1 S.2.2.2.2.2.1 S.2.2.2.2.2.2.1 S.2.2.2.2.2.2.2 gs lf ls lt
def appC3 (x : Int32) (pos : Int32) (nr : Int32) (old : Int32) (bal : List Int32) (ten : List Int32) (cs : List CaseC) (ps : List PrecC) (n : Int32) (ch : Int32) (td : Int32) (nx : Int32) (gs : List Int32) (lf : List Int32) (ls : List Int32) (lt : List Int32) (y : CaseC) : Int32 × List Int32 × List Int32 × List CaseC × List PrecC × Int32 × Int32 × Int32 × Int32 × List Int32 × List Int32 × List Int32 × List Int32 := (cAw (y), (payCB (payCB (moveAB (bal, ten, cs.set (pos).toNatClampNeg (y), ps, n, ch, td, nx) y ((cAw (y)) - old)) (cPl (y)) 3) (cDf (y)) 3).1, (payCB (payCB (moveAB (bal, ten, cs.set (pos).toNatClampNeg (y), ps, n, ch, td, nx) y ((cAw (y)) - old)) (cPl (y)) 3) (cDf (y)) 3).2.1, (payCB (payCB (moveAB (bal, ten, cs.set (pos).toNatClampNeg (y), ps, n, ch, td, nx) y ((cAw (y)) - old)) (cPl (y)) 3) (cDf (y)) 3).2.2.1, (payCB (payCB (moveAB (bal, ten, cs.set (pos).toNatClampNeg (y), ps, n, ch, td, nx) y ((cAw (y)) - old)) (cPl (y)) 3) (cDf (y)) 3).2.2.2.1, (payCB (payCB (moveAB (bal, ten, cs.set (pos).toNatClampNeg (y), ps, n, ch, td, nx) y ((cAw (y)) - old)) (cPl (y)) 3) (cDf (y)) 3).2.2.2.2.1, (payCB (payCB (moveAB (bal, ten, cs.set (pos).toNatClampNeg (y), ps, n, ch, td, nx) y ((cAw (y)) - old)) (cPl (y)) 3) (cDf (y)) 3).2.2.2.2.2.1, (payCB (payCB (moveAB (bal, ten, cs.set (pos).toNatClampNeg (y), ps, n, ch, td, nx) y ((cAw (y)) - old)) (cPl (y)) 3) (cDf (y)) 3).2.2.2.2.2.2.1, (payCB (payCB (moveAB (bal, ten, cs.set (pos).toNatClampNeg (y), ps, n, ch, td, nx) y ((cAw (y)) - old)) (cPl (y)) 3) (cDf (y)) 3).2.2.2.2.2.2.2, gs, lf, ls, lt)
def appC2 (x : Int32) (pos : Int32) (nr : Int32) (old : Int32) (bal : List Int32) (ten : List Int32) (cs : List CaseC) (ps : List PrecC) (n : Int32) (ch : Int32) (td : Int32) (nx : Int32) (gs : List Int32) (lf : List Int32) (ls : List Int32) (lt : List Int32) (y : CaseC) : Int32 × List Int32 × List Int32 × List CaseC × List PrecC × Int32 × Int32 × Int32 × Int32 × List Int32 × List Int32 × List Int32 × List Int32 := if (cAa y) < 0 then (appC3 x pos nr old bal ten cs ps n ch td nx gs lf ls lt y) else (if (nI ps.length) ≤ (cAa y) then (appC3 x pos nr old bal ten cs ps n ch td nx gs lf ls lt y) else (appC3 x pos nr old bal ten cs (ps.set (cAa (y)).toNatClampNeg (cMt (y), cPc (y))) n ch td nx gs lf ls lt y))
def appC1 (x : Int32) (pos : Int32) (nr : Int32) (bal : List Int32) (ten : List Int32) (cs : List CaseC) (ps : List PrecC) (n : Int32) (ch : Int32) (td : Int32) (nx : Int32) (gs : List Int32) (lf : List Int32) (ls : List Int32) (lt : List Int32) (y : CaseC) : Int32 × List Int32 × List Int32 × List CaseC × List PrecC × Int32 × Int32 × Int32 × Int32 × List Int32 × List Int32 × List Int32 × List Int32 := if nr = (-1) then ((-5), bal, ten, cs, ps, n, ch, td, nx, gs, lf, ls, lt) else (appC2 x pos nr (cAw y) bal ten cs ps n ch td nx gs ((percB ps nr (cMt y) lf ls lt).2.1) ((percB ps nr (cMt y) lf ls lt).2.2.1) ((percB ps nr (cMt y) lf ls lt).2.2.2) (ruleA ((percB ps nr (cMt y) lf ls lt).1) (c13 y 1)))
def appC0 (x : Int32) (pos : Int32) (bal : List Int32) (ten : List Int32) (cs : List CaseC) (ps : List PrecC) (n : Int32) (ch : Int32) (td : Int32) (nx : Int32) (gs : List Int32) (lf : List Int32) (ls : List Int32) (lt : List Int32) (y : CaseC) : Int32 × List Int32 × List Int32 × List CaseC × List PrecC × Int32 × Int32 × Int32 × Int32 × List Int32 × List Int32 × List Int32 × List Int32 := if (cSd y) = 114 then (if (cAp y) = 0 then (appC1 x pos ((near ps (cMt y) (cDb y) (cAa y) lf ls lt).1) bal ten cs ps n ch td nx gs ((near ps (cMt y) (cDb y) (cAa y) lf ls lt).2.1) ((near ps (cMt y) (cDb y) (cAa y) lf ls lt).2.2.1) ((near ps (cMt y) (cDb y) (cAa y) lf ls lt).2.2.2) y) else ((-3), bal, ten, cs, ps, n, ch, td, nx, gs, lf, ls, lt)) else ((-3), bal, ten, cs, ps, n, ch, td, nx, gs, lf, ls, lt)
def appC (x : Int32) (bal : List Int32) (ten : List Int32) (cs : List CaseC) (ps : List PrecC) (n : Int32) (ch : Int32) (td : Int32) (nx : Int32) (gs : List Int32) (lf : List Int32) (ls : List Int32) (lt : List Int32) : Int32 × List Int32 × List Int32 × List CaseC × List PrecC × Int32 × Int32 × Int32 × Int32 × List Int32 × List Int32 × List Int32 × List Int32 := if (posOf cs x) < 0 then ((-4), bal, ten, cs, ps, n, ch, td, nx, gs, lf, ls, lt) else (if (posOf cs x) < (nI cs.length) then (appC0 x (posOf cs x) bal ten cs ps n ch td nx gs lf ls lt (gC cs ((posOf cs x)))) else ((-4), bal, ten, cs, ps, n, ch, td, nx, gs, lf, ls, lt))
set_option maxHeartbeats 1000000 in
set_option maxRecDepth 100000 in
theorem c_appC3 {G : GT} {X : String → Heap → Prop} {H0 : Heap} {g0 : Nat → Nat} {c s : Nat} {a : Nat} {o : Nat} {th p p2 p3 : Nat} {ru qf qs qt : Nat} {x : Int32} {q mq : Nat} {F : Int32 → Heap → Prop} : ∀ (pos : Int32) (nr : Int32) (old : Int32) (bal : List Int32) (ten : List Int32) (cs : List CaseC) (ps : List PrecC) (n : Int32) (ch : Int32) (td : Int32) (nx : Int32) (gs : List Int32) (lf : List Int32) (ls : List Int32) (lt : List Int32) (y : CaseC) (H : Heap) (g : Nat → Nat), MS G H g 10 a (bal, ten, cs, ps, n, ch, td, nx) → Ja G H g 21 p 0 8 gs → Ja G H g 24 qf 1 8 lf → Ja G H g 25 qs 1 8 ls → Ja G H g 26 qt 0 81 lt → Rz G H g o 6 [.ref th, .ref ru] → Rz G H g th 14 [.ref p, .ref p2, .ref p3] → Rz G H g ru 10 [.ref qf, .ref qs, .ref qt] → Ob G H g 15 q 5 (cFs y mq) → Sz G H g mq (cMt y) → nrC y → Ext G [10, 11, 12, 13, 14, 15, 16, 21, 24, 25, 26] H0 g0 H g → ¬ pos < 0 → ¬ nI cs.length ≤ pos → 0 ≤ c → 0 ≤ s → (∀ (H1 : Heap) (g1 : Nat → Nat), MS G H1 g1 10 a ((appC3 x pos nr old bal ten cs ps n ch td nx gs lf ls lt y).2.1, (appC3 x pos nr old bal ten cs ps n ch td nx gs lf ls lt y).2.2.1, (appC3 x pos nr old bal ten cs ps n ch td nx gs lf ls lt y).2.2.2.1, (appC3 x pos nr old bal ten cs ps n ch td nx gs lf ls lt y).2.2.2.2.1, (appC3 x pos nr old bal ten cs ps n ch td nx gs lf ls lt y).2.2.2.2.2.1, (appC3 x pos nr old bal ten cs ps n ch td nx gs lf ls lt y).2.2.2.2.2.2.1, (appC3 x pos nr old bal ten cs ps n ch td nx gs lf ls lt y).2.2.2.2.2.2.2.1, (appC3 x pos nr old bal ten cs ps n ch td nx gs lf ls lt y).2.2.2.2.2.2.2.2.1) → Ja G H1 g1 21 p 0 8 (appC3 x pos nr old bal ten cs ps n ch td nx gs lf ls lt y).2.2.2.2.2.2.2.2.2.1 → Ja G H1 g1 24 qf 1 8 (appC3 x pos nr old bal ten cs ps n ch td nx gs lf ls lt y).2.2.2.2.2.2.2.2.2.2.1 → Ja G H1 g1 25 qs 1 8 (appC3 x pos nr old bal ten cs ps n ch td nx gs lf ls lt y).2.2.2.2.2.2.2.2.2.2.2.1 → Ja G H1 g1 26 qt 0 81 (appC3 x pos nr old bal ten cs ps n ch td nx gs lf ls lt y).2.2.2.2.2.2.2.2.2.2.2.2 → Ext G [10, 11, 12, 13, 14, 15, 16, 21, 24, 25, 26] H0 g0 H1 g1 → F ((appC3 x pos nr old bal ten cs ps n ch td nx gs lf ls lt y).1) H1) → V G kX2_appealCase 8 c s (qi F) X 175 [some (.ref o), some (.ref a), some (.int x), some (.int pos), some (.ref q), some (.int nr), some (.int old)] [] H := by
  intro pos nr old bal ten cs ps n ch td nx gs lf ls lt y H g h hgs hlf hls hlt hco hth hru hq hqm hnr E hp0 hp1 hc hs kk
  obtain ⟨hbl, htl, b, k0, u, v, ho, hbal, hten, hcs, hps⟩ := MS10 h
  clear h
  refine V_aload_1 dX2_appealCase_175 ?_
  refine V_getf dX2_appealCase_176 fl_X2_136 ho.ro rfl ?_
  refine V_iload_3 dX2_appealCase_179 ?_
  refine V_aload_4 dX2_appealCase_180 ?_
  have hz := hq.rz
  have e1 := ext_frz (G := G) (H := H) (g := g) (t := 15)
  replace ho := ho.fr e1 (by decide)
  replace hbal := hbal.fr e1 (by decide)
  replace hten := hten.fr e1 (by decide)
  replace hcs := hcs.fr e1 (by decide) (by decide)
  replace hps := hps.fr e1 (by decide) (by decide)
  replace hgs := hgs.fr e1 (by decide)
  replace hlf := hlf.fr e1 (by decide)
  replace hls := hls.fr e1 (by decide)
  replace hlt := hlt.fr e1 (by decide)
  replace hco := hco.fr e1 (by decide)
  replace hth := hth.fr e1 (by decide)
  replace hru := hru.fr e1 (by decide)
  replace hqm := hqm.fr e1 (by decide)
  replace E := E.trans (e1.wide (by decide))
  replace hq := hz
  clear hz
  replace hqm : Sz G H (gall G g [15] 0) mq (cMt (y)) := hqm
  obtain ⟨fl, hfl⟩ := hcs.ro
  refine V_call_a (runV2 dX2_appealCase_182 ce_Jx4a65c_set_bcc79 rfl ml_X2_203 im_Jx4a65c_set_bcc79 se_Jx4a65c_set_bcc79 hfl ⟨_, rfl, rfl⟩ (Nat.le_of_ble_eq_true rfl)) (by omega) (by omega) (by omega) (c_clset (x := (y)) hcs hp0 hp1 (isCase.mk (x := y) hq hqm hnr) (by decide) fun dropped H2 g2 hnew e2 => ?_)
  replace ho := ho.fr e2 (by decide)
  replace hbal := hbal.fr e2 (by decide)
  replace hten := hten.fr e2 (by decide)
  replace hcs := hnew
  clear hnew
  replace hps := hps.fr e2 (by decide) (by decide)
  replace hgs := hgs.fr e2 (by decide)
  replace hlf := hlf.fr e2 (by decide)
  replace hls := hls.fr e2 (by decide)
  replace hlt := hlt.fr e2 (by decide)
  replace hco := hco.fr e2 (by decide)
  replace hth := hth.fr e2 (by decide)
  replace hru := hru.fr e2 (by decide)
  replace hq := hq.fr e2 (by decide)
  replace hqm := hqm.fr e2 (by decide)
  replace E := E.trans (e2.wide (by decide))
  refine V_pop dX2_appealCase_185 rfl ?_
  refine V_aload_1 dX2_appealCase_186 ?_
  refine V_aload_4 dX2_appealCase_187 ?_
  refine V_aload_4 dX2_appealCase_189 ?_
  refine V_getf dX2_appealCase_191 fl_X2_207 hq.1 rfl ?_
  refine V_iload_6 dX2_appealCase_194 ?_
  refine V_isub dX2_appealCase_196 ?_
  have h : MS G H2 g2 10 a (bal, ten, cs.set (pos).toNatClampNeg (y), ps, n, ch, td, nx) := ⟨hbl, htl, b, k0, u, v, ho, hbal, hten, hcs, hps⟩
  refine V_call_v (runS3 dX2_appealCase_197 ce_X2_moveAward rfl ml_X2_210 st_X2_moveAward (Nat.le_of_ble_eq_true rfl)) (by omega) (by omega) (by omega) (c_moveA h hq (y := ((cAw (y)) - old)) fun H3 g3 h_ e3 => ?_)
  clear h hbl htl ho hbal hten hcs hps
  have h : MS G H3 g3 10 a (((moveAB (bal, ten, cs.set (pos).toNatClampNeg (y), ps, n, ch, td, nx) y ((cAw (y)) - old)).1), ((moveAB (bal, ten, cs.set (pos).toNatClampNeg (y), ps, n, ch, td, nx) y ((cAw (y)) - old)).2.1), ((moveAB (bal, ten, cs.set (pos).toNatClampNeg (y), ps, n, ch, td, nx) y ((cAw (y)) - old)).2.2.1), ((moveAB (bal, ten, cs.set (pos).toNatClampNeg (y), ps, n, ch, td, nx) y ((cAw (y)) - old)).2.2.2.1), ((moveAB (bal, ten, cs.set (pos).toNatClampNeg (y), ps, n, ch, td, nx) y ((cAw (y)) - old)).2.2.2.2.1), ((moveAB (bal, ten, cs.set (pos).toNatClampNeg (y), ps, n, ch, td, nx) y ((cAw (y)) - old)).2.2.2.2.2.1), ((moveAB (bal, ten, cs.set (pos).toNatClampNeg (y), ps, n, ch, td, nx) y ((cAw (y)) - old)).2.2.2.2.2.2.1), ((moveAB (bal, ten, cs.set (pos).toNatClampNeg (y), ps, n, ch, td, nx) y ((cAw (y)) - old)).2.2.2.2.2.2.2)) := h_
  obtain ⟨hbl, htl, b, k0, u, v, ho, hbal, hten, hcs, hps⟩ := MS10 h
  clear h h_
  replace hgs := hgs.fr e3 (by decide)
  replace hlf := hlf.fr e3 (by decide)
  replace hls := hls.fr e3 (by decide)
  replace hlt := hlt.fr e3 (by decide)
  replace hco := hco.fr e3 (by decide)
  replace hth := hth.fr e3 (by decide)
  replace hru := hru.fr e3 (by decide)
  replace hq := hq.fr e3 (by decide)
  replace hqm := hqm.fr e3 (by decide)
  replace E := E.trans (e3.wide (by decide))
  refine V_aload_1 dX2_appealCase_200 ?_
  refine V_aload_4 dX2_appealCase_201 ?_
  refine V_getf dX2_appealCase_203 fl_X2_172 hq.1 rfl ?_
  refine V_iconst (v := 3) dX2_appealCase_206 rfl ?_
  have h : MS G H3 g3 10 a ((moveAB (bal, ten, cs.set (pos).toNatClampNeg (y), ps, n, ch, td, nx) y ((cAw (y)) - old)).1, (moveAB (bal, ten, cs.set (pos).toNatClampNeg (y), ps, n, ch, td, nx) y ((cAw (y)) - old)).2.1, (moveAB (bal, ten, cs.set (pos).toNatClampNeg (y), ps, n, ch, td, nx) y ((cAw (y)) - old)).2.2.1, (moveAB (bal, ten, cs.set (pos).toNatClampNeg (y), ps, n, ch, td, nx) y ((cAw (y)) - old)).2.2.2.1, (moveAB (bal, ten, cs.set (pos).toNatClampNeg (y), ps, n, ch, td, nx) y ((cAw (y)) - old)).2.2.2.2.1, (moveAB (bal, ten, cs.set (pos).toNatClampNeg (y), ps, n, ch, td, nx) y ((cAw (y)) - old)).2.2.2.2.2.1, (moveAB (bal, ten, cs.set (pos).toNatClampNeg (y), ps, n, ch, td, nx) y ((cAw (y)) - old)).2.2.2.2.2.2.1, (moveAB (bal, ten, cs.set (pos).toNatClampNeg (y), ps, n, ch, td, nx) y ((cAw (y)) - old)).2.2.2.2.2.2.2) := ⟨hbl, htl, b, k0, u, v, ho, hbal, hten, hcs, hps⟩
  refine V_call_v (runV2 dX2_appealCase_207 ce_X9_payToChest rfl ml_X2_227 im_X9_payToChest se_X9_payToChest ho.ro ⟨_, rfl, rfl⟩ (Nat.le_of_ble_eq_true rfl)) (by omega) (by omega) (by omega) (c_payC h (x := (cPl (y))) (y := 3) fun H4 g4 h_ e4 => ?_)
  clear h hbl htl ho hbal hten hcs hps
  have h : MS G H4 g4 10 a (((payCB (moveAB (bal, ten, cs.set (pos).toNatClampNeg (y), ps, n, ch, td, nx) y ((cAw (y)) - old)) (cPl (y)) 3).1), ((payCB (moveAB (bal, ten, cs.set (pos).toNatClampNeg (y), ps, n, ch, td, nx) y ((cAw (y)) - old)) (cPl (y)) 3).2.1), ((payCB (moveAB (bal, ten, cs.set (pos).toNatClampNeg (y), ps, n, ch, td, nx) y ((cAw (y)) - old)) (cPl (y)) 3).2.2.1), ((payCB (moveAB (bal, ten, cs.set (pos).toNatClampNeg (y), ps, n, ch, td, nx) y ((cAw (y)) - old)) (cPl (y)) 3).2.2.2.1), ((payCB (moveAB (bal, ten, cs.set (pos).toNatClampNeg (y), ps, n, ch, td, nx) y ((cAw (y)) - old)) (cPl (y)) 3).2.2.2.2.1), ((payCB (moveAB (bal, ten, cs.set (pos).toNatClampNeg (y), ps, n, ch, td, nx) y ((cAw (y)) - old)) (cPl (y)) 3).2.2.2.2.2.1), ((payCB (moveAB (bal, ten, cs.set (pos).toNatClampNeg (y), ps, n, ch, td, nx) y ((cAw (y)) - old)) (cPl (y)) 3).2.2.2.2.2.2.1), ((payCB (moveAB (bal, ten, cs.set (pos).toNatClampNeg (y), ps, n, ch, td, nx) y ((cAw (y)) - old)) (cPl (y)) 3).2.2.2.2.2.2.2)) := h_
  obtain ⟨hbl, htl, b, k0, u, v, ho, hbal, hten, hcs, hps⟩ := MS10 h
  clear h h_
  replace hgs := hgs.fr e4 (by decide)
  replace hlf := hlf.fr e4 (by decide)
  replace hls := hls.fr e4 (by decide)
  replace hlt := hlt.fr e4 (by decide)
  replace hco := hco.fr e4 (by decide)
  replace hth := hth.fr e4 (by decide)
  replace hru := hru.fr e4 (by decide)
  replace hq := hq.fr e4 (by decide)
  replace hqm := hqm.fr e4 (by decide)
  replace E := E.trans (e4.wide (by decide))
  refine V_aload_1 dX2_appealCase_210 ?_
  refine V_aload_4 dX2_appealCase_211 ?_
  refine V_getf dX2_appealCase_213 fl_X2_175 hq.1 rfl ?_
  refine V_iconst (v := 3) dX2_appealCase_216 rfl ?_
  have h : MS G H4 g4 10 a ((payCB (moveAB (bal, ten, cs.set (pos).toNatClampNeg (y), ps, n, ch, td, nx) y ((cAw (y)) - old)) (cPl (y)) 3).1, (payCB (moveAB (bal, ten, cs.set (pos).toNatClampNeg (y), ps, n, ch, td, nx) y ((cAw (y)) - old)) (cPl (y)) 3).2.1, (payCB (moveAB (bal, ten, cs.set (pos).toNatClampNeg (y), ps, n, ch, td, nx) y ((cAw (y)) - old)) (cPl (y)) 3).2.2.1, (payCB (moveAB (bal, ten, cs.set (pos).toNatClampNeg (y), ps, n, ch, td, nx) y ((cAw (y)) - old)) (cPl (y)) 3).2.2.2.1, (payCB (moveAB (bal, ten, cs.set (pos).toNatClampNeg (y), ps, n, ch, td, nx) y ((cAw (y)) - old)) (cPl (y)) 3).2.2.2.2.1, (payCB (moveAB (bal, ten, cs.set (pos).toNatClampNeg (y), ps, n, ch, td, nx) y ((cAw (y)) - old)) (cPl (y)) 3).2.2.2.2.2.1, (payCB (moveAB (bal, ten, cs.set (pos).toNatClampNeg (y), ps, n, ch, td, nx) y ((cAw (y)) - old)) (cPl (y)) 3).2.2.2.2.2.2.1, (payCB (moveAB (bal, ten, cs.set (pos).toNatClampNeg (y), ps, n, ch, td, nx) y ((cAw (y)) - old)) (cPl (y)) 3).2.2.2.2.2.2.2) := ⟨hbl, htl, b, k0, u, v, ho, hbal, hten, hcs, hps⟩
  refine V_call_v (runV2 dX2_appealCase_217 ce_X9_payToChest rfl ml_X2_227 im_X9_payToChest se_X9_payToChest ho.ro ⟨_, rfl, rfl⟩ (Nat.le_of_ble_eq_true rfl)) (by omega) (by omega) (by omega) (c_payC h (x := (cDf (y))) (y := 3) fun H5 g5 h_ e5 => ?_)
  clear h hbl htl ho hbal hten hcs hps
  have h : MS G H5 g5 10 a (((payCB (payCB (moveAB (bal, ten, cs.set (pos).toNatClampNeg (y), ps, n, ch, td, nx) y ((cAw (y)) - old)) (cPl (y)) 3) (cDf (y)) 3).1), ((payCB (payCB (moveAB (bal, ten, cs.set (pos).toNatClampNeg (y), ps, n, ch, td, nx) y ((cAw (y)) - old)) (cPl (y)) 3) (cDf (y)) 3).2.1), ((payCB (payCB (moveAB (bal, ten, cs.set (pos).toNatClampNeg (y), ps, n, ch, td, nx) y ((cAw (y)) - old)) (cPl (y)) 3) (cDf (y)) 3).2.2.1), ((payCB (payCB (moveAB (bal, ten, cs.set (pos).toNatClampNeg (y), ps, n, ch, td, nx) y ((cAw (y)) - old)) (cPl (y)) 3) (cDf (y)) 3).2.2.2.1), ((payCB (payCB (moveAB (bal, ten, cs.set (pos).toNatClampNeg (y), ps, n, ch, td, nx) y ((cAw (y)) - old)) (cPl (y)) 3) (cDf (y)) 3).2.2.2.2.1), ((payCB (payCB (moveAB (bal, ten, cs.set (pos).toNatClampNeg (y), ps, n, ch, td, nx) y ((cAw (y)) - old)) (cPl (y)) 3) (cDf (y)) 3).2.2.2.2.2.1), ((payCB (payCB (moveAB (bal, ten, cs.set (pos).toNatClampNeg (y), ps, n, ch, td, nx) y ((cAw (y)) - old)) (cPl (y)) 3) (cDf (y)) 3).2.2.2.2.2.2.1), ((payCB (payCB (moveAB (bal, ten, cs.set (pos).toNatClampNeg (y), ps, n, ch, td, nx) y ((cAw (y)) - old)) (cPl (y)) 3) (cDf (y)) 3).2.2.2.2.2.2.2)) := h_
  obtain ⟨hbl, htl, b, k0, u, v, ho, hbal, hten, hcs, hps⟩ := MS10 h
  clear h h_
  replace hgs := hgs.fr e5 (by decide)
  replace hlf := hlf.fr e5 (by decide)
  replace hls := hls.fr e5 (by decide)
  replace hlt := hlt.fr e5 (by decide)
  replace hco := hco.fr e5 (by decide)
  replace hth := hth.fr e5 (by decide)
  replace hru := hru.fr e5 (by decide)
  replace hq := hq.fr e5 (by decide)
  replace hqm := hqm.fr e5 (by decide)
  replace E := E.trans (e5.wide (by decide))
  refine V_aload_4 dX2_appealCase_220 ?_
  refine V_getf dX2_appealCase_222 fl_X2_207 hq.1 rfl ?_
  exact V_reti dX2_appealCase_225 rfl rfl (by rw [appC3] at kk; exact kk H5 g5 (show MS G H5 g5 10 a ((payCB (payCB (moveAB (bal, ten, cs.set (pos).toNatClampNeg (y), ps, n, ch, td, nx) y ((cAw (y)) - old)) (cPl (y)) 3) (cDf (y)) 3).1, (payCB (payCB (moveAB (bal, ten, cs.set (pos).toNatClampNeg (y), ps, n, ch, td, nx) y ((cAw (y)) - old)) (cPl (y)) 3) (cDf (y)) 3).2.1, (payCB (payCB (moveAB (bal, ten, cs.set (pos).toNatClampNeg (y), ps, n, ch, td, nx) y ((cAw (y)) - old)) (cPl (y)) 3) (cDf (y)) 3).2.2.1, (payCB (payCB (moveAB (bal, ten, cs.set (pos).toNatClampNeg (y), ps, n, ch, td, nx) y ((cAw (y)) - old)) (cPl (y)) 3) (cDf (y)) 3).2.2.2.1, (payCB (payCB (moveAB (bal, ten, cs.set (pos).toNatClampNeg (y), ps, n, ch, td, nx) y ((cAw (y)) - old)) (cPl (y)) 3) (cDf (y)) 3).2.2.2.2.1, (payCB (payCB (moveAB (bal, ten, cs.set (pos).toNatClampNeg (y), ps, n, ch, td, nx) y ((cAw (y)) - old)) (cPl (y)) 3) (cDf (y)) 3).2.2.2.2.2.1, (payCB (payCB (moveAB (bal, ten, cs.set (pos).toNatClampNeg (y), ps, n, ch, td, nx) y ((cAw (y)) - old)) (cPl (y)) 3) (cDf (y)) 3).2.2.2.2.2.2.1, (payCB (payCB (moveAB (bal, ten, cs.set (pos).toNatClampNeg (y), ps, n, ch, td, nx) y ((cAw (y)) - old)) (cPl (y)) 3) (cDf (y)) 3).2.2.2.2.2.2.2) from ⟨hbl, htl, b, k0, u, v, ho, hbal, hten, hcs, hps⟩) hgs hlf hls hlt E)
set_option maxHeartbeats 1000000 in
set_option maxRecDepth 100000 in
theorem c_appC2 {G : GT} {X : String → Heap → Prop} {H0 : Heap} {g0 : Nat → Nat} {c s : Nat} {a : Nat} {o : Nat} {th p p2 p3 : Nat} {ru qf qs qt : Nat} {x : Int32} {q mq : Nat} {F : Int32 → Heap → Prop} : ∀ (pos : Int32) (nr : Int32) (old : Int32) (bal : List Int32) (ten : List Int32) (cs : List CaseC) (ps : List PrecC) (n : Int32) (ch : Int32) (td : Int32) (nx : Int32) (gs : List Int32) (lf : List Int32) (ls : List Int32) (lt : List Int32) (y : CaseC) (H : Heap) (g : Nat → Nat), MS G H g 10 a (bal, ten, cs, ps, n, ch, td, nx) → Ja G H g 21 p 0 8 gs → Ja G H g 24 qf 1 8 lf → Ja G H g 25 qs 1 8 ls → Ja G H g 26 qt 0 81 lt → Rz G H g o 6 [.ref th, .ref ru] → Rz G H g th 14 [.ref p, .ref p2, .ref p3] → Rz G H g ru 10 [.ref qf, .ref qs, .ref qt] → Ob G H g 15 q 5 (cFs y mq) → Sz G H g mq (cMt y) → nrC y → Ext G [10, 11, 12, 13, 14, 15, 16, 21, 24, 25, 26] H0 g0 H g → ¬ pos < 0 → ¬ nI cs.length ≤ pos → 1 ≤ c → 2 ≤ s → (∀ (H1 : Heap) (g1 : Nat → Nat), MS G H1 g1 10 a ((appC2 x pos nr old bal ten cs ps n ch td nx gs lf ls lt y).2.1, (appC2 x pos nr old bal ten cs ps n ch td nx gs lf ls lt y).2.2.1, (appC2 x pos nr old bal ten cs ps n ch td nx gs lf ls lt y).2.2.2.1, (appC2 x pos nr old bal ten cs ps n ch td nx gs lf ls lt y).2.2.2.2.1, (appC2 x pos nr old bal ten cs ps n ch td nx gs lf ls lt y).2.2.2.2.2.1, (appC2 x pos nr old bal ten cs ps n ch td nx gs lf ls lt y).2.2.2.2.2.2.1, (appC2 x pos nr old bal ten cs ps n ch td nx gs lf ls lt y).2.2.2.2.2.2.2.1, (appC2 x pos nr old bal ten cs ps n ch td nx gs lf ls lt y).2.2.2.2.2.2.2.2.1) → Ja G H1 g1 21 p 0 8 (appC2 x pos nr old bal ten cs ps n ch td nx gs lf ls lt y).2.2.2.2.2.2.2.2.2.1 → Ja G H1 g1 24 qf 1 8 (appC2 x pos nr old bal ten cs ps n ch td nx gs lf ls lt y).2.2.2.2.2.2.2.2.2.2.1 → Ja G H1 g1 25 qs 1 8 (appC2 x pos nr old bal ten cs ps n ch td nx gs lf ls lt y).2.2.2.2.2.2.2.2.2.2.2.1 → Ja G H1 g1 26 qt 0 81 (appC2 x pos nr old bal ten cs ps n ch td nx gs lf ls lt y).2.2.2.2.2.2.2.2.2.2.2.2 → Ext G [10, 11, 12, 13, 14, 15, 16, 21, 24, 25, 26] H0 g0 H1 g1 → F ((appC2 x pos nr old bal ten cs ps n ch td nx gs lf ls lt y).1) H1) → V G kX2_appealCase 8 c s (qi F) X 122 [some (.ref o), some (.ref a), some (.int x), some (.int pos), some (.ref q), some (.int nr), some (.int old)] [] H := by
  intro pos nr old bal ten cs ps n ch td nx gs lf ls lt y H g h hgs hlf hls hlt hco hth hru hq hqm hnr E hp0 hp1 hc hs kk
  obtain ⟨hbl, htl, b, k0, u, v, ho, hbal, hten, hcs, hps⟩ := MS10 h
  clear h
  refine V_aload_4 dX2_appealCase_122 ?_
  refine V_getf dX2_appealCase_124 fl_X2_217 hq.ro rfl ?_
  refine V_if_lt (tgt := 175) dX2_appealCase_127 (by decide) (fun c_127 => ?_) (fun c_127 => ?_)
  · exact c_appC3  pos nr old bal ten cs ps n ch td nx gs lf ls lt y H g (show MS G H g 10 a (bal, ten, cs, ps, n, ch, td, nx) from ⟨hbl, htl, b, k0, u, v, ho, hbal, hten, hcs, hps⟩) hgs hlf hls hlt hco hth hru hq hqm hnr E hp0 hp1 (by omega) (by omega) (by rw [appC2, if_pos c_127] at kk; exact kk)
  · refine V_aload_4 dX2_appealCase_130 ?_
    refine V_getf dX2_appealCase_132 fl_X2_217 hq.ro rfl ?_
    refine V_aload_1 dX2_appealCase_135 ?_
    refine V_getf dX2_appealCase_136 fl_X2_112 ho.ro rfl ?_
    obtain ⟨fw, hw⟩ := hps.ro
    refine V_call_i (runV0 dX2_appealCase_139 ce_Jx4a65c_size_8abf5 rfl ml_X2_116 im_Jx4a65c_size_8abf5 se_Jx4a65c_size_8abf5 hw ⟨_, rfl, rfl⟩ (Nat.le_of_ble_eq_true rfl)) (by omega) (by omega) (by omega) (c_plsize hps ?_)
    refine V_icmp_ge (tgt := 175) dX2_appealCase_142 (by decide) (fun c_142 => ?_) (fun c_142 => ?_)
    · exact c_appC3  pos nr old bal ten cs ps n ch td nx gs lf ls lt y H g (show MS G H g 10 a (bal, ten, cs, ps, n, ch, td, nx) from ⟨hbl, htl, b, k0, u, v, ho, hbal, hten, hcs, hps⟩) hgs hlf hls hlt hco hth hru hq hqm hnr E hp0 hp1 (by omega) (by omega) (by rw [appC2, if_neg c_127, if_pos c_142] at kk; exact kk)
    · refine V_aload_1 dX2_appealCase_145 ?_
      refine V_getf dX2_appealCase_146 fl_X2_112 ho.ro rfl ?_
      refine V_aload_4 dX2_appealCase_149 ?_
      refine V_getf dX2_appealCase_151 fl_X2_217 hq.ro rfl ?_
      refine V_mk2 (g := g) 16 2 dX2_appealCase_154 nw_X2_127 rfl (by omega) (by omega) fun r H1 g1 hr e1 z1 => ?_
      replace ho := ho.fr e1 (by decide)
      replace hbal := hbal.fr e1 (by decide)
      replace hten := hten.fr e1 (by decide)
      replace hcs := hcs.fr e1 (by decide) (by decide)
      replace hps := hps.fr e1 (by decide) (by decide)
      replace hgs := hgs.fr e1 (by decide)
      replace hlf := hlf.fr e1 (by decide)
      replace hls := hls.fr e1 (by decide)
      replace hlt := hlt.fr e1 (by decide)
      replace hco := hco.fr e1 (by decide)
      replace hth := hth.fr e1 (by decide)
      replace hru := hru.fr e1 (by decide)
      replace hq := hq.fr e1 (by decide)
      replace hqm := hqm.fr e1 (by decide)
      replace E := E.trans (e1.wide (by simp))
      refine V_dup dX2_appealCase_157 rfl ?_
      refine V_aload_4 dX2_appealCase_158 ?_
      refine V_getf dX2_appealCase_160 fl_X2_184 hq.ro rfl ?_
      refine V_aload_4 dX2_appealCase_163 ?_
      refine V_getf dX2_appealCase_165 fl_X2_220 hq.ro rfl ?_
      refine V_call_v (runI2 dX2_appealCase_168 ce_X5_init rfl rfl rfl ml_X2_129 im_X5_init (Nat.le_of_ble_eq_true rfl)) (by omega) (by omega) (by omega) (c_precInit hr (by decide) fun H2 hr e2 => ?_)
      replace ho := ho.fr e2 (by decide)
      replace hbal := hbal.fr e2 (by decide)
      replace hten := hten.fr e2 (by decide)
      replace hcs := hcs.fr e2 (by decide) (by decide)
      replace hps := hps.fr e2 (by decide) (by decide)
      replace hgs := hgs.fr e2 (by decide)
      replace hlf := hlf.fr e2 (by decide)
      replace hls := hls.fr e2 (by decide)
      replace hlt := hlt.fr e2 (by decide)
      replace hco := hco.fr e2 (by decide)
      replace hth := hth.fr e2 (by decide)
      replace hru := hru.fr e2 (by decide)
      replace hq := hq.fr e2 (by decide)
      replace hqm := hqm.fr e2 (by decide)
      replace E := E.trans (e2.wide (by decide))
      have hz := hr.rz
      have e3 := ext_frz (G := G) (H := H2) (g := g1) (t := 16)
      replace ho := ho.fr e3 (by decide)
      replace hbal := hbal.fr e3 (by decide)
      replace hten := hten.fr e3 (by decide)
      replace hcs := hcs.fr e3 (by decide) (by decide)
      replace hps := hps.fr e3 (by decide) (by decide)
      replace hgs := hgs.fr e3 (by decide)
      replace hlf := hlf.fr e3 (by decide)
      replace hls := hls.fr e3 (by decide)
      replace hlt := hlt.fr e3 (by decide)
      replace hco := hco.fr e3 (by decide)
      replace hth := hth.fr e3 (by decide)
      replace hru := hru.fr e3 (by decide)
      replace hq := hq.fr e3 (by decide)
      replace hqm := hqm.fr e3 (by decide)
      replace E := E.trans (e3.wide (by decide))
      replace hr := hz
      clear hz
      obtain ⟨fl, hfl⟩ := hps.ro
      refine V_call_a (runV2 dX2_appealCase_171 ce_Jx4a65c_set_bcc79 rfl ml_X2_203 im_Jx4a65c_set_bcc79 se_Jx4a65c_set_bcc79 hfl ⟨_, rfl, rfl⟩ (Nat.le_of_ble_eq_true rfl)) (by omega) (by omega) (by omega) (c_plset (x := (cMt (y), cPc (y))) hps c_127 c_142 ⟨mq, hr, hqm⟩ (by decide) fun dropped H4 g4 hnew e4 => ?_)
      replace ho := ho.fr e4 (by decide)
      replace hbal := hbal.fr e4 (by decide)
      replace hten := hten.fr e4 (by decide)
      replace hcs := hcs.fr e4 (by decide) (by decide)
      replace hps := hnew
      clear hnew
      replace hgs := hgs.fr e4 (by decide)
      replace hlf := hlf.fr e4 (by decide)
      replace hls := hls.fr e4 (by decide)
      replace hlt := hlt.fr e4 (by decide)
      replace hco := hco.fr e4 (by decide)
      replace hth := hth.fr e4 (by decide)
      replace hru := hru.fr e4 (by decide)
      replace hq := hq.fr e4 (by decide)
      replace hqm := hqm.fr e4 (by decide)
      replace hr := hr.fr e4 (by decide)
      replace E := E.trans (e4.wide (by decide))
      refine V_pop dX2_appealCase_174 rfl ?_
      exact c_appC3  pos nr old bal ten cs (ps.set (cAa (y)).toNatClampNeg (cMt (y), cPc (y))) n ch td nx gs lf ls lt y H4 g4 (show MS G H4 g4 10 a (bal, ten, cs, ps.set (cAa (y)).toNatClampNeg (cMt (y), cPc (y)), n, ch, td, nx) from ⟨hbl, htl, b, k0, u, v, ho, hbal, hten, hcs, hps⟩) hgs hlf hls hlt hco hth hru hq hqm hnr E hp0 hp1 (by omega) (by omega) (by rw [appC2, if_neg c_127, if_neg c_142] at kk; exact kk)
set_option maxHeartbeats 1000000 in
set_option maxRecDepth 100000 in
theorem c_appC1 {G : GT} {X : String → Heap → Prop} {H0 : Heap} {g0 : Nat → Nat} {c s : Nat} {a : Nat} {o : Nat} {th p p2 p3 : Nat} {ru qf qs qt : Nat} {x : Int32} {q mq : Nat} {F : Int32 → Heap → Prop} : ∀ (pos : Int32) (nr : Int32) (bal : List Int32) (ten : List Int32) (cs : List CaseC) (ps : List PrecC) (n : Int32) (ch : Int32) (td : Int32) (nx : Int32) (gs : List Int32) (lf : List Int32) (ls : List Int32) (lt : List Int32) (y : CaseC) (H : Heap) (g : Nat → Nat), MS G H g 10 a (bal, ten, cs, ps, n, ch, td, nx) → Ja G H g 21 p 0 8 gs → Ja G H g 24 qf 1 8 lf → Ja G H g 25 qs 1 8 ls → Ja G H g 26 qt 0 81 lt → Rz G H g o 6 [.ref th, .ref ru] → Rz G H g th 14 [.ref p, .ref p2, .ref p3] → Rz G H g ru 10 [.ref qf, .ref qs, .ref qt] → Ob G H g 15 q 5 (cFs y mq) → Sz G H g mq (cMt y) → nrC y → Ext G [10, 11, 12, 13, 14, 15, 16, 21, 24, 25, 26] H0 g0 H g → ¬ pos < 0 → ¬ nI cs.length ≤ pos → 1 ≤ c → 2 ≤ s → (∀ (H1 : Heap) (g1 : Nat → Nat), MS G H1 g1 10 a ((appC1 x pos nr bal ten cs ps n ch td nx gs lf ls lt y).2.1, (appC1 x pos nr bal ten cs ps n ch td nx gs lf ls lt y).2.2.1, (appC1 x pos nr bal ten cs ps n ch td nx gs lf ls lt y).2.2.2.1, (appC1 x pos nr bal ten cs ps n ch td nx gs lf ls lt y).2.2.2.2.1, (appC1 x pos nr bal ten cs ps n ch td nx gs lf ls lt y).2.2.2.2.2.1, (appC1 x pos nr bal ten cs ps n ch td nx gs lf ls lt y).2.2.2.2.2.2.1, (appC1 x pos nr bal ten cs ps n ch td nx gs lf ls lt y).2.2.2.2.2.2.2.1, (appC1 x pos nr bal ten cs ps n ch td nx gs lf ls lt y).2.2.2.2.2.2.2.2.1) → Ja G H1 g1 21 p 0 8 (appC1 x pos nr bal ten cs ps n ch td nx gs lf ls lt y).2.2.2.2.2.2.2.2.2.1 → Ja G H1 g1 24 qf 1 8 (appC1 x pos nr bal ten cs ps n ch td nx gs lf ls lt y).2.2.2.2.2.2.2.2.2.2.1 → Ja G H1 g1 25 qs 1 8 (appC1 x pos nr bal ten cs ps n ch td nx gs lf ls lt y).2.2.2.2.2.2.2.2.2.2.2.1 → Ja G H1 g1 26 qt 0 81 (appC1 x pos nr bal ten cs ps n ch td nx gs lf ls lt y).2.2.2.2.2.2.2.2.2.2.2.2 → Ext G [10, 11, 12, 13, 14, 15, 16, 21, 24, 25, 26] H0 g0 H1 g1 → F ((appC1 x pos nr bal ten cs ps n ch td nx gs lf ls lt y).1) H1) → V G kX2_appealCase 8 c s (qi F) X 83 [some (.ref o), some (.ref a), some (.int x), some (.int pos), some (.ref q), some (.int nr), none] [] H := by
  intro pos nr bal ten cs ps n ch td nx gs lf ls lt y H g h hgs hlf hls hlt hco hth hru hq hqm hnr E hp0 hp1 hc hs kk
  obtain ⟨hbl, htl, b, k0, u, v, ho, hbal, hten, hcs, hps⟩ := MS10 h
  clear h
  refine V_iload_5 dX2_appealCase_83 ?_
  refine V_iconst (v := (-1)) dX2_appealCase_85 rfl ?_
  refine V_icmp_ne (tgt := 92) dX2_appealCase_86 (by decide) (fun c_86 => ?_) (fun c_86 => ?_)
  · refine V_aload_4 dX2_appealCase_92 ?_
    refine V_getf dX2_appealCase_94 fl_X2_207 hq.ro rfl ?_
    refine V_istore_6 dX2_appealCase_97 rfl ?_
    refine V_aload_4 dX2_appealCase_99 ?_
    refine V_iconst (v := 1) dX2_appealCase_101 rfl ?_
    refine V_put dX2_appealCase_102 fp_X2_appealCase_223 hq (by decide) ⟨rfl, rfl⟩ (Nat.le_of_ble_eq_true rfl) rfl fun H1 hnew e1 z1 => ?_
    replace ho := ho.fr e1 (by decide)
    replace hbal := hbal.fr e1 (by decide)
    replace hten := hten.fr e1 (by decide)
    replace hcs := hcs.fr e1 (by decide) (by decide)
    replace hps := hps.fr e1 (by decide) (by decide)
    replace hgs := hgs.fr e1 (by decide)
    replace hlf := hlf.fr e1 (by decide)
    replace hls := hls.fr e1 (by decide)
    replace hlt := hlt.fr e1 (by decide)
    replace hco := hco.fr e1 (by decide)
    replace hth := hth.fr e1 (by decide)
    replace hru := hru.fr e1 (by decide)
    replace hqm := hqm.fr e1 (by decide)
    replace E := E.trans (e1.wide (by decide))
    replace hq : Ob G H1 g 15 q 5 (cFs (c13 y 1) mq) := hnew
    clear hnew
    refine V_aload_4 dX2_appealCase_105 ?_
    refine V_aload_0 dX2_appealCase_107 ?_
    refine V_aload_1 dX2_appealCase_108 ?_
    refine V_iload_5 dX2_appealCase_109 ?_
    refine V_aload_4 dX2_appealCase_111 ?_
    refine V_getf dX2_appealCase_113 fl_X2_184 hq.ro rfl ?_
    have h : MS G H1 g 10 a (bal, ten, cs, ps, n, ch, td, nx) := ⟨hbl, htl, b, k0, u, v, ho, hbal, hten, hcs, hps⟩
    refine V_call_i (runV3 dX2_appealCase_116 ce_X2_percentageBy rfl ml_X2_192 im_X2_percentageBy se_X2_percentageBy hco.1 ⟨_, rfl, rfl⟩ (Nat.le_of_ble_eq_true rfl)) (by omega) (by omega) (by omega) (c_percB (x := nr) (Or.inr rfl) hlf hls hlt h hco hru hqm fun H2 g2 hlf_ hls_ hlt_ e2 => ?_)
    clear h
    replace ho := ho.fr e2 (by decide)
    replace hbal := hbal.fr e2 (by decide)
    replace hten := hten.fr e2 (by decide)
    replace hcs := hcs.fr e2 (by decide) (by decide)
    replace hps := hps.fr e2 (by decide) (by decide)
    replace hgs := hgs.fr e2 (by decide)
    replace hco := hco.fr e2 (by decide)
    replace hth := hth.fr e2 (by decide)
    replace hru := hru.fr e2 (by decide)
    replace hq := hq.fr e2 (by decide)
    replace hqm := hqm.fr e2 (by decide)
    replace E := E.trans (e2.wide (by decide))
    replace hlf : Ja G H2 g2 24 qf 1 8 ((percB ps nr (cMt y) lf ls lt).2.1) := hlf_
    clear hlf_
    replace hls : Ja G H2 g2 25 qs 1 8 ((percB ps nr (cMt y) lf ls lt).2.2.1) := hls_
    clear hls_
    replace hlt : Ja G H2 g2 26 qt 0 81 ((percB ps nr (cMt y) lf ls lt).2.2.2) := hlt_
    clear hlt_
    have h : MS G H2 g2 10 a (bal, ten, cs, ps, n, ch, td, nx) := ⟨hbl, htl, b, k0, u, v, ho, hbal, hten, hcs, hps⟩
    refine V_call_v (runV1 dX2_appealCase_119 ce_X1_ruleAt rfl ml_X2_195 im_X1_ruleAt se_X1_ruleAt hq.ro ⟨_, rfl, rfl⟩ (Nat.le_of_ble_eq_true rfl)) (by omega) (by omega) (by omega) (c_ruleA (y := ((percB ps nr (cMt y) lf ls lt).1)) hq fun H3 g3 hnew e3 => ?_)
    clear h
    replace ho := ho.fr e3 (by decide)
    replace hbal := hbal.fr e3 (by decide)
    replace hten := hten.fr e3 (by decide)
    replace hcs := hcs.fr e3 (by decide) (by decide)
    replace hps := hps.fr e3 (by decide) (by decide)
    replace hgs := hgs.fr e3 (by decide)
    replace hlf := hlf.fr e3 (by decide)
    replace hls := hls.fr e3 (by decide)
    replace hlt := hlt.fr e3 (by decide)
    replace hco := hco.fr e3 (by decide)
    replace hth := hth.fr e3 (by decide)
    replace hru := hru.fr e3 (by decide)
    replace hqm := hqm.fr e3 (by decide)
    replace E := E.trans (e3.wide (by decide))
    replace hq : Ob G H3 g3 15 q 5 (cFs (ruleA ((percB ps nr (cMt y) lf ls lt).1) (c13 y 1)) mq) := hnew
    clear hnew
    exact c_appC2  pos nr (cAw y) bal ten cs ps n ch td nx gs ((percB ps nr (cMt y) lf ls lt).2.1) ((percB ps nr (cMt y) lf ls lt).2.2.1) ((percB ps nr (cMt y) lf ls lt).2.2.2) (ruleA ((percB ps nr (cMt y) lf ls lt).1) (c13 y 1)) H3 g3 (show MS G H3 g3 10 a (bal, ten, cs, ps, n, ch, td, nx) from ⟨hbl, htl, b, k0, u, v, ho, hbal, hten, hcs, hps⟩) hgs hlf hls hlt hco hth hru hq hqm (nrR (nr13 hnr ⟨rfl, rfl⟩)) E hp0 hp1 (by omega) (by omega) (by rw [appC1, if_neg c_86] at kk; exact kk)
  · refine V_bipush (v := (-5)) dX2_appealCase_89 (by decide) ?_
    exact V_reti dX2_appealCase_91 rfl rfl (by rw [appC1, if_pos c_86] at kk; exact kk H g (show MS G H g 10 a (bal, ten, cs, ps, n, ch, td, nx) from ⟨hbl, htl, b, k0, u, v, ho, hbal, hten, hcs, hps⟩) hgs hlf hls hlt E)
set_option maxHeartbeats 1000000 in
set_option maxRecDepth 100000 in
theorem c_appC0 {G : GT} {X : String → Heap → Prop} {H0 : Heap} {g0 : Nat → Nat} {c s : Nat} {a : Nat} {o : Nat} {th p p2 p3 : Nat} {ru qf qs qt : Nat} {x : Int32} {q mq : Nat} {F : Int32 → Heap → Prop} : ∀ (pos : Int32) (bal : List Int32) (ten : List Int32) (cs : List CaseC) (ps : List PrecC) (n : Int32) (ch : Int32) (td : Int32) (nx : Int32) (gs : List Int32) (lf : List Int32) (ls : List Int32) (lt : List Int32) (y : CaseC) (H : Heap) (g : Nat → Nat), MS G H g 10 a (bal, ten, cs, ps, n, ch, td, nx) → Ja G H g 21 p 0 8 gs → Ja G H g 24 qf 1 8 lf → Ja G H g 25 qs 1 8 ls → Ja G H g 26 qt 0 81 lt → Rz G H g o 6 [.ref th, .ref ru] → Rz G H g th 14 [.ref p, .ref p2, .ref p3] → Rz G H g ru 10 [.ref qf, .ref qs, .ref qt] → Ob G H g 15 q 5 (cFs y mq) → Sz G H g mq (cMt y) → nrC y → Ext G [10, 11, 12, 13, 14, 15, 16, 21, 24, 25, 26] H0 g0 H g → ¬ pos < 0 → ¬ nI cs.length ≤ pos → 1 ≤ c → 2 ≤ s → (∀ (H1 : Heap) (g1 : Nat → Nat), MS G H1 g1 10 a ((appC0 x pos bal ten cs ps n ch td nx gs lf ls lt y).2.1, (appC0 x pos bal ten cs ps n ch td nx gs lf ls lt y).2.2.1, (appC0 x pos bal ten cs ps n ch td nx gs lf ls lt y).2.2.2.1, (appC0 x pos bal ten cs ps n ch td nx gs lf ls lt y).2.2.2.2.1, (appC0 x pos bal ten cs ps n ch td nx gs lf ls lt y).2.2.2.2.2.1, (appC0 x pos bal ten cs ps n ch td nx gs lf ls lt y).2.2.2.2.2.2.1, (appC0 x pos bal ten cs ps n ch td nx gs lf ls lt y).2.2.2.2.2.2.2.1, (appC0 x pos bal ten cs ps n ch td nx gs lf ls lt y).2.2.2.2.2.2.2.2.1) → Ja G H1 g1 21 p 0 8 (appC0 x pos bal ten cs ps n ch td nx gs lf ls lt y).2.2.2.2.2.2.2.2.2.1 → Ja G H1 g1 24 qf 1 8 (appC0 x pos bal ten cs ps n ch td nx gs lf ls lt y).2.2.2.2.2.2.2.2.2.2.1 → Ja G H1 g1 25 qs 1 8 (appC0 x pos bal ten cs ps n ch td nx gs lf ls lt y).2.2.2.2.2.2.2.2.2.2.2.1 → Ja G H1 g1 26 qt 0 81 (appC0 x pos bal ten cs ps n ch td nx gs lf ls lt y).2.2.2.2.2.2.2.2.2.2.2.2 → Ext G [10, 11, 12, 13, 14, 15, 16, 21, 24, 25, 26] H0 g0 H1 g1 → F ((appC0 x pos bal ten cs ps n ch td nx gs lf ls lt y).1) H1) → V G kX2_appealCase 8 c s (qi F) X 40 [some (.ref o), some (.ref a), some (.int x), some (.int pos), some (.ref q), none, none] [] H := by
  intro pos bal ten cs ps n ch td nx gs lf ls lt y H g h hgs hlf hls hlt hco hth hru hq hqm hnr E hp0 hp1 hc hs kk
  obtain ⟨hbl, htl, b, k0, u, v, ho, hbal, hten, hcs, hps⟩ := MS10 h
  clear h
  refine V_aload_4 dX2_appealCase_40 ?_
  refine V_getf dX2_appealCase_42 fl_X2_158 hq.ro rfl ?_
  refine V_bipush (v := 114) dX2_appealCase_45 (by decide) ?_
  refine V_icmp_ne (tgt := 58) dX2_appealCase_47 (by decide) (fun c_47 => ?_) (fun c_47 => ?_)
  · refine V_bipush (v := (-3)) dX2_appealCase_58 (by decide) ?_
    exact V_reti dX2_appealCase_60 rfl rfl (by rw [appC0, if_neg c_47] at kk; exact kk H g (show MS G H g 10 a (bal, ten, cs, ps, n, ch, td, nx) from ⟨hbl, htl, b, k0, u, v, ho, hbal, hten, hcs, hps⟩) hgs hlf hls hlt E)
  · refine V_aload_4 dX2_appealCase_50 ?_
    refine V_getf dX2_appealCase_52 fl_X2_223 hq.ro rfl ?_
    refine V_if_eq (tgt := 61) dX2_appealCase_55 (by decide) (fun c_55 => ?_) (fun c_55 => ?_)
    · refine V_aload_0 dX2_appealCase_61 ?_
      refine V_aload_1 dX2_appealCase_62 ?_
      refine V_aload_4 dX2_appealCase_63 ?_
      refine V_getf dX2_appealCase_65 fl_X2_184 hq.ro rfl ?_
      refine V_aload_4 dX2_appealCase_68 ?_
      refine V_getf dX2_appealCase_70 fl_X2_189 hq.ro rfl ?_
      refine V_aload_4 dX2_appealCase_73 ?_
      refine V_getf dX2_appealCase_75 fl_X2_217 hq.ro rfl ?_
      have h : MS G H g 10 a (bal, ten, cs, ps, n, ch, td, nx) := ⟨hbl, htl, b, k0, u, v, ho, hbal, hten, hcs, hps⟩
      refine V_call_i (runV4 dX2_appealCase_78 ce_X2_nearestOf rfl ml_X2_185 im_X2_nearestOf se_X2_nearestOf hco.1 ⟨_, rfl, rfl⟩ (Nat.le_of_ble_eq_true rfl)) (by omega) (by omega) (by omega) (c_near (x := (cDb y)) (y := (cAa y)) (Or.inr rfl) hlf hls hlt h hco hru hqm fun H1 g1 hlf_ hls_ hlt_ e1 => ?_)
      clear h
      replace ho := ho.fr e1 (by decide)
      replace hbal := hbal.fr e1 (by decide)
      replace hten := hten.fr e1 (by decide)
      replace hcs := hcs.fr e1 (by decide) (by decide)
      replace hps := hps.fr e1 (by decide) (by decide)
      replace hgs := hgs.fr e1 (by decide)
      replace hco := hco.fr e1 (by decide)
      replace hth := hth.fr e1 (by decide)
      replace hru := hru.fr e1 (by decide)
      replace hq := hq.fr e1 (by decide)
      replace hqm := hqm.fr e1 (by decide)
      replace E := E.trans (e1.wide (by decide))
      replace hlf : Ja G H1 g1 24 qf 1 8 ((near ps (cMt y) (cDb y) (cAa y) lf ls lt).2.1) := hlf_
      clear hlf_
      replace hls : Ja G H1 g1 25 qs 1 8 ((near ps (cMt y) (cDb y) (cAa y) lf ls lt).2.2.1) := hls_
      clear hls_
      replace hlt : Ja G H1 g1 26 qt 0 81 ((near ps (cMt y) (cDb y) (cAa y) lf ls lt).2.2.2) := hlt_
      clear hlt_
      refine V_istore_5 dX2_appealCase_81 rfl ?_
      exact c_appC1  pos ((near ps (cMt y) (cDb y) (cAa y) lf ls lt).1) bal ten cs ps n ch td nx gs ((near ps (cMt y) (cDb y) (cAa y) lf ls lt).2.1) ((near ps (cMt y) (cDb y) (cAa y) lf ls lt).2.2.1) ((near ps (cMt y) (cDb y) (cAa y) lf ls lt).2.2.2) y H1 g1 (show MS G H1 g1 10 a (bal, ten, cs, ps, n, ch, td, nx) from ⟨hbl, htl, b, k0, u, v, ho, hbal, hten, hcs, hps⟩) hgs hlf hls hlt hco hth hru hq hqm hnr E hp0 hp1 (by omega) (by omega) (by rw [appC0, if_pos c_47, if_pos c_55] at kk; exact kk)
    · refine V_bipush (v := (-3)) dX2_appealCase_58 (by decide) ?_
      exact V_reti dX2_appealCase_60 rfl rfl (by rw [appC0, if_pos c_47, if_neg c_55] at kk; exact kk H g (show MS G H g 10 a (bal, ten, cs, ps, n, ch, td, nx) from ⟨hbl, htl, b, k0, u, v, ho, hbal, hten, hcs, hps⟩) hgs hlf hls hlt E)
set_option maxHeartbeats 1000000 in
set_option maxRecDepth 100000 in
theorem c_appC {G : GT} {X : String → Heap → Prop} {H : Heap} {g : Nat → Nat} {a : Nat} {o : Nat} {th p p2 p3 : Nat} {ru qf qs qt : Nat} {x : Int32} {bal : List Int32} {ten : List Int32} {cs : List CaseC} {ps : List PrecC} {n : Int32} {ch : Int32} {td : Int32} {nx : Int32} {gs : List Int32} {lf : List Int32} {ls : List Int32} {lt : List Int32} (h : MS G H g 10 a (bal, ten, cs, ps, n, ch, td, nx)) (hgs : Ja G H g 21 p 0 8 gs) (hlf : Ja G H g 24 qf 1 8 lf) (hls : Ja G H g 25 qs 1 8 ls) (hlt : Ja G H g 26 qt 0 81 lt) (hco : Rz G H g o 6 [.ref th, .ref ru]) (hth : Rz G H g th 14 [.ref p, .ref p2, .ref p3]) (hru : Rz G H g ru 10 [.ref qf, .ref qs, .ref qt]) {F : Int32 → Heap → Prop} (kk : ∀ (H1 : Heap) (g1 : Nat → Nat), MS G H1 g1 10 a ((appC x bal ten cs ps n ch td nx gs lf ls lt).2.1, (appC x bal ten cs ps n ch td nx gs lf ls lt).2.2.1, (appC x bal ten cs ps n ch td nx gs lf ls lt).2.2.2.1, (appC x bal ten cs ps n ch td nx gs lf ls lt).2.2.2.2.1, (appC x bal ten cs ps n ch td nx gs lf ls lt).2.2.2.2.2.1, (appC x bal ten cs ps n ch td nx gs lf ls lt).2.2.2.2.2.2.1, (appC x bal ten cs ps n ch td nx gs lf ls lt).2.2.2.2.2.2.2.1, (appC x bal ten cs ps n ch td nx gs lf ls lt).2.2.2.2.2.2.2.2.1) → Ja G H1 g1 21 p 0 8 (appC x bal ten cs ps n ch td nx gs lf ls lt).2.2.2.2.2.2.2.2.2.1 → Ja G H1 g1 24 qf 1 8 (appC x bal ten cs ps n ch td nx gs lf ls lt).2.2.2.2.2.2.2.2.2.2.1 → Ja G H1 g1 25 qs 1 8 (appC x bal ten cs ps n ch td nx gs lf ls lt).2.2.2.2.2.2.2.2.2.2.2.1 → Ja G H1 g1 26 qt 0 81 (appC x bal ten cs ps n ch td nx gs lf ls lt).2.2.2.2.2.2.2.2.2.2.2.2 → Ext G [10, 11, 12, 13, 14, 15, 16, 21, 24, 25, 26] H g H1 g1 → F ((appC x bal ten cs ps n ch td nx gs lf ls lt).1) H1) : Call G kX2_appealCase 8 2 16 [.ref o, .ref a, .int x] H (qi F) X := by
  have E : Ext G [10, 11, 12, 13, 14, 15, 16, 21, 24, 25, 26] H g H g := Ext.rf
  obtain ⟨hbl, htl, b, k0, u, v, ho, hbal, hten, hcs, hps⟩ := MS10 h
  clear h
  refine startL (L0 := [some (.ref o), some (.ref a), some (.int x), none, none, none, none]) rfl rfl pl_X2_appealCase (Nat.le_of_ble_eq_true rfl) ?_
  refine V_aload_1 dX2_appealCase_0 ?_
  refine V_iload_2 dX2_appealCase_1 ?_
  have h : MS G H g 10 a (bal, ten, cs, ps, n, ch, td, nx) := ⟨hbl, htl, b, k0, u, v, ho, hbal, hten, hcs, hps⟩
  refine V_call_i (runV1 dX2_appealCase_2 ce_X9_positionOf rfl ml_X2_147 im_X9_positionOf se_X9_positionOf ho.ro ⟨_, rfl, rfl⟩ (Nat.le_of_ble_eq_true rfl)) (by omega) (by omega) (by omega) (c_posOf h (x := x) ?_)
  refine V_istore_3 dX2_appealCase_5 rfl ?_
  refine V_iload_3 dX2_appealCase_6 ?_
  refine V_if_lt (tgt := 21) dX2_appealCase_7 (by decide) (fun c_7 => ?_) (fun c_7 => ?_)
  · refine V_bipush (v := (-4)) dX2_appealCase_21 (by decide) ?_
    exact V_reti dX2_appealCase_23 rfl rfl (by rw [appC, if_pos c_7] at kk; exact kk H g (show MS G H g 10 a (bal, ten, cs, ps, n, ch, td, nx) from ⟨hbl, htl, b, k0, u, v, ho, hbal, hten, hcs, hps⟩) hgs hlf hls hlt E)
  · refine V_iload_3 dX2_appealCase_10 ?_
    refine V_aload_1 dX2_appealCase_11 ?_
    refine V_getf dX2_appealCase_12 fl_X2_136 ho.ro rfl ?_
    obtain ⟨fu, hu⟩ := hcs.ro
    refine V_call_i (runV0 dX2_appealCase_15 ce_Jx4a65c_size_8abf5 rfl ml_X2_116 im_Jx4a65c_size_8abf5 se_Jx4a65c_size_8abf5 hu ⟨_, rfl, rfl⟩ (Nat.le_of_ble_eq_true rfl)) (by omega) (by omega) (by omega) (c_clsize hcs ?_)
    refine V_icmp_lt (tgt := 24) dX2_appealCase_18 (by decide) (fun c_18 => ?_) (fun c_18 => ?_)
    · refine V_aload_1 dX2_appealCase_24 ?_
      refine V_getf dX2_appealCase_25 fl_X2_136 ho.ro rfl ?_
      refine V_iload_3 dX2_appealCase_28 ?_
      have hpos := Int32.not_le.mpr c_18
      obtain ⟨fu, hu⟩ := hcs.ro
      refine V_call_a (runV1 dX2_appealCase_29 ce_Jx4a65c_get_915e3 rfl ml_X2_150 im_Jx4a65c_get_915e3 se_Jx4a65c_get_915e3 hu ⟨_, rfl, rfl⟩ (Nat.le_of_ble_eq_true rfl)) (by omega) (by omega) (by omega) (c_clget hcs c_7 (Int32.not_le.mpr c_18) fun r hrx => ?_)
      obtain ⟨mr, hr, hrm⟩ := hrx.md
      refine V_castS (ci := 5) dX2_appealCase_32 rfl ck_X2_142 hr.1 ?_
      refine V_call_a (runV0 dX2_appealCase_35 ce_X1_copy rfl ml_X2_154 im_X1_copy se_X1_copy hr.1 ⟨_, rfl, rfl⟩ (Nat.le_of_ble_eq_true rfl)) (by omega) (by omega) (by omega) (c_caseCopy hrx fun q mq H1 g1 hq hqm e1 => ?_)
      have hnr : nrC (gC cs ((posOf cs x))) := hrx.nr
      clear hr hrm hrx
      replace ho := ho.fr e1 (by decide)
      replace hbal := hbal.fr e1 (by decide)
      replace hten := hten.fr e1 (by decide)
      replace hcs := hcs.fr e1 (by decide) (by decide)
      replace hps := hps.fr e1 (by decide) (by decide)
      replace hgs := hgs.fr e1 (by decide)
      replace hlf := hlf.fr e1 (by decide)
      replace hls := hls.fr e1 (by decide)
      replace hlt := hlt.fr e1 (by decide)
      replace hco := hco.fr e1 (by decide)
      replace hth := hth.fr e1 (by decide)
      replace hru := hru.fr e1 (by decide)
      replace E := E.trans (e1.wide (by decide))
      refine V_astore_4 dX2_appealCase_38 rfl ?_
      exact c_appC0  (posOf cs x) bal ten cs ps n ch td nx gs lf ls lt (gC cs ((posOf cs x))) H1 g1 (show MS G H1 g1 10 a (bal, ten, cs, ps, n, ch, td, nx) from ⟨hbl, htl, b, k0, u, v, ho, hbal, hten, hcs, hps⟩) hgs hlf hls hlt hco hth hru hq hqm hnr E c_7 hpos (by omega) (by omega) (by rw [appC, if_neg c_7, if_pos c_18] at kk; exact kk)
    · refine V_bipush (v := (-4)) dX2_appealCase_21 (by decide) ?_
      exact V_reti dX2_appealCase_23 rfl rfl (by rw [appC, if_neg c_7, if_neg c_18] at kk; exact kk H g (show MS G H g 10 a (bal, ten, cs, ps, n, ch, td, nx) from ⟨hbl, htl, b, k0, u, v, ho, hbal, hten, hcs, hps⟩) hgs hlf hls hlt E)
def appB (S : StC) (x : Int32) (gs lf ls lt : List Int32) := appC x S.1 S.2.1 S.2.2.1 S.2.2.2.1 S.2.2.2.2.1 S.2.2.2.2.2.1 S.2.2.2.2.2.2.1 S.2.2.2.2.2.2.2 gs lf ls lt

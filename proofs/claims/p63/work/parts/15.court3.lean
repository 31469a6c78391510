def withC (bal : List Int32) (ten : List Int32) (cs : List CaseC) (ps : List PrecC) (n : Int32) (ch : Int32) (td : Int32) (nx : Int32) (x : Int32) : Int32 × StC := if (posOf cs x) < 0 then ((-4), (bal, ten, cs, ps, n, ch, td, nx)) else (if (posOf cs x) < (nI cs.length) then (if (cSd (gC cs (posOf cs x))) = 102 then (cCl (gC cs (posOf cs x)), (bal, ten, cs.eraseIdx ((posOf cs x)).toNatClampNeg, ps, n, ch, td, nx)) else ((-3), (bal, ten, cs, ps, n, ch, td, nx))) else ((-4), (bal, ten, cs, ps, n, ch, td, nx)))
set_option maxHeartbeats 4000000 in
set_option maxRecDepth 100000 in
theorem c_withC {G : GT} {H : Heap} {g : Nat → Nat} {a : Nat} {X : String → Heap → Prop} {bal ten : List Int32} {cs : List CaseC} {ps : List PrecC} {n ch td nx : Int32} (h : MS G H g 10 a (bal, ten, cs, ps, n, ch, td, nx)) {o : Nat} {x : Int32} {F : Int32 → Heap → Prop} (kk : ∀ (H1 : Heap) (g1 : Nat → Nat), MS G H1 g1 10 a (withC bal ten cs ps n ch td nx x).2 → Ext G [10, 11, 12, 13, 14, 15, 16] H g H1 g1 → F (withC bal ten cs ps n ch td nx x).1 H1) : Call G kX2_withdrawCase 5 0 0 [.ref o, .ref a, .int x] H (qi F) X := by
  obtain ⟨hbl, htl, b, k0, u, v, ho, hbal, hten, hcs, hps⟩ := MS10 h
  have E : Ext G [10, 11, 12, 13, 14, 15, 16] H g H g := Ext.rf
  refine startL (L0 := [some (.ref o), some (.ref a), some (.int x), none, none]) rfl rfl pl_X2_withdrawCase (Nat.le_of_ble_eq_true rfl) ?_
  refine V_aload_1 dX2_withdrawCase_0 ?_
  refine V_iload_2 dX2_withdrawCase_1 ?_
  have h : MS G H g 10 a (bal, ten, cs, ps, n, ch, td, nx) := ⟨hbl, htl, b, k0, u, v, ho, hbal, hten, hcs, hps⟩
  refine V_call_i (runV1 dX2_withdrawCase_2 ce_X9_positionOf rfl ml_X2_147 im_X9_positionOf se_X9_positionOf ho.ro ⟨_, rfl, rfl⟩ (Nat.le_of_ble_eq_true rfl)) (by omega) (by omega) (by omega) (c_posOf h (x := x) ?_)
  refine V_istore_3 dX2_withdrawCase_5 rfl ?_
  refine V_iload_3 dX2_withdrawCase_6 ?_
  refine V_if_lt (tgt := 21) dX2_withdrawCase_7 (by decide) (fun c_7 => ?_) (fun c_7 => ?_)
  · refine V_bipush (v := (-4)) dX2_withdrawCase_21 (by decide) ?_
    exact V_reti dX2_withdrawCase_23 rfl rfl (by rw [withC, if_pos c_7] at kk; exact kk H g ⟨hbl, htl, b, k0, u, v, ho, hbal, hten, hcs, hps⟩ E)
  · refine V_iload_3 dX2_withdrawCase_10 ?_
    refine V_aload_1 dX2_withdrawCase_11 ?_
    refine V_getf dX2_withdrawCase_12 fl_X2_136 ho.ro rfl ?_
    obtain ⟨fu, hu⟩ := hcs.ro
    refine V_call_i (runV0 dX2_withdrawCase_15 ce_Jx4a65c_size_8abf5 rfl ml_X2_116 im_Jx4a65c_size_8abf5 se_Jx4a65c_size_8abf5 hu ⟨_, rfl, rfl⟩ (Nat.le_of_ble_eq_true rfl)) (by omega) (by omega) (by omega) (c_clsize hcs ?_)
    refine V_icmp_lt (tgt := 24) dX2_withdrawCase_18 (by decide) (fun c_18 => ?_) (fun c_18 => ?_)
    · refine V_aload_1 dX2_withdrawCase_24 ?_
      refine V_getf dX2_withdrawCase_25 fl_X2_136 ho.ro rfl ?_
      refine V_iload_3 dX2_withdrawCase_28 ?_
      obtain ⟨fu, hu⟩ := hcs.ro
      refine V_call_a (runV1 dX2_withdrawCase_29 ce_Jx4a65c_get_915e3 rfl ml_X2_150 im_Jx4a65c_get_915e3 se_Jx4a65c_get_915e3 hu ⟨_, rfl, rfl⟩ (Nat.le_of_ble_eq_true rfl)) (by omega) (by omega) (by omega) (c_clget hcs c_7 (Int32.not_le.mpr c_18) fun r hrx => ?_)
      obtain ⟨mr, hr, hrm⟩ := hrx.md
      refine V_castS (ci := 5) dX2_withdrawCase_32 rfl ck_X2_142 hr.1 ?_
      refine V_astore_4 dX2_withdrawCase_35 rfl ?_
      refine V_aload_4 dX2_withdrawCase_37 ?_
      refine V_getf dX2_withdrawCase_39 fl_X2_158 hr.1 rfl ?_
      refine V_bipush (v := 102) dX2_withdrawCase_42 (by decide) ?_
      refine V_icmp_eq (tgt := 50) dX2_withdrawCase_44 (by decide) (fun c_44 => ?_) (fun c_44 => ?_)
      · refine V_aload_1 dX2_withdrawCase_50 ?_
        refine V_getf dX2_withdrawCase_51 fl_X2_136 ho.ro rfl ?_
        refine V_iload_3 dX2_withdrawCase_54 ?_
        obtain ⟨fl, hfl⟩ := hcs.ro
        refine V_call_a (runV1 dX2_withdrawCase_55 ce_Jx4a65c_remove_915e3 rfl ml_X2_248 im_Jx4a65c_remove_915e3 se_Jx4a65c_remove_915e3 hfl ⟨_, rfl, rfl⟩ (Nat.le_of_ble_eq_true rfl)) (by omega) (by omega) (by omega) (c_clrem hcs c_7 (Int32.not_le.mpr c_18) (by decide) fun dropped H1 g1 hnew e1 => ?_)
        replace hbal := hbal.fr e1 (by decide)
        replace hten := hten.fr e1 (by decide)
        replace hps := hps.fr e1 (by decide) (by decide)
        replace ho := ho.fr e1 (by decide)
        replace hr := hr.fr e1 (by decide)
        replace hrm := hrm.fr e1 (by decide)
        replace hrx := hrx.fr e1 (by decide)
        replace E := E.trans (e1.wide (by decide))
        replace hcs := hnew
        clear hnew
        refine V_pop dX2_withdrawCase_58 rfl ?_
        refine V_aload_4 dX2_withdrawCase_59 ?_
        refine V_getf dX2_withdrawCase_61 fl_X2_251 hr.1 rfl ?_
        exact V_reti dX2_withdrawCase_64 rfl rfl (by rw [withC, if_neg c_7, if_pos c_18, if_pos c_44] at kk; exact kk H1 g1 ⟨hbl, htl, b, k0, u, v, ho, hbal, hten, hcs, hps⟩ E)
      · refine V_bipush (v := (-3)) dX2_withdrawCase_47 (by decide) ?_
        exact V_reti dX2_withdrawCase_49 rfl rfl (by rw [withC, if_neg c_7, if_pos c_18, if_neg c_44] at kk; exact kk H g ⟨hbl, htl, b, k0, u, v, ho, hbal, hten, hcs, hps⟩ E)
    · refine V_bipush (v := (-4)) dX2_withdrawCase_21 (by decide) ?_
      exact V_reti dX2_withdrawCase_23 rfl rfl (by rw [withC, if_neg c_7, if_neg c_18] at kk; exact kk H g ⟨hbl, htl, b, k0, u, v, ho, hbal, hten, hcs, hps⟩ E)
def withCB (S : StC) (x : Int32) := withC S.1 S.2.1 S.2.2.1 S.2.2.2.1 S.2.2.2.2.1 S.2.2.2.2.2.1 S.2.2.2.2.2.2.1 S.2.2.2.2.2.2.2 x
def closeC (bal : List Int32) (ten : List Int32) (cs : List CaseC) (ps : List PrecC) (n : Int32) (ch : Int32) (td : Int32) (nx : Int32) (x : Int32) : Int32 × StC := if (posOf cs x) < 0 then ((-4), (bal, ten, cs, ps, n, ch, td, nx)) else (if (posOf cs x) < (nI cs.length) then (if (cSd (gC cs (posOf cs x))) = 102 then ((-3), (bal, ten, cs, ps, n, ch, td, nx)) else (cAw (gC cs (posOf cs x)), (bal, ten, cs.eraseIdx ((posOf cs x)).toNatClampNeg, ps, n, ch, td, nx))) else ((-4), (bal, ten, cs, ps, n, ch, td, nx)))
set_option maxHeartbeats 4000000 in
set_option maxRecDepth 100000 in
theorem c_closeC {G : GT} {H : Heap} {g : Nat → Nat} {a : Nat} {X : String → Heap → Prop} {bal ten : List Int32} {cs : List CaseC} {ps : List PrecC} {n ch td nx : Int32} (h : MS G H g 10 a (bal, ten, cs, ps, n, ch, td, nx)) {o : Nat} {x : Int32} {F : Int32 → Heap → Prop} (kk : ∀ (H1 : Heap) (g1 : Nat → Nat), MS G H1 g1 10 a (closeC bal ten cs ps n ch td nx x).2 → Ext G [10, 11, 12, 13, 14, 15, 16] H g H1 g1 → F (closeC bal ten cs ps n ch td nx x).1 H1) : Call G kX2_closeCase 5 0 0 [.ref o, .ref a, .int x] H (qi F) X := by
  obtain ⟨hbl, htl, b, k0, u, v, ho, hbal, hten, hcs, hps⟩ := MS10 h
  have E : Ext G [10, 11, 12, 13, 14, 15, 16] H g H g := Ext.rf
  refine startL (L0 := [some (.ref o), some (.ref a), some (.int x), none, none]) rfl rfl pl_X2_closeCase (Nat.le_of_ble_eq_true rfl) ?_
  refine V_aload_1 dX2_closeCase_0 ?_
  refine V_iload_2 dX2_closeCase_1 ?_
  have h : MS G H g 10 a (bal, ten, cs, ps, n, ch, td, nx) := ⟨hbl, htl, b, k0, u, v, ho, hbal, hten, hcs, hps⟩
  refine V_call_i (runV1 dX2_closeCase_2 ce_X9_positionOf rfl ml_X2_147 im_X9_positionOf se_X9_positionOf ho.ro ⟨_, rfl, rfl⟩ (Nat.le_of_ble_eq_true rfl)) (by omega) (by omega) (by omega) (c_posOf h (x := x) ?_)
  refine V_istore_3 dX2_closeCase_5 rfl ?_
  refine V_iload_3 dX2_closeCase_6 ?_
  refine V_if_lt (tgt := 21) dX2_closeCase_7 (by decide) (fun c_7 => ?_) (fun c_7 => ?_)
  · refine V_bipush (v := (-4)) dX2_closeCase_21 (by decide) ?_
    exact V_reti dX2_closeCase_23 rfl rfl (by rw [closeC, if_pos c_7] at kk; exact kk H g ⟨hbl, htl, b, k0, u, v, ho, hbal, hten, hcs, hps⟩ E)
  · refine V_iload_3 dX2_closeCase_10 ?_
    refine V_aload_1 dX2_closeCase_11 ?_
    refine V_getf dX2_closeCase_12 fl_X2_136 ho.ro rfl ?_
    obtain ⟨fu, hu⟩ := hcs.ro
    refine V_call_i (runV0 dX2_closeCase_15 ce_Jx4a65c_size_8abf5 rfl ml_X2_116 im_Jx4a65c_size_8abf5 se_Jx4a65c_size_8abf5 hu ⟨_, rfl, rfl⟩ (Nat.le_of_ble_eq_true rfl)) (by omega) (by omega) (by omega) (c_clsize hcs ?_)
    refine V_icmp_lt (tgt := 24) dX2_closeCase_18 (by decide) (fun c_18 => ?_) (fun c_18 => ?_)
    · refine V_aload_1 dX2_closeCase_24 ?_
      refine V_getf dX2_closeCase_25 fl_X2_136 ho.ro rfl ?_
      refine V_iload_3 dX2_closeCase_28 ?_
      obtain ⟨fu, hu⟩ := hcs.ro
      refine V_call_a (runV1 dX2_closeCase_29 ce_Jx4a65c_get_915e3 rfl ml_X2_150 im_Jx4a65c_get_915e3 se_Jx4a65c_get_915e3 hu ⟨_, rfl, rfl⟩ (Nat.le_of_ble_eq_true rfl)) (by omega) (by omega) (by omega) (c_clget hcs c_7 (Int32.not_le.mpr c_18) fun r hrx => ?_)
      obtain ⟨mr, hr, hrm⟩ := hrx.md
      refine V_castS (ci := 5) dX2_closeCase_32 rfl ck_X2_142 hr.1 ?_
      refine V_astore_4 dX2_closeCase_35 rfl ?_
      refine V_aload_4 dX2_closeCase_37 ?_
      refine V_getf dX2_closeCase_39 fl_X2_158 hr.1 rfl ?_
      refine V_bipush (v := 102) dX2_closeCase_42 (by decide) ?_
      refine V_icmp_ne (tgt := 50) dX2_closeCase_44 (by decide) (fun c_44 => ?_) (fun c_44 => ?_)
      · refine V_aload_1 dX2_closeCase_50 ?_
        refine V_getf dX2_closeCase_51 fl_X2_136 ho.ro rfl ?_
        refine V_iload_3 dX2_closeCase_54 ?_
        obtain ⟨fl, hfl⟩ := hcs.ro
        refine V_call_a (runV1 dX2_closeCase_55 ce_Jx4a65c_remove_915e3 rfl ml_X2_248 im_Jx4a65c_remove_915e3 se_Jx4a65c_remove_915e3 hfl ⟨_, rfl, rfl⟩ (Nat.le_of_ble_eq_true rfl)) (by omega) (by omega) (by omega) (c_clrem hcs c_7 (Int32.not_le.mpr c_18) (by decide) fun dropped H1 g1 hnew e1 => ?_)
        replace hbal := hbal.fr e1 (by decide)
        replace hten := hten.fr e1 (by decide)
        replace hps := hps.fr e1 (by decide) (by decide)
        replace ho := ho.fr e1 (by decide)
        replace hr := hr.fr e1 (by decide)
        replace hrm := hrm.fr e1 (by decide)
        replace hrx := hrx.fr e1 (by decide)
        replace E := E.trans (e1.wide (by decide))
        replace hcs := hnew
        clear hnew
        refine V_pop dX2_closeCase_58 rfl ?_
        refine V_aload_4 dX2_closeCase_59 ?_
        refine V_getf dX2_closeCase_61 fl_X2_207 hr.1 rfl ?_
        exact V_reti dX2_closeCase_64 rfl rfl (by rw [closeC, if_neg c_7, if_pos c_18, if_neg c_44] at kk; exact kk H1 g1 ⟨hbl, htl, b, k0, u, v, ho, hbal, hten, hcs, hps⟩ E)
      · refine V_bipush (v := (-3)) dX2_closeCase_47 (by decide) ?_
        exact V_reti dX2_closeCase_49 rfl rfl (by rw [closeC, if_neg c_7, if_pos c_18, if_pos c_44] at kk; exact kk H g ⟨hbl, htl, b, k0, u, v, ho, hbal, hten, hcs, hps⟩ E)
    · refine V_bipush (v := (-4)) dX2_closeCase_21 (by decide) ?_
      exact V_reti dX2_closeCase_23 rfl rfl (by rw [closeC, if_neg c_7, if_neg c_18] at kk; exact kk H g ⟨hbl, htl, b, k0, u, v, ho, hbal, hten, hcs, hps⟩ E)
def closeCB (S : StC) (x : Int32) := closeC S.1 S.2.1 S.2.2.1 S.2.2.2.1 S.2.2.2.2.1 S.2.2.2.2.2.1 S.2.2.2.2.2.2.1 S.2.2.2.2.2.2.2 x
def moveA (bal : List Int32) (ten : List Int32) (cs : List CaseC) (ps : List PrecC) (n : Int32) (ch : Int32) (td : Int32) (nx : Int32) (x : CaseC) (y : Int32) : StC := ((addCB (addCB (bal, ten, cs, ps, n, ch, td, nx) (cPl x) y) (cDf x) (-y)).1, (addCB (addCB (bal, ten, cs, ps, n, ch, td, nx) (cPl x) y) (cDf x) (-y)).2.1, (addCB (addCB (bal, ten, cs, ps, n, ch, td, nx) (cPl x) y) (cDf x) (-y)).2.2.1, (addCB (addCB (bal, ten, cs, ps, n, ch, td, nx) (cPl x) y) (cDf x) (-y)).2.2.2.1, (addCB (addCB (bal, ten, cs, ps, n, ch, td, nx) (cPl x) y) (cDf x) (-y)).2.2.2.2.1, (addCB (addCB (bal, ten, cs, ps, n, ch, td, nx) (cPl x) y) (cDf x) (-y)).2.2.2.2.2.1, (addCB (addCB (bal, ten, cs, ps, n, ch, td, nx) (cPl x) y) (cDf x) (-y)).2.2.2.2.2.2.1, (addCB (addCB (bal, ten, cs, ps, n, ch, td, nx) (cPl x) y) (cDf x) (-y)).2.2.2.2.2.2.2)
set_option maxHeartbeats 4000000 in
set_option maxRecDepth 100000 in
theorem c_moveA {G : GT} {H : Heap} {g : Nat → Nat} {a : Nat} {X : String → Heap → Prop} {bal ten : List Int32} {cs : List CaseC} {ps : List PrecC} {n ch td nx : Int32} (h : MS G H g 10 a (bal, ten, cs, ps, n, ch, td, nx)) {q mq : Nat} {x : CaseC} (hq : Rz G H g q 5 (cFs x mq)) {y : Int32} {F : Heap → Prop} (kk : ∀ (H1 : Heap) (g1 : Nat → Nat), MS G H1 g1 10 a (moveA bal ten cs ps n ch td nx x y) → Ext G [10, 11, 12, 13, 14, 15, 16] H g H1 g1 → F H1) : Call G kX2_moveAward 1 0 0 [.ref a, .ref q, .int y] H (qv F) X := by
  obtain ⟨hbl, htl, b, k0, u, v, ho, hbal, hten, hcs, hps⟩ := MS10 h
  have E : Ext G [10, 11, 12, 13, 14, 15, 16] H g H g := Ext.rf
  refine startL (L0 := [some (.ref a), some (.ref q), some (.int y)]) rfl rfl pl_X2_moveAward (Nat.le_of_ble_eq_true rfl) ?_
  refine V_aload_0 dX2_moveAward_0 ?_
  refine V_aload_1 dX2_moveAward_1 ?_
  refine V_getf dX2_moveAward_2 fl_X2_172 hq.1 rfl ?_
  refine V_iload_2 dX2_moveAward_5 ?_
  have h : MS G H g 10 a (bal, ten, cs, ps, n, ch, td, nx) := ⟨hbl, htl, b, k0, u, v, ho, hbal, hten, hcs, hps⟩
  refine V_call_v (runV2 dX2_moveAward_6 ce_X9_addCoins rfl ml_X2_245 im_X9_addCoins se_X9_addCoins ho.ro ⟨_, rfl, rfl⟩ (Nat.le_of_ble_eq_true rfl)) (by omega) (by omega) (by omega) (c_addC h (x := (cPl x)) (y := y) fun H1 g1 h e1 => ?_)
  clear hbl htl ho hbal hten hcs hps
  replace h : MS G H1 g1 10 a ((addCB (bal, ten, cs, ps, n, ch, td, nx) (cPl x) y).1, (addCB (bal, ten, cs, ps, n, ch, td, nx) (cPl x) y).2.1, (addCB (bal, ten, cs, ps, n, ch, td, nx) (cPl x) y).2.2.1, (addCB (bal, ten, cs, ps, n, ch, td, nx) (cPl x) y).2.2.2.1, (addCB (bal, ten, cs, ps, n, ch, td, nx) (cPl x) y).2.2.2.2.1, (addCB (bal, ten, cs, ps, n, ch, td, nx) (cPl x) y).2.2.2.2.2.1, (addCB (bal, ten, cs, ps, n, ch, td, nx) (cPl x) y).2.2.2.2.2.2.1, (addCB (bal, ten, cs, ps, n, ch, td, nx) (cPl x) y).2.2.2.2.2.2.2) := h
  obtain ⟨hbl, htl, b, k0, u, v, ho, hbal, hten, hcs, hps⟩ := MS10 h
  replace hq := hq.fr e1 (by decide)
  replace E := E.trans e1
  refine V_aload_0 dX2_moveAward_9 ?_
  refine V_aload_1 dX2_moveAward_10 ?_
  refine V_getf dX2_moveAward_11 fl_X2_175 hq.1 rfl ?_
  refine V_iload_2 dX2_moveAward_14 ?_
  refine V_ineg dX2_moveAward_15 ?_
  have h : MS G H1 g1 10 a ((addCB (bal, ten, cs, ps, n, ch, td, nx) (cPl x) y).1, (addCB (bal, ten, cs, ps, n, ch, td, nx) (cPl x) y).2.1, (addCB (bal, ten, cs, ps, n, ch, td, nx) (cPl x) y).2.2.1, (addCB (bal, ten, cs, ps, n, ch, td, nx) (cPl x) y).2.2.2.1, (addCB (bal, ten, cs, ps, n, ch, td, nx) (cPl x) y).2.2.2.2.1, (addCB (bal, ten, cs, ps, n, ch, td, nx) (cPl x) y).2.2.2.2.2.1, (addCB (bal, ten, cs, ps, n, ch, td, nx) (cPl x) y).2.2.2.2.2.2.1, (addCB (bal, ten, cs, ps, n, ch, td, nx) (cPl x) y).2.2.2.2.2.2.2) := ⟨hbl, htl, b, k0, u, v, ho, hbal, hten, hcs, hps⟩
  refine V_call_v (runV2 dX2_moveAward_16 ce_X9_addCoins rfl ml_X2_245 im_X9_addCoins se_X9_addCoins ho.ro ⟨_, rfl, rfl⟩ (Nat.le_of_ble_eq_true rfl)) (by omega) (by omega) (by omega) (c_addC h (x := (cDf x)) (y := (-y)) fun H2 g2 h e2 => ?_)
  clear hbl htl ho hbal hten hcs hps
  replace h : MS G H2 g2 10 a ((addCB (addCB (bal, ten, cs, ps, n, ch, td, nx) (cPl x) y) (cDf x) (-y)).1, (addCB (addCB (bal, ten, cs, ps, n, ch, td, nx) (cPl x) y) (cDf x) (-y)).2.1, (addCB (addCB (bal, ten, cs, ps, n, ch, td, nx) (cPl x) y) (cDf x) (-y)).2.2.1, (addCB (addCB (bal, ten, cs, ps, n, ch, td, nx) (cPl x) y) (cDf x) (-y)).2.2.2.1, (addCB (addCB (bal, ten, cs, ps, n, ch, td, nx) (cPl x) y) (cDf x) (-y)).2.2.2.2.1, (addCB (addCB (bal, ten, cs, ps, n, ch, td, nx) (cPl x) y) (cDf x) (-y)).2.2.2.2.2.1, (addCB (addCB (bal, ten, cs, ps, n, ch, td, nx) (cPl x) y) (cDf x) (-y)).2.2.2.2.2.2.1, (addCB (addCB (bal, ten, cs, ps, n, ch, td, nx) (cPl x) y) (cDf x) (-y)).2.2.2.2.2.2.2) := h
  obtain ⟨hbl, htl, b, k0, u, v, ho, hbal, hten, hcs, hps⟩ := MS10 h
  replace hq := hq.fr e2 (by decide)
  replace E := E.trans e2
  exact V_retv dX2_moveAward_19 rfl (by rw [moveA] at kk; exact kk H2 g2 ⟨hbl, htl, b, k0, u, v, ho, hbal, hten, hcs, hps⟩ E)
def shareC (bal : List Int32) (ten : List Int32) (cs : List CaseC) (ps : List PrecC) (n : Int32) (ch : Int32) (td : Int32) (nx : Int32) (x : CaseC) : StC := ((payCB (payCB (bal, ten, cs, ps, n, ch, td, nx) (cPl x) (((cCo x) * (100 - (cPc x))) / 100)) (cDf x) ((cCo x) - (((cCo x) * (100 - (cPc x))) / 100))).1, (payCB (payCB (bal, ten, cs, ps, n, ch, td, nx) (cPl x) (((cCo x) * (100 - (cPc x))) / 100)) (cDf x) ((cCo x) - (((cCo x) * (100 - (cPc x))) / 100))).2.1, (payCB (payCB (bal, ten, cs, ps, n, ch, td, nx) (cPl x) (((cCo x) * (100 - (cPc x))) / 100)) (cDf x) ((cCo x) - (((cCo x) * (100 - (cPc x))) / 100))).2.2.1, (payCB (payCB (bal, ten, cs, ps, n, ch, td, nx) (cPl x) (((cCo x) * (100 - (cPc x))) / 100)) (cDf x) ((cCo x) - (((cCo x) * (100 - (cPc x))) / 100))).2.2.2.1, (payCB (payCB (bal, ten, cs, ps, n, ch, td, nx) (cPl x) (((cCo x) * (100 - (cPc x))) / 100)) (cDf x) ((cCo x) - (((cCo x) * (100 - (cPc x))) / 100))).2.2.2.2.1, (payCB (payCB (bal, ten, cs, ps, n, ch, td, nx) (cPl x) (((cCo x) * (100 - (cPc x))) / 100)) (cDf x) ((cCo x) - (((cCo x) * (100 - (cPc x))) / 100))).2.2.2.2.2.1, (payCB (payCB (bal, ten, cs, ps, n, ch, td, nx) (cPl x) (((cCo x) * (100 - (cPc x))) / 100)) (cDf x) ((cCo x) - (((cCo x) * (100 - (cPc x))) / 100))).2.2.2.2.2.2.1, (payCB (payCB (bal, ten, cs, ps, n, ch, td, nx) (cPl x) (((cCo x) * (100 - (cPc x))) / 100)) (cDf x) ((cCo x) - (((cCo x) * (100 - (cPc x))) / 100))).2.2.2.2.2.2.2)
set_option maxHeartbeats 4000000 in
set_option maxRecDepth 100000 in
theorem c_shareC {G : GT} {H : Heap} {g : Nat → Nat} {a : Nat} {X : String → Heap → Prop} {bal ten : List Int32} {cs : List CaseC} {ps : List PrecC} {n ch td nx : Int32} (h : MS G H g 10 a (bal, ten, cs, ps, n, ch, td, nx)) {q mq : Nat} {x : CaseC} (hq : Rz G H g q 5 (cFs x mq)) {F : Heap → Prop} (kk : ∀ (H1 : Heap) (g1 : Nat → Nat), MS G H1 g1 10 a (shareC bal ten cs ps n ch td nx x) → Ext G [10, 11, 12, 13, 14, 15, 16] H g H1 g1 → F H1) : Call G kX2_shareCost 2 0 0 [.ref a, .ref q] H (qv F) X := by
  obtain ⟨hbl, htl, b, k0, u, v, ho, hbal, hten, hcs, hps⟩ := MS10 h
  have E : Ext G [10, 11, 12, 13, 14, 15, 16] H g H g := Ext.rf
  refine startL (L0 := [some (.ref a), some (.ref q), none]) rfl rfl pl_X2_shareCost (Nat.le_of_ble_eq_true rfl) ?_
  refine V_aload_1 dX2_shareCost_0 ?_
  refine V_getf dX2_shareCost_1 fl_X2_181 hq.1 rfl ?_
  refine V_bipush (v := 100) dX2_shareCost_4 (by decide) ?_
  refine V_aload_1 dX2_shareCost_6 ?_
  refine V_getf dX2_shareCost_7 fl_X2_220 hq.1 rfl ?_
  refine V_isub dX2_shareCost_10 ?_
  refine V_imul dX2_shareCost_11 ?_
  refine V_bipush (v := 100) dX2_shareCost_12 (by decide) ?_
  refine V_idiv dX2_shareCost_14 (by decide) ?_
  refine V_istore_2 dX2_shareCost_15 rfl ?_
  refine V_aload_0 dX2_shareCost_16 ?_
  refine V_aload_1 dX2_shareCost_17 ?_
  refine V_getf dX2_shareCost_18 fl_X2_172 hq.1 rfl ?_
  refine V_iload_2 dX2_shareCost_21 ?_
  have h : MS G H g 10 a (bal, ten, cs, ps, n, ch, td, nx) := ⟨hbl, htl, b, k0, u, v, ho, hbal, hten, hcs, hps⟩
  refine V_call_v (runV2 dX2_shareCost_22 ce_X9_payToChest rfl ml_X2_227 im_X9_payToChest se_X9_payToChest ho.ro ⟨_, rfl, rfl⟩ (Nat.le_of_ble_eq_true rfl)) (by omega) (by omega) (by omega) (c_payC h (x := (cPl x)) (y := (((cCo x) * (100 - (cPc x))) / 100)) fun H1 g1 h e1 => ?_)
  clear hbl htl ho hbal hten hcs hps
  replace h : MS G H1 g1 10 a ((payCB (bal, ten, cs, ps, n, ch, td, nx) (cPl x) (((cCo x) * (100 - (cPc x))) / 100)).1, (payCB (bal, ten, cs, ps, n, ch, td, nx) (cPl x) (((cCo x) * (100 - (cPc x))) / 100)).2.1, (payCB (bal, ten, cs, ps, n, ch, td, nx) (cPl x) (((cCo x) * (100 - (cPc x))) / 100)).2.2.1, (payCB (bal, ten, cs, ps, n, ch, td, nx) (cPl x) (((cCo x) * (100 - (cPc x))) / 100)).2.2.2.1, (payCB (bal, ten, cs, ps, n, ch, td, nx) (cPl x) (((cCo x) * (100 - (cPc x))) / 100)).2.2.2.2.1, (payCB (bal, ten, cs, ps, n, ch, td, nx) (cPl x) (((cCo x) * (100 - (cPc x))) / 100)).2.2.2.2.2.1, (payCB (bal, ten, cs, ps, n, ch, td, nx) (cPl x) (((cCo x) * (100 - (cPc x))) / 100)).2.2.2.2.2.2.1, (payCB (bal, ten, cs, ps, n, ch, td, nx) (cPl x) (((cCo x) * (100 - (cPc x))) / 100)).2.2.2.2.2.2.2) := h
  obtain ⟨hbl, htl, b, k0, u, v, ho, hbal, hten, hcs, hps⟩ := MS10 h
  replace hq := hq.fr e1 (by decide)
  replace E := E.trans e1
  refine V_aload_0 dX2_shareCost_25 ?_
  refine V_aload_1 dX2_shareCost_26 ?_
  refine V_getf dX2_shareCost_27 fl_X2_175 hq.1 rfl ?_
  refine V_aload_1 dX2_shareCost_30 ?_
  refine V_getf dX2_shareCost_31 fl_X2_181 hq.1 rfl ?_
  refine V_iload_2 dX2_shareCost_34 ?_
  refine V_isub dX2_shareCost_35 ?_
  have h : MS G H1 g1 10 a ((payCB (bal, ten, cs, ps, n, ch, td, nx) (cPl x) (((cCo x) * (100 - (cPc x))) / 100)).1, (payCB (bal, ten, cs, ps, n, ch, td, nx) (cPl x) (((cCo x) * (100 - (cPc x))) / 100)).2.1, (payCB (bal, ten, cs, ps, n, ch, td, nx) (cPl x) (((cCo x) * (100 - (cPc x))) / 100)).2.2.1, (payCB (bal, ten, cs, ps, n, ch, td, nx) (cPl x) (((cCo x) * (100 - (cPc x))) / 100)).2.2.2.1, (payCB (bal, ten, cs, ps, n, ch, td, nx) (cPl x) (((cCo x) * (100 - (cPc x))) / 100)).2.2.2.2.1, (payCB (bal, ten, cs, ps, n, ch, td, nx) (cPl x) (((cCo x) * (100 - (cPc x))) / 100)).2.2.2.2.2.1, (payCB (bal, ten, cs, ps, n, ch, td, nx) (cPl x) (((cCo x) * (100 - (cPc x))) / 100)).2.2.2.2.2.2.1, (payCB (bal, ten, cs, ps, n, ch, td, nx) (cPl x) (((cCo x) * (100 - (cPc x))) / 100)).2.2.2.2.2.2.2) := ⟨hbl, htl, b, k0, u, v, ho, hbal, hten, hcs, hps⟩
  refine V_call_v (runV2 dX2_shareCost_36 ce_X9_payToChest rfl ml_X2_227 im_X9_payToChest se_X9_payToChest ho.ro ⟨_, rfl, rfl⟩ (Nat.le_of_ble_eq_true rfl)) (by omega) (by omega) (by omega) (c_payC h (x := (cDf x)) (y := ((cCo x) - (((cCo x) * (100 - (cPc x))) / 100))) fun H2 g2 h e2 => ?_)
  clear hbl htl ho hbal hten hcs hps
  replace h : MS G H2 g2 10 a ((payCB (payCB (bal, ten, cs, ps, n, ch, td, nx) (cPl x) (((cCo x) * (100 - (cPc x))) / 100)) (cDf x) ((cCo x) - (((cCo x) * (100 - (cPc x))) / 100))).1, (payCB (payCB (bal, ten, cs, ps, n, ch, td, nx) (cPl x) (((cCo x) * (100 - (cPc x))) / 100)) (cDf x) ((cCo x) - (((cCo x) * (100 - (cPc x))) / 100))).2.1, (payCB (payCB (bal, ten, cs, ps, n, ch, td, nx) (cPl x) (((cCo x) * (100 - (cPc x))) / 100)) (cDf x) ((cCo x) - (((cCo x) * (100 - (cPc x))) / 100))).2.2.1, (payCB (payCB (bal, ten, cs, ps, n, ch, td, nx) (cPl x) (((cCo x) * (100 - (cPc x))) / 100)) (cDf x) ((cCo x) - (((cCo x) * (100 - (cPc x))) / 100))).2.2.2.1, (payCB (payCB (bal, ten, cs, ps, n, ch, td, nx) (cPl x) (((cCo x) * (100 - (cPc x))) / 100)) (cDf x) ((cCo x) - (((cCo x) * (100 - (cPc x))) / 100))).2.2.2.2.1, (payCB (payCB (bal, ten, cs, ps, n, ch, td, nx) (cPl x) (((cCo x) * (100 - (cPc x))) / 100)) (cDf x) ((cCo x) - (((cCo x) * (100 - (cPc x))) / 100))).2.2.2.2.2.1, (payCB (payCB (bal, ten, cs, ps, n, ch, td, nx) (cPl x) (((cCo x) * (100 - (cPc x))) / 100)) (cDf x) ((cCo x) - (((cCo x) * (100 - (cPc x))) / 100))).2.2.2.2.2.2.1, (payCB (payCB (bal, ten, cs, ps, n, ch, td, nx) (cPl x) (((cCo x) * (100 - (cPc x))) / 100)) (cDf x) ((cCo x) - (((cCo x) * (100 - (cPc x))) / 100))).2.2.2.2.2.2.2) := h
  obtain ⟨hbl, htl, b, k0, u, v, ho, hbal, hten, hcs, hps⟩ := MS10 h
  replace hq := hq.fr e2 (by decide)
  replace E := E.trans e2
  exact V_retv dX2_shareCost_39 rfl (by rw [shareC] at kk; exact kk H2 g2 ⟨hbl, htl, b, k0, u, v, ho, hbal, hten, hcs, hps⟩ E)
def moveAB (S : StC) (x : CaseC) (y : Int32) := moveA S.1 S.2.1 S.2.2.1 S.2.2.2.1 S.2.2.2.2.1 S.2.2.2.2.2.1 S.2.2.2.2.2.2.1 S.2.2.2.2.2.2.2 x y
def shareCB (S : StC) (x : CaseC) := shareC S.1 S.2.1 S.2.2.1 S.2.2.2.1 S.2.2.2.2.1 S.2.2.2.2.2.1 S.2.2.2.2.2.2.1 S.2.2.2.2.2.2.2 x

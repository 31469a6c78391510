def nearL (ps : List PrecC) (mt : List Int32) (x : Int32) (y : Int32) : Nat → Int32 → Int32 → Int32 → List Int32 → List Int32 → List Int32 → Int32 × List Int32 × List Int32 × List Int32
  | 0, b1, sm, i, lf, ls, lt => (b1, lf, ls, lt)
  | k + 1, b1, sm, i, lf, ls, lt => if (nI ps.length) ≤ i then (b1, lf, ls, lt) else (if i = x then (nearL ps mt x y k b1 sm (i + 1) lf ls lt) else (if i = y then (nearL ps mt x y k b1 sm (i + 1) lf ls lt) else (if b1 = (-1) then (nearL ps mt x y k i ((byB mt ((gP ps i).1) lf ls lt).1) (i + 1) ((byB mt ((gP ps i).1) lf ls lt).2.1) ((byB mt ((gP ps i).1) lf ls lt).2.2.1) ((byB mt ((gP ps i).1) lf ls lt).2.2.2)) else (if sm < ((byB mt ((gP ps i).1) lf ls lt).1) then (nearL ps mt x y k b1 sm (i + 1) ((byB mt ((gP ps i).1) lf ls lt).2.1) ((byB mt ((gP ps i).1) lf ls lt).2.2.1) ((byB mt ((gP ps i).1) lf ls lt).2.2.2)) else (nearL ps mt x y k i ((byB mt ((gP ps i).1) lf ls lt).1) (i + 1) ((byB mt ((gP ps i).1) lf ls lt).2.1) ((byB mt ((gP ps i).1) lf ls lt).2.2.1) ((byB mt ((gP ps i).1) lf ls lt).2.2.2))))))
def near (ps : List PrecC) (mt : List Int32) (x : Int32) (y : Int32) (lf : List Int32) (ls : List Int32) (lt : List Int32) : Int32 × List Int32 × List Int32 × List Int32 := nearL ps mt x y (nI ps.length).toNatClampNeg (-1) 0 0 lf ls lt
set_option maxHeartbeats 1000000 in
set_option maxRecDepth 100000 in
theorem c_nearL {G : GT} {X : String → Heap → Prop} {H0 : Heap} {g0 : Nat → Nat} {o th : Nat} {ru qf qs qt : Nat} {bal ten : List Int32} {cs : List CaseC} {ps : List PrecC} {n ch td nx : Int32} {t a : Nat} (ht : t = 0 ∨ t = 10) {w : Nat} {mt : List Int32} {x y : Int32} {F : Int32 → Heap → Prop} {cc ss : Nat} : ∀ (k : Nat) (b1 : Int32) (sm : Int32) (i : Int32) (lf : List Int32) (ls : List Int32) (lt : List Int32) (H : Heap) (g : Nat → Nat), Ja G H g 24 qf 1 8 lf → Ja G H g 25 qs 1 8 ls → Ja G H g 26 qt 0 81 lt → MS G H g t a (bal, ten, cs, ps, n, ch, td, nx) → Rz G H g o 6 [.ref th, .ref ru] → Rz G H g ru 10 [.ref qf, .ref qs, .ref qt] → Sz G H g w mt → Ext G [24, 25, 26] H0 g0 H g → (nI ps.length).toInt ≤ i.toInt + ((k : Nat) : Int) → ¬ i < 0 → (∀ (H1 : Heap) (g1 : Nat → Nat), Ja G H1 g1 24 qf 1 8 (nearL ps mt x y k b1 sm i lf ls lt).2.1 → Ja G H1 g1 25 qs 1 8 (nearL ps mt x y k b1 sm i lf ls lt).2.2.1 → Ja G H1 g1 26 qt 0 81 (nearL ps mt x y k b1 sm i lf ls lt).2.2.2 → Ext G [24, 25, 26] H0 g0 H1 g1 → F ((nearL ps mt x y k b1 sm i lf ls lt).1) H1) → V G kX2_nearestOf 7 cc ss (qi F) X 9 [some (.ref o), some (.ref a), some (.ref w), some (.int x), some (.int y), some (.int b1), some (.int sm), some (.int i), none] [] H := by
  intro k
  induction k with
  | zero =>
    intro b1 sm i lf ls lt H g hlf hls hlt h hco hru hmt E hm hi0 kk
    refine V_iload_7 dX2_nearestOf_9 ?_
    refine V_aload_1 dX2_nearestOf_11 ?_
    obtain ⟨hbl, htl, b, k0, u, v, ho, hbal, hten, hcs, hps⟩ := id h
    refine V_getf dX2_nearestOf_12 fl_X2_112 ho.ro rfl ?_
    obtain ⟨fw, hw⟩ := hps.ro
    refine V_call_i (runV0 dX2_nearestOf_15 ce_Jx4a65c_size_8abf5 rfl ml_X2_116 im_Jx4a65c_size_8abf5 se_Jx4a65c_size_8abf5 hw ⟨_, rfl, rfl⟩ (Nat.le_of_ble_eq_true rfl)) (by omega) (by omega) (by omega) (c_plsize hps ?_)
    refine V_icmp_ge (tgt := 86) dX2_nearestOf_18 (by decide) (fun c_18 => ?_) (fun c_18 => ?_)
    · refine V_iload_5 dX2_nearestOf_86 ?_
      exact V_reti dX2_nearestOf_88 rfl rfl (by rw [nearL] at kk; exact kk H g hlf hls hlt E)
    · exact absurd (loop_end hm) c_18
  | succ k ih =>
    intro b1 sm i lf ls lt H g hlf hls hlt h hco hru hmt E hm hi0 kk
    refine V_iload_7 dX2_nearestOf_9 ?_
    refine V_aload_1 dX2_nearestOf_11 ?_
    obtain ⟨hbl, htl, b, k0, u, v, ho, hbal, hten, hcs, hps⟩ := id h
    refine V_getf dX2_nearestOf_12 fl_X2_112 ho.ro rfl ?_
    obtain ⟨fw, hw⟩ := hps.ro
    refine V_call_i (runV0 dX2_nearestOf_15 ce_Jx4a65c_size_8abf5 rfl ml_X2_116 im_Jx4a65c_size_8abf5 se_Jx4a65c_size_8abf5 hw ⟨_, rfl, rfl⟩ (Nat.le_of_ble_eq_true rfl)) (by omega) (by omega) (by omega) (c_plsize hps ?_)
    refine V_icmp_ge (tgt := 86) dX2_nearestOf_18 (by decide) (fun c_18 => ?_) (fun c_18 => ?_)
    · refine V_iload_5 dX2_nearestOf_86 ?_
      exact V_reti dX2_nearestOf_88 rfl rfl (by rw [nearL, if_pos c_18] at kk; exact kk H g hlf hls hlt E)
    · refine V_iload_7 dX2_nearestOf_21 ?_
      refine V_iload_3 dX2_nearestOf_23 ?_
      refine V_icmp_eq (tgt := 80) dX2_nearestOf_24 (by decide) (fun c_24 => ?_) (fun c_24 => ?_)
      · refine V_iinc_7 (v := 1) dX2_nearestOf_80 rfl rfl ?_
        refine V_goto (tgt := 9) dX2_nearestOf_83 (by decide) ?_
        exact ih _ _ _ _ _ _ H g hlf hls hlt h hco hru hmt E (loop_step c_18 hm) (nn_step c_18 hi0) (by rw [nearL, if_neg c_18, if_pos c_24] at kk; exact kk)
      · refine V_iload_7 dX2_nearestOf_27 ?_
        refine V_iload_4 dX2_nearestOf_29 ?_
        refine V_icmp_eq (tgt := 80) dX2_nearestOf_31 (by decide) (fun c_31 => ?_) (fun c_31 => ?_)
        · refine V_iinc_7 (v := 1) dX2_nearestOf_80 rfl rfl ?_
          refine V_goto (tgt := 9) dX2_nearestOf_83 (by decide) ?_
          exact ih _ _ _ _ _ _ H g hlf hls hlt h hco hru hmt E (loop_step c_18 hm) (nn_step c_18 hi0) (by rw [nearL, if_neg c_18, if_neg c_24, if_pos c_31] at kk; exact kk)
        · refine V_aload_0 dX2_nearestOf_34 ?_
          refine V_getf dX2_nearestOf_35 fl_X2_21 hco.1 rfl ?_
          refine V_aload_2 dX2_nearestOf_38 ?_
          refine V_aload_1 dX2_nearestOf_39 ?_
          refine V_getf dX2_nearestOf_40 fl_X2_112 ho.ro rfl ?_
          refine V_iload_7 dX2_nearestOf_43 ?_
          obtain ⟨fw, hw⟩ := hps.ro
          refine V_call_a (runV1 dX2_nearestOf_45 ce_Jx4a65c_get_915e3 rfl ml_X2_150 im_Jx4a65c_get_915e3 se_Jx4a65c_get_915e3 hw ⟨_, rfl, rfl⟩ (Nat.le_of_ble_eq_true rfl)) (by omega) (by omega) (by omega) (c_plget hps hi0 c_18 fun r mr hr hrm => ?_)
          refine V_castS (ci := 9) dX2_nearestOf_48 rfl ck_X2_127 hr.1 ?_
          refine V_getf dX2_nearestOf_51 fl_X2_231 hr.1 rfl ?_
          refine V_call_i (runV2 dX2_nearestOf_54 ce_X6_byBeginnings rfl ml_X2_232 im_X6_byBeginnings se_X6_byBeginnings hru.1 ⟨_, rfl, rfl⟩ (Nat.le_of_ble_eq_true rfl)) (by omega) (by omega) (by omega) (c_byB hlf hls hlt hru hmt hrm fun H1 g1 hlf_ hls_ hlt_ e1 => ?_)
          replace h := h.fr e1 (tk_of ht (by decide))
          replace hco := hco.fr e1 (by decide)
          replace hru := hru.fr e1 (by decide)
          replace hmt := hmt.fr e1 (by decide)
          replace hr := hr.fr e1 (by decide)
          replace hrm := hrm.fr e1 (by decide)
          replace E := E.trans (e1.wide (by decide))
          replace hlf := hlf_
          clear hlf_
          replace hls := hls_
          clear hls_
          replace hlt := hlt_
          clear hlt_
          refine V_istore_8 dX2_nearestOf_57 rfl ?_
          refine V_iload_5 dX2_nearestOf_59 ?_
          refine V_iconst (v := (-1)) dX2_nearestOf_61 rfl ?_
          refine V_icmp_eq (tgt := 72) dX2_nearestOf_62 (by decide) (fun c_62 => ?_) (fun c_62 => ?_)
          · refine V_iload_7 dX2_nearestOf_72 ?_
            refine V_istore_5 dX2_nearestOf_74 rfl ?_
            refine V_iload_8 dX2_nearestOf_76 ?_
            refine V_istore_6 dX2_nearestOf_78 rfl ?_
            refine V_iinc_7 (v := 1) dX2_nearestOf_80 rfl rfl ?_
            refine V_goto (tgt := 9) dX2_nearestOf_83 (by decide) ?_
            refine V_drop 8 rfl ?_
            exact ih _ _ _ _ _ _ H1 g1 hlf hls hlt h hco hru hmt E (loop_step c_18 hm) (nn_step c_18 hi0) (by rw [nearL, if_neg c_18, if_neg c_24, if_neg c_31, if_pos c_62] at kk; exact kk)
          · refine V_iload_8 dX2_nearestOf_65 ?_
            refine V_iload_6 dX2_nearestOf_67 ?_
            refine V_icmp_gt (tgt := 80) dX2_nearestOf_69 (by decide) (fun c_69 => ?_) (fun c_69 => ?_)
            · refine V_iinc_7 (v := 1) dX2_nearestOf_80 rfl rfl ?_
              refine V_goto (tgt := 9) dX2_nearestOf_83 (by decide) ?_
              refine V_drop 8 rfl ?_
              exact ih _ _ _ _ _ _ H1 g1 hlf hls hlt h hco hru hmt E (loop_step c_18 hm) (nn_step c_18 hi0) (by rw [nearL, if_neg c_18, if_neg c_24, if_neg c_31, if_neg c_62, if_pos c_69] at kk; exact kk)
            · refine V_iload_7 dX2_nearestOf_72 ?_
              refine V_istore_5 dX2_nearestOf_74 rfl ?_
              refine V_iload_8 dX2_nearestOf_76 ?_
              refine V_istore_6 dX2_nearestOf_78 rfl ?_
              refine V_iinc_7 (v := 1) dX2_nearestOf_80 rfl rfl ?_
              refine V_goto (tgt := 9) dX2_nearestOf_83 (by decide) ?_
              refine V_drop 8 rfl ?_
              exact ih _ _ _ _ _ _ H1 g1 hlf hls hlt h hco hru hmt E (loop_step c_18 hm) (nn_step c_18 hi0) (by rw [nearL, if_neg c_18, if_neg c_24, if_neg c_31, if_neg c_62, if_neg c_69] at kk; exact kk)
set_option maxHeartbeats 1000000 in
set_option maxRecDepth 100000 in
theorem c_near {G : GT} {X : String → Heap → Prop} {H : Heap} {g : Nat → Nat} {o th : Nat} {ru qf qs qt : Nat} {bal ten : List Int32} {cs : List CaseC} {ps : List PrecC} {n ch td nx : Int32} {t a : Nat} (ht : t = 0 ∨ t = 10) {w : Nat} {mt : List Int32} {x y : Int32} {lf : List Int32} {ls : List Int32} {lt : List Int32} (hlf : Ja G H g 24 qf 1 8 lf) (hls : Ja G H g 25 qs 1 8 ls) (hlt : Ja G H g 26 qt 0 81 lt) (h : MS G H g t a (bal, ten, cs, ps, n, ch, td, nx)) (hco : Rz G H g o 6 [.ref th, .ref ru]) (hru : Rz G H g ru 10 [.ref qf, .ref qs, .ref qt]) (hmt : Sz G H g w mt) {F : Int32 → Heap → Prop} (kk : ∀ (H1 : Heap) (g1 : Nat → Nat), Ja G H1 g1 24 qf 1 8 (near ps mt x y lf ls lt).2.1 → Ja G H1 g1 25 qs 1 8 (near ps mt x y lf ls lt).2.2.1 → Ja G H1 g1 26 qt 0 81 (near ps mt x y lf ls lt).2.2.2 → Ext G [24, 25, 26] H g H1 g1 → F ((near ps mt x y lf ls lt).1) H1) : Call G kX2_nearestOf 7 0 0 [.ref o, .ref a, .ref w, .int x, .int y] H (qi F) X := by
  have E : Ext G [24, 25, 26] H g H g := Ext.rf
  refine startL (L0 := [some (.ref o), some (.ref a), some (.ref w), some (.int x), some (.int y), none, none, none, none]) rfl rfl pl_X2_nearestOf (Nat.le_of_ble_eq_true rfl) ?_
  refine V_iconst (v := (-1)) dX2_nearestOf_0 rfl ?_
  refine V_istore_5 dX2_nearestOf_1 rfl ?_
  refine V_iconst (v := 0) dX2_nearestOf_3 rfl ?_
  refine V_istore_6 dX2_nearestOf_4 rfl ?_
  refine V_iconst (v := 0) dX2_nearestOf_6 rfl ?_
  refine V_istore_7 dX2_nearestOf_7 rfl ?_
  exact c_nearL ht  (nI ps.length).toNatClampNeg (-1) 0 0 _ _ _ H g hlf hls hlt h hco hru hmt (Ext.rf (ts := [24, 25, 26])) loop_init (by decide) (by rw [near] at kk; exact fun Hz gz hlf_ hls_ hlt_ ez => kk Hz gz hlf_ hls_ hlt_ (E.trans ez))
def percB (ps : List PrecC) (x : Int32) (mt : List Int32) (lf : List Int32) (ls : List Int32) (lt : List Int32) : Int32 × List Int32 × List Int32 × List Int32 := if x < 0 then (50, lf, ls, lt) else (if x < (nI ps.length) then (if ((gP ps x).2) ≤ 50 then (imin 50 (((gP ps x).2) + (5 * ((byB mt ((gP ps x).1) lf ls lt).1))), (byB mt ((gP ps x).1) lf ls lt).2.1, (byB mt ((gP ps x).1) lf ls lt).2.2.1, (byB mt ((gP ps x).1) lf ls lt).2.2.2) else (imax 50 (((gP ps x).2) - (5 * ((byB mt ((gP ps x).1) lf ls lt).1))), (byB mt ((gP ps x).1) lf ls lt).2.1, (byB mt ((gP ps x).1) lf ls lt).2.2.1, (byB mt ((gP ps x).1) lf ls lt).2.2.2)) else (50, lf, ls, lt))
set_option maxHeartbeats 1000000 in
set_option maxRecDepth 100000 in
theorem c_percB {G : GT} {X : String → Heap → Prop} {H : Heap} {g : Nat → Nat} {o th : Nat} {ru qf qs qt : Nat} {bal ten : List Int32} {cs : List CaseC} {ps : List PrecC} {n ch td nx : Int32} {t a : Nat} (ht : t = 0 ∨ t = 10) {w : Nat} {mt : List Int32} {x : Int32} {lf : List Int32} {ls : List Int32} {lt : List Int32} (hlf : Ja G H g 24 qf 1 8 lf) (hls : Ja G H g 25 qs 1 8 ls) (hlt : Ja G H g 26 qt 0 81 lt) (h : MS G H g t a (bal, ten, cs, ps, n, ch, td, nx)) (hco : Rz G H g o 6 [.ref th, .ref ru]) (hru : Rz G H g ru 10 [.ref qf, .ref qs, .ref qt]) (hmt : Sz G H g w mt) {F : Int32 → Heap → Prop} (kk : ∀ (H1 : Heap) (g1 : Nat → Nat), Ja G H1 g1 24 qf 1 8 (percB ps x mt lf ls lt).2.1 → Ja G H1 g1 25 qs 1 8 (percB ps x mt lf ls lt).2.2.1 → Ja G H1 g1 26 qt 0 81 (percB ps x mt lf ls lt).2.2.2 → Ext G [24, 25, 26] H g H1 g1 → F ((percB ps x mt lf ls lt).1) H1) : Call G kX2_percentageBy 7 0 0 [.ref o, .ref a, .int x, .ref w] H (qi F) X := by
  have E : Ext G [24, 25, 26] H g H g := Ext.rf
  refine startL (L0 := [some (.ref o), some (.ref a), some (.int x), some (.ref w), none, none]) rfl rfl pl_X2_percentageBy (Nat.le_of_ble_eq_true rfl) ?_
  refine V_iload_2 dX2_percentageBy_0 ?_
  refine V_if_lt (tgt := 15) dX2_percentageBy_1 (by decide) (fun c_1 => ?_) (fun c_1 => ?_)
  · refine V_bipush (v := 50) dX2_percentageBy_15 (by decide) ?_
    exact V_reti dX2_percentageBy_17 rfl rfl (by rw [percB, if_pos c_1] at kk; exact kk H g hlf hls hlt E)
  · refine V_iload_2 dX2_percentageBy_4 ?_
    refine V_aload_1 dX2_percentageBy_5 ?_
    obtain ⟨hbl, htl, b, k0, u, v, ho, hbal, hten, hcs, hps⟩ := id h
    refine V_getf dX2_percentageBy_6 fl_X2_112 ho.ro rfl ?_
    obtain ⟨fw, hw⟩ := hps.ro
    refine V_call_i (runV0 dX2_percentageBy_9 ce_Jx4a65c_size_8abf5 rfl ml_X2_116 im_Jx4a65c_size_8abf5 se_Jx4a65c_size_8abf5 hw ⟨_, rfl, rfl⟩ (Nat.le_of_ble_eq_true rfl)) (by omega) (by omega) (by omega) (c_plsize hps ?_)
    refine V_icmp_lt (tgt := 18) dX2_percentageBy_12 (by decide) (fun c_12 => ?_) (fun c_12 => ?_)
    · refine V_aload_1 dX2_percentageBy_18 ?_
      refine V_getf dX2_percentageBy_19 fl_X2_112 ho.ro rfl ?_
      refine V_iload_2 dX2_percentageBy_22 ?_
      obtain ⟨fw, hw⟩ := hps.ro
      refine V_call_a (runV1 dX2_percentageBy_23 ce_Jx4a65c_get_915e3 rfl ml_X2_150 im_Jx4a65c_get_915e3 se_Jx4a65c_get_915e3 hw ⟨_, rfl, rfl⟩ (Nat.le_of_ble_eq_true rfl)) (by omega) (by omega) (by omega) (c_plget hps c_1 (Int32.not_le.mpr c_12) fun r mr hr hrm => ?_)
      refine V_castS (ci := 9) dX2_percentageBy_26 rfl ck_X2_127 hr.1 ?_
      refine V_astore_4 dX2_percentageBy_29 rfl ?_
      refine V_iconst (v := 5) dX2_percentageBy_31 rfl ?_
      refine V_aload_0 dX2_percentageBy_32 ?_
      refine V_getf dX2_percentageBy_33 fl_X2_21 hco.1 rfl ?_
      refine V_aload_3 dX2_percentageBy_36 ?_
      refine V_aload_4 dX2_percentageBy_37 ?_
      refine V_getf dX2_percentageBy_39 fl_X2_231 hr.1 rfl ?_
      refine V_call_i (runV2 dX2_percentageBy_42 ce_X6_byBeginnings rfl ml_X2_232 im_X6_byBeginnings se_X6_byBeginnings hru.1 ⟨_, rfl, rfl⟩ (Nat.le_of_ble_eq_true rfl)) (by omega) (by omega) (by omega) (c_byB hlf hls hlt hru hmt hrm fun H1 g1 hlf_ hls_ hlt_ e1 => ?_)
      replace h := h.fr e1 (tk_of ht (by decide))
      replace hco := hco.fr e1 (by decide)
      replace hru := hru.fr e1 (by decide)
      replace hmt := hmt.fr e1 (by decide)
      replace hr := hr.fr e1 (by decide)
      replace hrm := hrm.fr e1 (by decide)
      replace E := E.trans (e1.wide (by decide))
      replace hlf := hlf_
      clear hlf_
      replace hls := hls_
      clear hls_
      replace hlt := hlt_
      clear hlt_
      refine V_imul dX2_percentageBy_45 ?_
      refine V_istore_5 dX2_percentageBy_46 rfl ?_
      refine V_aload_4 dX2_percentageBy_48 ?_
      refine V_getf dX2_percentageBy_50 fl_X2_236 hr.1 rfl ?_
      refine V_bipush (v := 50) dX2_percentageBy_53 (by decide) ?_
      refine V_icmp_le (tgt := 72) dX2_percentageBy_55 (by decide) (fun c_55 => ?_) (fun c_55 => ?_)
      · refine V_bipush (v := 50) dX2_percentageBy_72 (by decide) ?_
        refine V_aload_4 dX2_percentageBy_74 ?_
        refine V_getf dX2_percentageBy_76 fl_X2_236 hr.1 rfl ?_
        refine V_iload_5 dX2_percentageBy_79 ?_
        refine V_iadd dX2_percentageBy_81 ?_
        refine V_mmin dX2_percentageBy_82 ml_X2_242 ex_minS ex_mth ex_minC (Nat.le_of_ble_eq_true rfl) (Nat.le_of_ble_eq_true rfl) ?_
        exact V_reti dX2_percentageBy_85 rfl rfl (by rw [percB, if_neg c_1, if_pos c_12, if_pos c_55] at kk; exact kk H1 g1 hlf hls hlt E)
      · refine V_bipush (v := 50) dX2_percentageBy_58 (by decide) ?_
        refine V_aload_4 dX2_percentageBy_60 ?_
        refine V_getf dX2_percentageBy_62 fl_X2_236 hr.1 rfl ?_
        refine V_iload_5 dX2_percentageBy_65 ?_
        refine V_isub dX2_percentageBy_67 ?_
        refine V_mmax dX2_percentageBy_68 ml_X2_237 ex_maxS ex_mth ex_maxC (Nat.le_of_ble_eq_true rfl) (Nat.le_of_ble_eq_true rfl) ?_
        exact V_reti dX2_percentageBy_71 rfl rfl (by rw [percB, if_neg c_1, if_pos c_12, if_neg c_55] at kk; exact kk H1 g1 hlf hls hlt E)
    · refine V_bipush (v := 50) dX2_percentageBy_15 (by decide) ?_
      exact V_reti dX2_percentageBy_17 rfl rfl (by rw [percB, if_neg c_1, if_neg c_12] at kk; exact kk H g hlf hls hlt E)

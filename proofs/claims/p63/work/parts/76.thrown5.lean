set_option maxHeartbeats 4000000 in
set_option maxRecDepth 100000 in
theorem c_thE {G : GT} {Q : Option Value → Heap → Prop} {X : String → Heap → Prop} {o m : Nat} {S sn : StC} {tk : Int32} {ea : List StC} {u : List Int32} {le lf : Int32} (hI : INV 28 S) (hea : ea.length ≤ 8) (hps : 3 ≤ S.2.2.2.1.length) {H0 : Heap} {g0 : Nat → Nat} {cc ss : Nat} {sum : Int64} {d5 : Int32} : ∀ (k j : Nat) (K : ScC) (H : Heap) (g : Nat → Nat), S.2.2.1.length = j + k → RG G H g o (S, sn, tk, ea, [], [], u, le, lf, K) → Ext G tsA H0 g0 H g → (∀ (K2 : ScC) (H1 : Heap) (g1 : Nat → Nat), RG G H1 g1 o (S, sn, tk, ea, [], [], u, le, lf, K2) → Ext G tsA H0 g0 H1 g1 → V G kL_thrown 15 cc ss Q X 837 [some (.ref o), some (.long sum), none, some (.int (nI m)), some (.int (nI S.2.2.2.1.length)), some (.int d5), some (.int 1), some (.int (nI S.2.2.1.length)), none, none] [] H1) → V G kL_thrown 15 (cc + 150 * k) (ss + 6800 * k) Q X 559 [some (.ref o), some (.long sum), none, some (.int (nI m)), some (.int (nI S.2.2.2.1.length)), some (.int d5), some (.int 1), some (.int (nI j)), none, none] [] H := by
  have h12 := hI.2.2.1
  have h20 := hI.2.2.2.2.1
  intro k
  induction k with
  | zero =>
    intro j K H g hj hR E kk
    refine V_iload_7 dL_thrown_559 ?_
    refine V_aload_0 dL_thrown_561 ?_
    obtain ⟨fo, hfo⟩ := hR.o
    refine V_call_i (runV0 dL_thrown_562 ce_X12_caseCount rfl ml_L_295 im_X12_caseCount se_X12_caseCount hfo ⟨_, rfl, rfl⟩ (Nat.le_of_ble_eq_true rfl)) (by omega) (by omega) (by omega) (c_fCas (R := (S, sn, tk, ea, [], [], u, le, lf, K)) hR ?_)
    have hjl : j = S.2.2.1.length := by omega
    subst hjl
    refine V_icmp_ge (tgt := 837) dL_thrown_565 (by decide) (fun c_565 => ?_) (fun c_565 => ?_)
    · exact kk K H g hR E
    · exact absurd (Int32.le_refl _) c_565
  | succ k ih =>
    intro j K H g hj hR E kk
    refine V_iload_7 dL_thrown_559 ?_
    refine V_aload_0 dL_thrown_561 ?_
    obtain ⟨fo, hfo⟩ := hR.o
    refine V_call_i (runV0 dL_thrown_562 ce_X12_caseCount rfl ml_L_295 im_X12_caseCount se_X12_caseCount hfo ⟨_, rfl, rfl⟩ (Nat.le_of_ble_eq_true rfl)) (by omega) (by omega) (by omega) (c_fCas (R := (S, sn, tk, ea, [], [], u, le, lf, K)) hR ?_)
    refine V_icmp_ge (tgt := 837) dL_thrown_565 (by decide) (fun c_565 => ?_) (fun c_565 => ?_)
    · exact absurd c_565 (fun z => absurd ((nI_le_iff (a := S.2.2.1.length) (b := j) (by omega) (by omega)).mp z) (by omega))
    · refine V_aload_0 dL_thrown_568 ?_
      refine V_iload_7 dL_thrown_569 ?_
      refine V_call_i (runSX2 dL_thrown_571 ce_L_caseAt rfl ml_L_298 st_L_caseAt (Nat.le_of_ble_eq_true rfl)) (by omega) (by omega) (by omega) (c_lCAt (R := (S, sn, tk, ea, [], [], u, le, lf, K)) hR fun H1 g1 hR e1 => ?_)
      replace E := E.trans e1
      have hid : vCAt S (nI j) = cId (gC S.2.2.1 (nI j)) := by rw [vCAt, if_pos ⟨nI_pos (by omega), c_565⟩]
      have hC : hasC S.2.2.1 (vCAt S (nI j)) := by rw [hid]; exact hasC_at (by omega) (by omega)
      have hcI := hI.the hC
      clear hid
      generalize vCAt S (nI j) = id at *
      refine V_istore_8 dL_thrown_574 rfl ?_
      refine V_aload_0 dL_thrown_576 ?_
      refine V_iload_8 dL_thrown_577 ?_
      refine V_call_i (runSX2 dL_thrown_579 ce_L_state rfl ml_L_349 st_L_state (Nat.le_of_ble_eq_true rfl)) (by omega) (by omega) (by omega) (c_lSta (R := (S, sn, tk, ea, [], [], u, le, lf, K)) hR fun H2 g2 hR e2 => ?_)
      replace E := E.trans e2
      have hsv : vCf cSd S id = cSd (theC S.2.2.1 id) := by rw [vCf, if_pos (hasb_t hC)]
      have hmv : vCf (fun c => nI (cMt c).length) S id = nI (cMt (theC S.2.2.1 id)).length := by rw [vCf, if_pos (hasb_t hC)]
      have hm8 := hcI.2.2.2.1
      rcases hcI.2.2.2.2.1 with hs | hs | hs
      · skip
        refine V_int (y := 102) (hsv.trans hs) ?_
        refine V_bipush (v := 102) dL_thrown_582 (by decide) ?_
        refine V_icmp_ne (tgt := 591) dL_thrown_584 (by decide) (fun c => absurd rfl c) (fun _ => ?_)
        refine V_iconst (v := 1) dL_thrown_587 rfl ?_
        refine V_goto (tgt := 592) dL_thrown_588 (by decide) ?_
        refine V_istore_9 dL_thrown_592 rfl ?_
        refine V_iload_6 dL_thrown_594 ?_
        refine V_if_eq (tgt := 776) dL_thrown_596 (by decide) (fun c => absurd c (by decide)) (fun _ => ?_)
        refine V_iload_9 dL_thrown_599 ?_
        refine V_if_eq (tgt := 667) dL_thrown_601 (by decide) (fun c => absurd c (by decide)) (fun _ => ?_)
        refine V_aload_0 dL_thrown_604 ?_
        refine V_iload_8 dL_thrown_605 ?_
        have hx := xApp2 (S := S) (K := K) hC (by rw [hs]; decide)
        have hg := qApp_g hI (x := id) (K := K)
        refine V_call_i (runSX2 dL_thrown_607 ce_L_appeal rfl ml_L_315 st_L_appeal (Nat.le_of_ble_eq_true rfl)) (by omega) (by omega) (by omega) (c_lApp (R := (S, sn, tk, ea, [], [], u, le, lf, K)) hR hI.okS hea (fun E hE => mem3 (hg.fa E hE)) (fun hf => absurd (hf.symm.trans hx) (fun z => nomatch z)) (fun eE v hE hv H3 g3 hR1 e3 => ?_))
        obtain rfl : v = (-1002) := cod hv hE hx (by decide +kernel)
        obtain ⟨K, hR⟩ : ∃ K2 : ScC, RG G H3 g3 o (S, sn, tk, ea, [], [], u, le, lf, K2) := ⟨_, hR1⟩
        replace E := E.trans e3
        clear hx hg hE hv hR1
        refine V_sipush (v := (-1002)) dL_thrown_610 (by decide) ?_
        refine V_icmp_ne (tgt := 776) dL_thrown_613 (by decide) (fun c => absurd rfl c) (fun _ => ?_)
        refine V_aload_0 dL_thrown_616 ?_
        refine V_iload_8 dL_thrown_617 ?_
        have hx := xClos2 (S := S) hC hs
        have hg := qClose_g hI (x := id)
        refine V_call_i (runSX2 dL_thrown_619 ce_L_close rfl ml_L_319 st_L_close (Nat.le_of_ble_eq_true rfl)) (by omega) (by omega) (by omega) (c_lClos (R := (S, sn, tk, ea, [], [], u, le, lf, K)) hR hI.okS hea (fun E hE => mem2 (hg.fa E hE)) (fun hf => absurd (hf.symm.trans hx) (fun z => nomatch z)) (fun eE v hE hv H4 g4 hR1 e4 => ?_))
        obtain rfl : v = (-1002) := cod hv hE hx (by decide +kernel)
        obtain ⟨K, hR⟩ : ∃ K2 : ScC, RG G H4 g4 o (S, sn, tk, ea, [], [], u, le, lf, K2) := ⟨_, hR1⟩
        replace E := E.trans e4
        clear hx hg hE hv hR1
        refine V_sipush (v := (-1002)) dL_thrown_622 (by decide) ?_
        refine V_icmp_ne (tgt := 776) dL_thrown_625 (by decide) (fun c => absurd rfl c) (fun _ => ?_)
        refine V_aload_0 dL_thrown_628 ?_
        refine V_iload_8 dL_thrown_629 ?_
        refine V_call_i (runSX2 dL_thrown_631 ce_L_percentage rfl ml_L_310 st_L_percentage (Nat.le_of_ble_eq_true rfl)) (by omega) (by omega) (by omega) (c_lPct (R := (S, sn, tk, ea, [], [], u, le, lf, K)) hR fun H5 g5 hR e5 => ?_)
        replace E := E.trans e5
        refine V_int (y := (-1002)) (by rw [vDf, if_pos (hasb_t hC), if_pos hs]) ?_
        refine V_sipush (v := (-1002)) dL_thrown_634 (by decide) ?_
        refine V_icmp_ne (tgt := 776) dL_thrown_637 (by decide) (fun c => absurd rfl c) (fun _ => ?_)
        refine V_aload_0 dL_thrown_640 ?_
        refine V_iload_8 dL_thrown_641 ?_
        refine V_call_i (runSX2 dL_thrown_643 ce_L_award rfl ml_L_351 st_L_award (Nat.le_of_ble_eq_true rfl)) (by omega) (by omega) (by omega) (c_lAwd (R := (S, sn, tk, ea, [], [], u, le, lf, K)) hR fun H6 g6 hR e6 => ?_)
        replace E := E.trans e6
        refine V_int (y := (-1002)) (by rw [vDf, if_pos (hasb_t hC), if_pos hs]) ?_
        refine V_sipush (v := (-1002)) dL_thrown_646 (by decide) ?_
        refine V_icmp_ne (tgt := 776) dL_thrown_649 (by decide) (fun c => absurd rfl c) (fun _ => ?_)
        refine V_aload_0 dL_thrown_652 ?_
        refine V_iload_8 dL_thrown_653 ?_
        refine V_call_i (runSX2 dL_thrown_655 ce_L_cost rfl ml_L_308 st_L_cost (Nat.le_of_ble_eq_true rfl)) (by omega) (by omega) (by omega) (c_lCst (R := (S, sn, tk, ea, [], [], u, le, lf, K)) hR fun H7 g7 hR e7 => ?_)
        replace E := E.trans e7
        refine V_int (y := (-1002)) (by rw [vDf, if_pos (hasb_t hC), if_pos hs]) ?_
        refine V_sipush (v := (-1002)) dL_thrown_658 (by decide) ?_
        refine V_icmp_ne (tgt := 776) dL_thrown_661 (by decide) (fun c => absurd rfl c) (fun _ => ?_)
        refine V_goto (tgt := 691) dL_thrown_664 (by decide) ?_
        refine V_aload_0 dL_thrown_691 ?_
        refine V_iload_8 dL_thrown_692 ?_
        refine V_call_i (runSX2 dL_thrown_694 ce_L_state rfl ml_L_349 st_L_state (Nat.le_of_ble_eq_true rfl)) (by omega) (by omega) (by omega) (c_lSta (R := (S, sn, tk, ea, [], [], u, le, lf, K)) hR fun H8 g8 hR e8 => ?_)
        replace E := E.trans e8
        refine V_int (y := 102) (hsv.trans hs) ?_
        refine V_bipush (v := 100) dL_thrown_697 (by decide) ?_
        refine V_icmp_ne (tgt := 714) dL_thrown_699 (by decide) (fun _ => ?_) (fun c => absurd c (by decide))
        refine V_aload_0 dL_thrown_714 ?_
        refine V_iload_8 dL_thrown_715 ?_
        refine V_iconst (v := (-1)) dL_thrown_717 rfl ?_
        refine V_call_i (runSX3 dL_thrown_718 ce_L_matterLetter rfl ml_L_353 st_L_matterLetter (Nat.le_of_ble_eq_true rfl)) (by omega) (by omega) (by omega) (c_lMLt (R := (S, sn, tk, ea, [], [], u, le, lf, K)) hR (fun _ => Or.inl (by decide)) (fun h => absurd hC h) (fun _ H9 g9 hR e9 => ?_))
        replace E := E.trans e9
        refine V_sipush (v := (-1002)) dL_thrown_721 (by decide) ?_
        refine V_icmp_ne (tgt := 776) dL_thrown_724 (by decide) (fun c => absurd rfl c) (fun _ => ?_)
        refine V_aload_0 dL_thrown_727 ?_
        refine V_iload_8 dL_thrown_728 ?_
        refine V_aload_0 dL_thrown_730 ?_
        refine V_iload_8 dL_thrown_731 ?_
        refine V_call_i (runSX2 dL_thrown_733 ce_L_matterLength rfl ml_L_355 st_L_matterLength (Nat.le_of_ble_eq_true rfl)) (by omega) (by omega) (by omega) (c_lMLn (R := (S, sn, tk, ea, [], [], u, le, lf, K)) hR fun H10 g10 hR e10 => ?_)
        replace E := E.trans e10
        refine V_int (y := nI (cMt (theC S.2.2.1 id)).length) (hmv) ?_
        refine V_call_i (runSX3 dL_thrown_736 ce_L_matterLetter rfl ml_L_353 st_L_matterLetter (Nat.le_of_ble_eq_true rfl)) (by omega) (by omega) (by omega) (c_lMLt (R := (S, sn, tk, ea, [], [], u, le, lf, K)) hR (fun _ => Or.inr (Int32.lt_irrefl)) (fun h => absurd hC h) (fun _ H11 g11 hR e11 => ?_))
        replace E := E.trans e11
        refine V_sipush (v := (-1002)) dL_thrown_739 (by decide) ?_
        refine V_icmp_ne (tgt := 776) dL_thrown_742 (by decide) (fun c => absurd rfl c) (fun _ => ?_)
        refine V_aload_0 dL_thrown_745 ?_
        refine V_iload_8 dL_thrown_746 ?_
        refine V_iload_4 dL_thrown_748 ?_
        refine V_call_i (runSX3 dL_thrown_750 ce_L_distance rfl ml_L_357 st_L_distance (Nat.le_of_ble_eq_true rfl)) (by omega) (by omega) (by omega) (c_lDst (R := (S, sn, tk, ea, [], [], u, le, lf, K)) hR (fun _ q => q.2 (Int32.le_refl _)) (fun h => absurd hC h) (fun _ H12 g12 hR e12 => ?_))
        replace E := E.trans e12
        refine V_sipush (v := (-1002)) dL_thrown_753 (by decide) ?_
        refine V_icmp_ne (tgt := 776) dL_thrown_756 (by decide) (fun c => absurd rfl c) (fun _ => ?_)
        refine V_aload_0 dL_thrown_759 ?_
        refine V_iload_8 dL_thrown_760 ?_
        refine V_iconst (v := (-1)) dL_thrown_762 rfl ?_
        refine V_call_i (runSX3 dL_thrown_763 ce_L_byEnds rfl ml_L_359 st_L_byEnds (Nat.le_of_ble_eq_true rfl)) (by omega) (by omega) (by omega) (c_lDsE (R := (S, sn, tk, ea, [], [], u, le, lf, K)) hR (fun _ q => q.1 (by decide)) (fun h => absurd hC h) (fun _ H13 g13 hR e13 => ?_))
        replace E := E.trans e13
        refine V_sipush (v := (-1002)) dL_thrown_766 (by decide) ?_
        refine V_icmp_ne (tgt := 776) dL_thrown_769 (by decide) (fun c => absurd rfl c) (fun _ => ?_)
        refine V_iconst (v := 1) dL_thrown_772 rfl ?_
        refine V_goto (tgt := 777) dL_thrown_773 (by decide) ?_
        refine V_istore_6 dL_thrown_777 rfl ?_
        refine V_iload_9 dL_thrown_779 ?_
        refine V_if_eq (tgt := 831) dL_thrown_781 (by decide) (fun c => absurd c (by decide)) (fun _ => ?_)
        refine V_iload_4 dL_thrown_784 ?_
        refine V_if_ne (tgt := 831) dL_thrown_786 (by decide) (fun _ => ?_) (fun c => absurd c (nz (by omega) (by omega)))
        refine V_iinc_7 (v := 1) dL_thrown_831 rfl rfl ?_
        refine V_goto (tgt := 559) dL_thrown_834 (by decide) ?_
        refine V_drop 8 rfl ?_
        refine V_drop 9 rfl ?_
        rw [nI_s]
        exact V_mono (c2 := cc + 150 * k) (s2 := ss + 6800 * k) (by omega) (by omega) (ih (j + 1) K _ _ (by omega) hR E kk)
      · skip
        refine V_int (y := 114) (hsv.trans hs) ?_
        refine V_bipush (v := 102) dL_thrown_582 (by decide) ?_
        refine V_icmp_ne (tgt := 591) dL_thrown_584 (by decide) (fun _ => ?_) (fun c => absurd c (by decide))
        refine V_iconst (v := 0) dL_thrown_591 rfl ?_
        refine V_istore_9 dL_thrown_592 rfl ?_
        refine V_iload_6 dL_thrown_594 ?_
        refine V_if_eq (tgt := 776) dL_thrown_596 (by decide) (fun c => absurd c (by decide)) (fun _ => ?_)
        refine V_iload_9 dL_thrown_599 ?_
        refine V_if_eq (tgt := 667) dL_thrown_601 (by decide) (fun _ => ?_) (fun c => absurd rfl c)
        refine V_aload_0 dL_thrown_667 ?_
        refine V_iload_8 dL_thrown_668 ?_
        have hx := xHear2 (S := S) (K := K) hC (by rw [hs]; decide)
        have hg := qHear_g hI (x := id) (K := K)
        refine V_call_i (runSX2 dL_thrown_670 ce_L_hear rfl ml_L_244 st_L_hear (Nat.le_of_ble_eq_true rfl)) (by omega) (by omega) (by omega) (c_lHear (R := (S, sn, tk, ea, [], [], u, le, lf, K)) hR hI.okS hea (fun E hE => mem3 (hg.fa E hE)) (fun hf => absurd (hf.symm.trans hx) (fun z => nomatch z)) (fun eE v hE hv H3 g3 hR1 e3 => ?_))
        obtain rfl : v = (-1002) := cod hv hE hx (by decide +kernel)
        obtain ⟨K, hR⟩ : ∃ K2 : ScC, RG G H3 g3 o (S, sn, tk, ea, [], [], u, le, lf, K2) := ⟨_, hR1⟩
        replace E := E.trans e3
        clear hx hg hE hv hR1
        refine V_sipush (v := (-1002)) dL_thrown_673 (by decide) ?_
        refine V_icmp_ne (tgt := 776) dL_thrown_676 (by decide) (fun c => absurd rfl c) (fun _ => ?_)
        refine V_aload_0 dL_thrown_679 ?_
        refine V_iload_8 dL_thrown_680 ?_
        have hx := xWith2 (S := S) hC (by rw [hs]; decide)
        have hg := qWith_g hI (x := id)
        refine V_call_i (runSX2 dL_thrown_682 ce_L_withdraw rfl ml_L_317 st_L_withdraw (Nat.le_of_ble_eq_true rfl)) (by omega) (by omega) (by omega) (c_lWith (R := (S, sn, tk, ea, [], [], u, le, lf, K)) hR hI.okS hea (fun E hE => mem2 (hg.fa E hE)) (fun hf => absurd (hf.symm.trans hx) (fun z => nomatch z)) (fun eE v hE hv H4 g4 hR1 e4 => ?_))
        obtain rfl : v = (-1002) := cod hv hE hx (by decide +kernel)
        obtain ⟨K, hR⟩ : ∃ K2 : ScC, RG G H4 g4 o (S, sn, tk, ea, [], [], u, le, lf, K2) := ⟨_, hR1⟩
        replace E := E.trans e4
        clear hx hg hE hv hR1
        refine V_sipush (v := (-1002)) dL_thrown_685 (by decide) ?_
        refine V_icmp_ne (tgt := 776) dL_thrown_688 (by decide) (fun c => absurd rfl c) (fun _ => ?_)
        refine V_aload_0 dL_thrown_691 ?_
        refine V_iload_8 dL_thrown_692 ?_
        refine V_call_i (runSX2 dL_thrown_694 ce_L_state rfl ml_L_349 st_L_state (Nat.le_of_ble_eq_true rfl)) (by omega) (by omega) (by omega) (c_lSta (R := (S, sn, tk, ea, [], [], u, le, lf, K)) hR fun H5 g5 hR e5 => ?_)
        replace E := E.trans e5
        refine V_int (y := 114) (hsv.trans hs) ?_
        refine V_bipush (v := 100) dL_thrown_697 (by decide) ?_
        refine V_icmp_ne (tgt := 714) dL_thrown_699 (by decide) (fun _ => ?_) (fun c => absurd c (by decide))
        refine V_aload_0 dL_thrown_714 ?_
        refine V_iload_8 dL_thrown_715 ?_
        refine V_iconst (v := (-1)) dL_thrown_717 rfl ?_
        refine V_call_i (runSX3 dL_thrown_718 ce_L_matterLetter rfl ml_L_353 st_L_matterLetter (Nat.le_of_ble_eq_true rfl)) (by omega) (by omega) (by omega) (c_lMLt (R := (S, sn, tk, ea, [], [], u, le, lf, K)) hR (fun _ => Or.inl (by decide)) (fun h => absurd hC h) (fun _ H6 g6 hR e6 => ?_))
        replace E := E.trans e6
        refine V_sipush (v := (-1002)) dL_thrown_721 (by decide) ?_
        refine V_icmp_ne (tgt := 776) dL_thrown_724 (by decide) (fun c => absurd rfl c) (fun _ => ?_)
        refine V_aload_0 dL_thrown_727 ?_
        refine V_iload_8 dL_thrown_728 ?_
        refine V_aload_0 dL_thrown_730 ?_
        refine V_iload_8 dL_thrown_731 ?_
        refine V_call_i (runSX2 dL_thrown_733 ce_L_matterLength rfl ml_L_355 st_L_matterLength (Nat.le_of_ble_eq_true rfl)) (by omega) (by omega) (by omega) (c_lMLn (R := (S, sn, tk, ea, [], [], u, le, lf, K)) hR fun H7 g7 hR e7 => ?_)
        replace E := E.trans e7
        refine V_int (y := nI (cMt (theC S.2.2.1 id)).length) (hmv) ?_
        refine V_call_i (runSX3 dL_thrown_736 ce_L_matterLetter rfl ml_L_353 st_L_matterLetter (Nat.le_of_ble_eq_true rfl)) (by omega) (by omega) (by omega) (c_lMLt (R := (S, sn, tk, ea, [], [], u, le, lf, K)) hR (fun _ => Or.inr (Int32.lt_irrefl)) (fun h => absurd hC h) (fun _ H8 g8 hR e8 => ?_))
        replace E := E.trans e8
        refine V_sipush (v := (-1002)) dL_thrown_739 (by decide) ?_
        refine V_icmp_ne (tgt := 776) dL_thrown_742 (by decide) (fun c => absurd rfl c) (fun _ => ?_)
        refine V_aload_0 dL_thrown_745 ?_
        refine V_iload_8 dL_thrown_746 ?_
        refine V_iload_4 dL_thrown_748 ?_
        refine V_call_i (runSX3 dL_thrown_750 ce_L_distance rfl ml_L_357 st_L_distance (Nat.le_of_ble_eq_true rfl)) (by omega) (by omega) (by omega) (c_lDst (R := (S, sn, tk, ea, [], [], u, le, lf, K)) hR (fun _ q => q.2 (Int32.le_refl _)) (fun h => absurd hC h) (fun _ H9 g9 hR e9 => ?_))
        replace E := E.trans e9
        refine V_sipush (v := (-1002)) dL_thrown_753 (by decide) ?_
        refine V_icmp_ne (tgt := 776) dL_thrown_756 (by decide) (fun c => absurd rfl c) (fun _ => ?_)
        refine V_aload_0 dL_thrown_759 ?_
        refine V_iload_8 dL_thrown_760 ?_
        refine V_iconst (v := (-1)) dL_thrown_762 rfl ?_
        refine V_call_i (runSX3 dL_thrown_763 ce_L_byEnds rfl ml_L_359 st_L_byEnds (Nat.le_of_ble_eq_true rfl)) (by omega) (by omega) (by omega) (c_lDsE (R := (S, sn, tk, ea, [], [], u, le, lf, K)) hR (fun _ q => q.1 (by decide)) (fun h => absurd hC h) (fun _ H10 g10 hR e10 => ?_))
        replace E := E.trans e10
        refine V_sipush (v := (-1002)) dL_thrown_766 (by decide) ?_
        refine V_icmp_ne (tgt := 776) dL_thrown_769 (by decide) (fun c => absurd rfl c) (fun _ => ?_)
        refine V_iconst (v := 1) dL_thrown_772 rfl ?_
        refine V_goto (tgt := 777) dL_thrown_773 (by decide) ?_
        refine V_istore_6 dL_thrown_777 rfl ?_
        refine V_iload_9 dL_thrown_779 ?_
        refine V_if_eq (tgt := 831) dL_thrown_781 (by decide) (fun _ => ?_) (fun c => absurd rfl c)
        refine V_iinc_7 (v := 1) dL_thrown_831 rfl rfl ?_
        refine V_goto (tgt := 559) dL_thrown_834 (by decide) ?_
        refine V_drop 8 rfl ?_
        refine V_drop 9 rfl ?_
        rw [nI_s]
        exact V_mono (c2 := cc + 150 * k) (s2 := ss + 6800 * k) (by omega) (by omega) (ih (j + 1) K _ _ (by omega) hR E kk)
      · skip
        refine V_int (y := 100) (hsv.trans hs) ?_
        refine V_bipush (v := 102) dL_thrown_582 (by decide) ?_
        refine V_icmp_ne (tgt := 591) dL_thrown_584 (by decide) (fun _ => ?_) (fun c => absurd c (by decide))
        refine V_iconst (v := 0) dL_thrown_591 rfl ?_
        refine V_istore_9 dL_thrown_592 rfl ?_
        refine V_iload_6 dL_thrown_594 ?_
        refine V_if_eq (tgt := 776) dL_thrown_596 (by decide) (fun c => absurd c (by decide)) (fun _ => ?_)
        refine V_iload_9 dL_thrown_599 ?_
        refine V_if_eq (tgt := 667) dL_thrown_601 (by decide) (fun _ => ?_) (fun c => absurd rfl c)
        refine V_aload_0 dL_thrown_667 ?_
        refine V_iload_8 dL_thrown_668 ?_
        have hx := xHear2 (S := S) (K := K) hC (by rw [hs]; decide)
        have hg := qHear_g hI (x := id) (K := K)
        refine V_call_i (runSX2 dL_thrown_670 ce_L_hear rfl ml_L_244 st_L_hear (Nat.le_of_ble_eq_true rfl)) (by omega) (by omega) (by omega) (c_lHear (R := (S, sn, tk, ea, [], [], u, le, lf, K)) hR hI.okS hea (fun E hE => mem3 (hg.fa E hE)) (fun hf => absurd (hf.symm.trans hx) (fun z => nomatch z)) (fun eE v hE hv H3 g3 hR1 e3 => ?_))
        obtain rfl : v = (-1002) := cod hv hE hx (by decide +kernel)
        obtain ⟨K, hR⟩ : ∃ K2 : ScC, RG G H3 g3 o (S, sn, tk, ea, [], [], u, le, lf, K2) := ⟨_, hR1⟩
        replace E := E.trans e3
        clear hx hg hE hv hR1
        refine V_sipush (v := (-1002)) dL_thrown_673 (by decide) ?_
        refine V_icmp_ne (tgt := 776) dL_thrown_676 (by decide) (fun c => absurd rfl c) (fun _ => ?_)
        refine V_aload_0 dL_thrown_679 ?_
        refine V_iload_8 dL_thrown_680 ?_
        have hx := xWith2 (S := S) hC (by rw [hs]; decide)
        have hg := qWith_g hI (x := id)
        refine V_call_i (runSX2 dL_thrown_682 ce_L_withdraw rfl ml_L_317 st_L_withdraw (Nat.le_of_ble_eq_true rfl)) (by omega) (by omega) (by omega) (c_lWith (R := (S, sn, tk, ea, [], [], u, le, lf, K)) hR hI.okS hea (fun E hE => mem2 (hg.fa E hE)) (fun hf => absurd (hf.symm.trans hx) (fun z => nomatch z)) (fun eE v hE hv H4 g4 hR1 e4 => ?_))
        obtain rfl : v = (-1002) := cod hv hE hx (by decide +kernel)
        obtain ⟨K, hR⟩ : ∃ K2 : ScC, RG G H4 g4 o (S, sn, tk, ea, [], [], u, le, lf, K2) := ⟨_, hR1⟩
        replace E := E.trans e4
        clear hx hg hE hv hR1
        refine V_sipush (v := (-1002)) dL_thrown_685 (by decide) ?_
        refine V_icmp_ne (tgt := 776) dL_thrown_688 (by decide) (fun c => absurd rfl c) (fun _ => ?_)
        refine V_aload_0 dL_thrown_691 ?_
        refine V_iload_8 dL_thrown_692 ?_
        refine V_call_i (runSX2 dL_thrown_694 ce_L_state rfl ml_L_349 st_L_state (Nat.le_of_ble_eq_true rfl)) (by omega) (by omega) (by omega) (c_lSta (R := (S, sn, tk, ea, [], [], u, le, lf, K)) hR fun H5 g5 hR e5 => ?_)
        replace E := E.trans e5
        refine V_int (y := 100) (hsv.trans hs) ?_
        refine V_bipush (v := 100) dL_thrown_697 (by decide) ?_
        refine V_icmp_ne (tgt := 714) dL_thrown_699 (by decide) (fun c => absurd rfl c) (fun _ => ?_)
        refine V_aload_0 dL_thrown_702 ?_
        refine V_iload_8 dL_thrown_703 ?_
        have hx := xApp2 (S := S) (K := K) hC (by rw [hs]; decide)
        have hg := qApp_g hI (x := id) (K := K)
        refine V_call_i (runSX2 dL_thrown_705 ce_L_appeal rfl ml_L_315 st_L_appeal (Nat.le_of_ble_eq_true rfl)) (by omega) (by omega) (by omega) (c_lApp (R := (S, sn, tk, ea, [], [], u, le, lf, K)) hR hI.okS hea (fun E hE => mem3 (hg.fa E hE)) (fun hf => absurd (hf.symm.trans hx) (fun z => nomatch z)) (fun eE v hE hv H6 g6 hR1 e6 => ?_))
        obtain rfl : v = (-1002) := cod hv hE hx (by decide +kernel)
        obtain ⟨K, hR⟩ : ∃ K2 : ScC, RG G H6 g6 o (S, sn, tk, ea, [], [], u, le, lf, K2) := ⟨_, hR1⟩
        replace E := E.trans e6
        clear hx hg hE hv hR1
        refine V_sipush (v := (-1002)) dL_thrown_708 (by decide) ?_
        refine V_icmp_ne (tgt := 776) dL_thrown_711 (by decide) (fun c => absurd rfl c) (fun _ => ?_)
        refine V_aload_0 dL_thrown_714 ?_
        refine V_iload_8 dL_thrown_715 ?_
        refine V_iconst (v := (-1)) dL_thrown_717 rfl ?_
        refine V_call_i (runSX3 dL_thrown_718 ce_L_matterLetter rfl ml_L_353 st_L_matterLetter (Nat.le_of_ble_eq_true rfl)) (by omega) (by omega) (by omega) (c_lMLt (R := (S, sn, tk, ea, [], [], u, le, lf, K)) hR (fun _ => Or.inl (by decide)) (fun h => absurd hC h) (fun _ H7 g7 hR e7 => ?_))
        replace E := E.trans e7
        refine V_sipush (v := (-1002)) dL_thrown_721 (by decide) ?_
        refine V_icmp_ne (tgt := 776) dL_thrown_724 (by decide) (fun c => absurd rfl c) (fun _ => ?_)
        refine V_aload_0 dL_thrown_727 ?_
        refine V_iload_8 dL_thrown_728 ?_
        refine V_aload_0 dL_thrown_730 ?_
        refine V_iload_8 dL_thrown_731 ?_
        refine V_call_i (runSX2 dL_thrown_733 ce_L_matterLength rfl ml_L_355 st_L_matterLength (Nat.le_of_ble_eq_true rfl)) (by omega) (by omega) (by omega) (c_lMLn (R := (S, sn, tk, ea, [], [], u, le, lf, K)) hR fun H8 g8 hR e8 => ?_)
        replace E := E.trans e8
        refine V_int (y := nI (cMt (theC S.2.2.1 id)).length) (hmv) ?_
        refine V_call_i (runSX3 dL_thrown_736 ce_L_matterLetter rfl ml_L_353 st_L_matterLetter (Nat.le_of_ble_eq_true rfl)) (by omega) (by omega) (by omega) (c_lMLt (R := (S, sn, tk, ea, [], [], u, le, lf, K)) hR (fun _ => Or.inr (Int32.lt_irrefl)) (fun h => absurd hC h) (fun _ H9 g9 hR e9 => ?_))
        replace E := E.trans e9
        refine V_sipush (v := (-1002)) dL_thrown_739 (by decide) ?_
        refine V_icmp_ne (tgt := 776) dL_thrown_742 (by decide) (fun c => absurd rfl c) (fun _ => ?_)
        refine V_aload_0 dL_thrown_745 ?_
        refine V_iload_8 dL_thrown_746 ?_
        refine V_iload_4 dL_thrown_748 ?_
        refine V_call_i (runSX3 dL_thrown_750 ce_L_distance rfl ml_L_357 st_L_distance (Nat.le_of_ble_eq_true rfl)) (by omega) (by omega) (by omega) (c_lDst (R := (S, sn, tk, ea, [], [], u, le, lf, K)) hR (fun _ q => q.2 (Int32.le_refl _)) (fun h => absurd hC h) (fun _ H10 g10 hR e10 => ?_))
        replace E := E.trans e10
        refine V_sipush (v := (-1002)) dL_thrown_753 (by decide) ?_
        refine V_icmp_ne (tgt := 776) dL_thrown_756 (by decide) (fun c => absurd rfl c) (fun _ => ?_)
        refine V_aload_0 dL_thrown_759 ?_
        refine V_iload_8 dL_thrown_760 ?_
        refine V_iconst (v := (-1)) dL_thrown_762 rfl ?_
        refine V_call_i (runSX3 dL_thrown_763 ce_L_byEnds rfl ml_L_359 st_L_byEnds (Nat.le_of_ble_eq_true rfl)) (by omega) (by omega) (by omega) (c_lDsE (R := (S, sn, tk, ea, [], [], u, le, lf, K)) hR (fun _ q => q.1 (by decide)) (fun h => absurd hC h) (fun _ H11 g11 hR e11 => ?_))
        replace E := E.trans e11
        refine V_sipush (v := (-1002)) dL_thrown_766 (by decide) ?_
        refine V_icmp_ne (tgt := 776) dL_thrown_769 (by decide) (fun c => absurd rfl c) (fun _ => ?_)
        refine V_iconst (v := 1) dL_thrown_772 rfl ?_
        refine V_goto (tgt := 777) dL_thrown_773 (by decide) ?_
        refine V_istore_6 dL_thrown_777 rfl ?_
        refine V_iload_9 dL_thrown_779 ?_
        refine V_if_eq (tgt := 831) dL_thrown_781 (by decide) (fun _ => ?_) (fun c => absurd rfl c)
        refine V_iinc_7 (v := 1) dL_thrown_831 rfl rfl ?_
        refine V_goto (tgt := 559) dL_thrown_834 (by decide) ?_
        refine V_drop 8 rfl ?_
        refine V_drop 9 rfl ?_
        rw [nI_s]
        exact V_mono (c2 := cc + 150 * k) (s2 := ss + 6800 * k) (by omega) (by omega) (ih (j + 1) K _ _ (by omega) hR E kk)
set_option maxHeartbeats 4000000 in
set_option maxRecDepth 100000 in
theorem c_thrown {G : GT} {X : String → Heap → Prop} {H : Heap} {g : Nat → Nat} {o m : Nat} {S sn : StC} {tk : Int32} {ea : List StC} {u : List Int32} {le lf : Int32} {K : ScC} {wd : List Int32} (hm2 : 2 ≤ m) (hm8 : m ≤ 8) (hn : S.2.2.2.2.1 = nI m) (hI : INV 28 S) (hea : ea.length ≤ 8) (hps : 3 ≤ S.2.2.2.1.length) (hc5 : S.2.2.1.length = 5) (hR : RG G H g o (S, sn, tk, ea, wd, [], u, le, lf, K)) {F : Int32 → Heap → Prop} (kk : ∀ (u2 : List Int32) (K2 : ScC) (le2 lf2 : Int32) (H1 : Heap) (g1 : Nat → Nat), RG G H1 g1 o (S, sn, tk, ea, [], [], u2, le2, lf2, K2) → Ext G tsA H g H1 g1 → F 1 H1) : Call G kL_thrown 15 36500 674000 [.ref o] H (qi F) X := by
  refine startL (L0 := [some (.ref o), none, none, none, none, none, none, none, none, none]) rfl rfl pl_L_thrown (Nat.le_of_ble_eq_true rfl) ?_
  have h12 := hI.2.2.1
  refine V_txt (g := g) 36 rfl (l := [97, 98]) (by decide +kernel) fun hS => ?_
  refine V_aload_0 dL_thrown_0 ?_
  refine V_ldcsw (i := 36) dL_thrown_1 rfl ?_
  refine V_call_i (runS2 dL_thrown_4 ce_L_types rfl ml_L_186 st_L_types (Nat.le_of_ble_eq_true rfl)) (by omega) (by omega) (by omega) (c_types (w := [97, 98]) (by decide) (by decide) hS hR fun H1 g1 hR1 e1 => ?_)
  refine V_if_ne (tgt := 12) dL_thrown_7 (by decide) (fun _ => ?_) (fun c => absurd c (by decide))
  refine V_aload_0 dL_thrown_12 ?_
  refine V_call_l (runS1 dL_thrown_13 ce_L_asks rfl ml_L_338 st_L_asks (Nat.le_of_ble_eq_true rfl)) (by omega) (by omega) (by omega) (c_asks hI (show RG G H1 g1 o (S, sn, tk, ea, [97, 98], [], u, le, lf, K) from hR1) fun u2 K2 H2 g2 hR2 e2 => ?_)
  refine V_lstore_1 dL_thrown_16 rfl ?_
  refine V_aload_0 dL_thrown_17 ?_
  obtain ⟨fo, hfo⟩ := hR2.o
  refine V_call_i (runV0 dL_thrown_18 ce_X12_buttonCount rfl ml_L_246 im_X12_buttonCount se_X12_buttonCount hfo ⟨_, rfl, rfl⟩ (Nat.le_of_ble_eq_true rfl)) (by omega) (by omega) (by omega) (c_fBut (R := (S, sn, tk, ea, [97, 98], [], u2, le, lf, K2)) hR2 ?_)
  refine V_int (y := nI m) (hn) ?_
  refine V_istore_3 dL_thrown_21 rfl ?_
  refine V_aload_0 dL_thrown_22 ?_
  refine V_call_i (runV0 dL_thrown_23 ce_X12_precedentCount rfl ml_L_275 im_X12_precedentCount se_X12_precedentCount hfo ⟨_, rfl, rfl⟩ (Nat.le_of_ble_eq_true rfl)) (by omega) (by omega) (by omega) (c_fPre (R := (S, sn, tk, ea, [97, 98], [], u2, le, lf, K2)) hR2 ?_)
  refine V_istore_4 dL_thrown_26 rfl ?_
  refine V_aload_0 dL_thrown_28 ?_
  refine V_call_i (runV0 dL_thrown_29 ce_X12_day rfl ml_L_272 im_X12_day se_X12_day hfo ⟨_, rfl, rfl⟩ (Nat.le_of_ble_eq_true rfl)) (by omega) (by omega) (by omega) (c_fDay (R := (S, sn, tk, ea, [97, 98], [], u2, le, lf, K2)) hR2 ?_)
  refine V_istore_5 dL_thrown_32 rfl ?_
  refine V_mono (c2 := 33541 + 120 + 150 * S.2.2.1.length + 90 + 1230) (s2 := 404200 + 20000 + 6800 * S.2.2.1.length + 4700 + 66000) (by omega) (by omega) ?_
  refine c_thA hm2 hm8 hn hI hea hR2 (fun K3 H3 g3 hR3 e3 => ?_)
  refine c_thB hm2 hm8 hn hI hea hR3 (fun K4 H4 g4 hR4 e4 => ?_)
  refine V_iconst (v := 0) dL_thrown_556 rfl ?_
  refine V_istore_7 dL_thrown_557 rfl ?_
  refine c_thE (H0 := H) (g0 := g) hI hea hps S.2.2.1.length 0 K4 H4 g4 (by omega) hR4 (((e1.trans e2).trans e3).trans e4) (fun K5 H5 g5 hR5 e5 => ?_)
  refine c_thC hm2 hm8 hn hI hea hR5 (fun K6 H6 g6 hR6 e6 => ?_)
  exact c_thD hI hea hR6 (fun u7 K7 le7 lf7 H7 g7 hR7 e7 => kk u7 K7 le7 lf7 H7 g7 hR7 ((e5.trans e6).trans e7))

theorem vCf_n {f : CaseC → Int32} {S : StC} {x : Int32} (h : posOf S.2.2.1 x < 0) : vCf f S x = -1001 := by rw [vCf, if_neg (hasb_f (noC h))]
theorem vDf_n {f : CaseC → Int32} {S : StC} {x : Int32} (h : posOf S.2.2.1 x < 0) : vDf f S x = -1001 := by rw [vDf, if_neg (hasb_f (noC h))]
theorem vNea_n {S : StC} {x : Int32} (h : posOf S.2.2.1 x < 0) : vNea S x = -1001 := by rw [vNea, if_neg (hasb_f (noC h))]
theorem vBal_n {S : StC} {x : Int32} (h : hasB S.2.2.2.2.1 x = false) : vBal S x = 1000000 := by rw [vBal, if_neg (by rw [h]; decide)]
theorem vCAt_n {S : StC} {x : Int32} (h : x < 0 ∨ nI S.2.2.1.length ≤ x) : vCAt S x = -1001 := by rw [vCAt, if_neg (fun z => h.elim z.1 z.2)]
theorem vPPc_n {S : StC} {x : Int32} (h : x < 0 ∨ nI S.2.2.2.1.length ≤ x) : vPPc S x = -1001 := by rw [vPPc, if_neg (fun z => h.elim z.1 z.2)]
/-- ranks are numbers below the count -/
theorem buL_r {bal ten : List Int32} {n x : Int32} : ∀ (k s : Nat) (i : Int32), s + k < 2 ^ 20 → ∃ t : Nat, s ≤ t ∧ t ≤ s + k ∧ buttonsBeforeL bal ten n x k (nI s) i = nI t := by
  intro k
  induction k with
  | zero => intro s i h; exact ⟨s, by omega, by omega, by rw [buttonsBeforeL]⟩
  | succ k ih =>
    intro s i h
    rw [buttonsBeforeL]
    split
    · exact ⟨s, by omega, by omega, rfl⟩
    · split
      · obtain ⟨t, t1, t2, t3⟩ := ih s (i + 1) (by omega)
        exact ⟨t, t1, by omega, t3⟩
      · rw [nI_s]
        obtain ⟨t, t1, t2, t3⟩ := ih (s + 1) (i + 1) (by omega)
        exact ⟨t, by omega, by omega, t3⟩
set_option maxHeartbeats 4000000 in
set_option maxRecDepth 100000 in
theorem c_thB {G : GT} {Q : Option Value → Heap → Prop} {X : String → Heap → Prop} {H : Heap} {g : Nat → Nat} {o m : Nat} {S sn : StC} {tk : Int32} {ea : List StC} {u : List Int32} {le lf : Int32} {K : ScC} (hm2 : 2 ≤ m) (hm8 : m ≤ 8) (hn : S.2.2.2.2.1 = nI m) (hI : INV 28 S) (hea : ea.length ≤ 8) (hR : RG G H g o (S, sn, tk, ea, [97, 98], [], u, le, lf, K)) {c s : Nat} {sum : Int64} {d5 : Int32} (kk : ∀ (K2 : ScC) (H1 : Heap) (g1 : Nat → Nat), RG G H1 g1 o (S, sn, tk, ea, [], [], u, le, lf, K2) → Ext G tsA H g H1 g1 → V G kL_thrown 15 c s Q X 556 [some (.ref o), some (.long sum), none, some (.int (nI m)), some (.int (nI S.2.2.2.1.length)), some (.int d5), some (.int 1), none, none, none] [] H1) : V G kL_thrown 15 (c + 90) (s + 4700) Q X 479 [some (.ref o), some (.long sum), none, some (.int (nI m)), some (.int (nI S.2.2.2.1.length)), some (.int d5), some (.int 1), none, none, none] [] H := by
  have hb0 : hasB S.2.2.2.2.1 0 = true := by rw [hn]; exact hasB_t (j := 0) (by omega) (by omega)
  have hb1 : hasB S.2.2.2.2.1 1 = true := by rw [hn]; exact hasB_t (j := 1) (by omega) (by omega)
  have E : Ext G tsA H g H g := Ext.rf
  have h12 := hI.2.2.1
  have h20 := hI.2.2.2.2.1
  obtain ⟨fo, hfo⟩ := hR.o
  refine V_aload_0 dL_thrown_479 ?_
  refine V_call_i (runV0 dL_thrown_480 ce_X12_clearWord rfl ml_L_170 im_X12_clearWord se_X12_clearWord hfo ⟨_, rfl, rfl⟩ (Nat.le_of_ble_eq_true rfl)) (by omega) (by omega) (by omega) (c_fClr (R := (S, sn, tk, ea, [97, 98], [], u, le, lf, K)) hR fun H1 g1 hR e1 => ?_)
  replace E := E.trans e1
  refine V_iconst (v := 2) dL_thrown_483 rfl ?_
  refine V_icmp_eq (tgt := 489) dL_thrown_484 (by decide) (fun c_484 => ?_) (fun c_484 => ?_)
  · refine V_iload_6 dL_thrown_489 ?_
    refine V_if_eq (tgt := 553) dL_thrown_491 (by decide) (fun c => absurd c (by decide)) (fun _ => ?_)
    refine V_aload_0 dL_thrown_494 ?_
    refine V_bipush (v := 50) dL_thrown_495 (by decide) ?_
    by_cases hp : nI S.2.2.2.1.length < 20
    · skip
      have hx := xRule3 (S := S) (x := 50) (by decide) hp
      have hg := qRule_g hI (x := 50) (mt := []) (by decide)
      refine V_call_i (runSX2 dL_thrown_497 ce_L_addPrecedent rfl ml_L_193 st_L_addPrecedent (Nat.le_of_ble_eq_true rfl)) (by omega) (by omega) (by omega) (c_lRule (R := (S, sn, tk, ea, [], [], u, le, lf, K)) hR hI.okS hea (show ([] : List Int32).length ≤ 8 from by decide) (fun E hE => mem3 (hg.fa E hE)) (fun hf => absurd (hf.symm.trans hx) (fun z => nomatch z)) (fun eE v hE hv H2 g2 hR1 e2 => ?_))
      obtain rfl : v = (-1003) := cod hv hE hx (by decide +kernel)
      obtain ⟨K, hR⟩ : ∃ K2 : ScC, RG G H2 g2 o (S, sn, tk, ea, [], [], u, le, lf, K2) := ⟨_, hR1⟩
      replace E := E.trans e2
      clear hx hg hE hv hR1
      refine V_iload_4 dL_thrown_500 ?_
      refine V_bipush (v := 20) dL_thrown_502 (by decide) ?_
      refine V_icmp_ne (tgt := 513) dL_thrown_504 (by decide) (fun c_504 => ?_) (fun c_504 => ?_)
      · refine V_sipush (v := (-1003)) dL_thrown_513 (by decide) ?_
        refine V_icmp_ne (tgt := 553) dL_thrown_516 (by decide) (fun c => absurd rfl c) (fun _ => ?_)
        refine V_aload_0 dL_thrown_519 ?_
        refine V_iconst (v := 0) dL_thrown_520 rfl ?_
        refine V_iconst (v := 1) dL_thrown_521 rfl ?_
        refine V_iconst (v := 5) dL_thrown_522 rfl ?_
        refine V_iconst (v := 1) dL_thrown_523 rfl ?_
        refine V_iconst (v := 5) dL_thrown_524 rfl ?_
        by_cases hl : nI S.2.2.1.length < 12
        · skip
          have hx := xFile6 (S := S) (x1 := 0) (x2 := 1) (x3 := 5) (x4 := 1) (x5 := 5) hb0 hb1 (by decide) (by decide) (by decide) (by decide) hl
          have hg := qFile_g hI (by omega) (x1 := 0) (x2 := 1) (x3 := 5) (x4 := 1) (x5 := 5) (mt := []) (by decide)
          refine V_call_i (runSX6 dL_thrown_525 ce_L_fileCase rfl ml_L_190 st_L_fileCase (Nat.le_of_ble_eq_true rfl)) (by omega) (by omega) (by omega) (c_lFile (R := (S, sn, tk, ea, [], [], u, le, lf, K)) hR hI.okS hea (show ([] : List Int32).length ≤ 8 from by decide) (fun E hE => mem4 (hg.fa E hE)) (fun hf => absurd (hf.symm.trans hx) (fun z => nomatch z)) (fun eE v hE hv H3 g3 hR1 e3 => ?_))
          obtain rfl : v = (-1004) := cod hv hE hx (by decide +kernel)
          obtain ⟨K, hR⟩ : ∃ K2 : ScC, RG G H3 g3 o (S, sn, tk, ea, [], [], u, le, lf, K2) := ⟨_, hR1⟩
          replace E := E.trans e3
          clear hx hg hE hv hR1
          refine V_aload_0 dL_thrown_528 ?_
          obtain ⟨fo2, hfo2⟩ := hR.o
          refine V_call_i (runV0 dL_thrown_529 ce_X12_caseCount rfl ml_L_295 im_X12_caseCount se_X12_caseCount hfo2 ⟨_, rfl, rfl⟩ (Nat.le_of_ble_eq_true rfl)) (by omega) (by omega) (by omega) (c_fCas (R := (S, sn, tk, ea, [], [], u, le, lf, K)) hR ?_)
          refine V_bipush (v := 12) dL_thrown_532 (by decide) ?_
          refine V_icmp_ne (tgt := 543) dL_thrown_534 (by decide) (fun c_534 => ?_) (fun c_534 => ?_)
          · refine V_sipush (v := (-1004)) dL_thrown_543 (by decide) ?_
            refine V_icmp_ne (tgt := 553) dL_thrown_546 (by decide) (fun c => absurd rfl c) (fun _ => ?_)
            refine V_iconst (v := 1) dL_thrown_549 rfl ?_
            refine V_goto (tgt := 554) dL_thrown_550 (by decide) ?_
            refine V_istore_6 dL_thrown_554 rfl ?_
            exact V_mono (c2 := c) (s2 := s) (by omega) (by omega) (kk K _ _ hR E)
          · exact absurd hl (by rw [c_534]; decide)
        · skip
          have hl2 : S.2.2.1.length = 12 := by have := nI_geN (k := 12) (by decide) hl; omega
          have hx := xFile5 (S := S) (x1 := 0) (x2 := 1) (x3 := 5) (x4 := 1) (x5 := 5) (mt := []) hb0 hb1 (by decide) (by decide) (by decide) (by decide) hl
          have hg := qFile_g hI (by omega) (x1 := 0) (x2 := 1) (x3 := 5) (x4 := 1) (x5 := 5) (mt := []) (by decide)
          refine V_call_i (runSX6 dL_thrown_525 ce_L_fileCase rfl ml_L_190 st_L_fileCase (Nat.le_of_ble_eq_true rfl)) (by omega) (by omega) (by omega) (c_lFile (R := (S, sn, tk, ea, [], [], u, le, lf, K)) hR hI.okS hea (show ([] : List Int32).length ≤ 8 from by decide) (fun E hE => mem4 (hg.fa E hE)) (fun hf => absurd (hf.symm.trans hx) (fun z => nomatch z)) (fun eE v hE hv H3 g3 hR1 e3 => ?_))
          obtain rfl : v = (-1003) := cod hv hE hx (by decide +kernel)
          obtain ⟨K, hR⟩ : ∃ K2 : ScC, RG G H3 g3 o (S, sn, tk, ea, [], [], u, le, lf, K2) := ⟨_, hR1⟩
          replace E := E.trans e3
          clear hx hg hE hv hR1
          refine V_aload_0 dL_thrown_528 ?_
          obtain ⟨fo2, hfo2⟩ := hR.o
          refine V_call_i (runV0 dL_thrown_529 ce_X12_caseCount rfl ml_L_295 im_X12_caseCount se_X12_caseCount hfo2 ⟨_, rfl, rfl⟩ (Nat.le_of_ble_eq_true rfl)) (by omega) (by omega) (by omega) (c_fCas (R := (S, sn, tk, ea, [], [], u, le, lf, K)) hR ?_)
          refine V_bipush (v := 12) dL_thrown_532 (by decide) ?_
          refine V_icmp_ne (tgt := 543) dL_thrown_534 (by decide) (fun c_534 => ?_) (fun c_534 => ?_)
          · exact absurd (show nI S.2.2.1.length = 12 from by rw [hl2]; rfl) c_534
          · refine V_sipush (v := (-1003)) dL_thrown_537 (by decide) ?_
            refine V_goto (tgt := 546) dL_thrown_540 (by decide) ?_
            refine V_icmp_ne (tgt := 553) dL_thrown_546 (by decide) (fun c => absurd rfl c) (fun _ => ?_)
            refine V_iconst (v := 1) dL_thrown_549 rfl ?_
            refine V_goto (tgt := 554) dL_thrown_550 (by decide) ?_
            refine V_istore_6 dL_thrown_554 rfl ?_
            exact V_mono (c2 := c) (s2 := s) (by omega) (by omega) (kk K _ _ hR E)
      · exact absurd hp (by rw [c_504]; decide)
    · skip
      have hp2 : S.2.2.2.1.length = 20 := by have := nI_geN (k := 20) (by decide) hp; omega
      have hx := xRule2 (S := S) (x := 50) (mt := []) (by decide) hp
      have hg := qRule_g hI (x := 50) (mt := []) (by decide)
      refine V_call_i (runSX2 dL_thrown_497 ce_L_addPrecedent rfl ml_L_193 st_L_addPrecedent (Nat.le_of_ble_eq_true rfl)) (by omega) (by omega) (by omega) (c_lRule (R := (S, sn, tk, ea, [], [], u, le, lf, K)) hR hI.okS hea (show ([] : List Int32).length ≤ 8 from by decide) (fun E hE => mem3 (hg.fa E hE)) (fun hf => absurd (hf.symm.trans hx) (fun z => nomatch z)) (fun eE v hE hv H2 g2 hR1 e2 => ?_))
      obtain rfl : v = (-1002) := cod hv hE hx (by decide +kernel)
      obtain ⟨K, hR⟩ : ∃ K2 : ScC, RG G H2 g2 o (S, sn, tk, ea, [], [], u, le, lf, K2) := ⟨_, hR1⟩
      replace E := E.trans e2
      clear hx hg hE hv hR1
      refine V_iload_4 dL_thrown_500 ?_
      refine V_bipush (v := 20) dL_thrown_502 (by decide) ?_
      refine V_icmp_ne (tgt := 513) dL_thrown_504 (by decide) (fun c_504 => ?_) (fun c_504 => ?_)
      · exact absurd (show nI S.2.2.2.1.length = 20 from by rw [hp2]; rfl) c_504
      · refine V_sipush (v := (-1002)) dL_thrown_507 (by decide) ?_
        refine V_goto (tgt := 516) dL_thrown_510 (by decide) ?_
        refine V_icmp_ne (tgt := 553) dL_thrown_516 (by decide) (fun c => absurd rfl c) (fun _ => ?_)
        refine V_aload_0 dL_thrown_519 ?_
        refine V_iconst (v := 0) dL_thrown_520 rfl ?_
        refine V_iconst (v := 1) dL_thrown_521 rfl ?_
        refine V_iconst (v := 5) dL_thrown_522 rfl ?_
        refine V_iconst (v := 1) dL_thrown_523 rfl ?_
        refine V_iconst (v := 5) dL_thrown_524 rfl ?_
        by_cases hl : nI S.2.2.1.length < 12
        · skip
          have hx := xFile6 (S := S) (x1 := 0) (x2 := 1) (x3 := 5) (x4 := 1) (x5 := 5) hb0 hb1 (by decide) (by decide) (by decide) (by decide) hl
          have hg := qFile_g hI (by omega) (x1 := 0) (x2 := 1) (x3 := 5) (x4 := 1) (x5 := 5) (mt := []) (by decide)
          refine V_call_i (runSX6 dL_thrown_525 ce_L_fileCase rfl ml_L_190 st_L_fileCase (Nat.le_of_ble_eq_true rfl)) (by omega) (by omega) (by omega) (c_lFile (R := (S, sn, tk, ea, [], [], u, le, lf, K)) hR hI.okS hea (show ([] : List Int32).length ≤ 8 from by decide) (fun E hE => mem4 (hg.fa E hE)) (fun hf => absurd (hf.symm.trans hx) (fun z => nomatch z)) (fun eE v hE hv H3 g3 hR1 e3 => ?_))
          obtain rfl : v = (-1004) := cod hv hE hx (by decide +kernel)
          obtain ⟨K, hR⟩ : ∃ K2 : ScC, RG G H3 g3 o (S, sn, tk, ea, [], [], u, le, lf, K2) := ⟨_, hR1⟩
          replace E := E.trans e3
          clear hx hg hE hv hR1
          refine V_aload_0 dL_thrown_528 ?_
          obtain ⟨fo2, hfo2⟩ := hR.o
          refine V_call_i (runV0 dL_thrown_529 ce_X12_caseCount rfl ml_L_295 im_X12_caseCount se_X12_caseCount hfo2 ⟨_, rfl, rfl⟩ (Nat.le_of_ble_eq_true rfl)) (by omega) (by omega) (by omega) (c_fCas (R := (S, sn, tk, ea, [], [], u, le, lf, K)) hR ?_)
          refine V_bipush (v := 12) dL_thrown_532 (by decide) ?_
          refine V_icmp_ne (tgt := 543) dL_thrown_534 (by decide) (fun c_534 => ?_) (fun c_534 => ?_)
          · refine V_sipush (v := (-1004)) dL_thrown_543 (by decide) ?_
            refine V_icmp_ne (tgt := 553) dL_thrown_546 (by decide) (fun c => absurd rfl c) (fun _ => ?_)
            refine V_iconst (v := 1) dL_thrown_549 rfl ?_
            refine V_goto (tgt := 554) dL_thrown_550 (by decide) ?_
            refine V_istore_6 dL_thrown_554 rfl ?_
            exact V_mono (c2 := c) (s2 := s) (by omega) (by omega) (kk K _ _ hR E)
          · exact absurd hl (by rw [c_534]; decide)
        · skip
          have hl2 : S.2.2.1.length = 12 := by have := nI_geN (k := 12) (by decide) hl; omega
          have hx := xFile5 (S := S) (x1 := 0) (x2 := 1) (x3 := 5) (x4 := 1) (x5 := 5) (mt := []) hb0 hb1 (by decide) (by decide) (by decide) (by decide) hl
          have hg := qFile_g hI (by omega) (x1 := 0) (x2 := 1) (x3 := 5) (x4 := 1) (x5 := 5) (mt := []) (by decide)
          refine V_call_i (runSX6 dL_thrown_525 ce_L_fileCase rfl ml_L_190 st_L_fileCase (Nat.le_of_ble_eq_true rfl)) (by omega) (by omega) (by omega) (c_lFile (R := (S, sn, tk, ea, [], [], u, le, lf, K)) hR hI.okS hea (show ([] : List Int32).length ≤ 8 from by decide) (fun E hE => mem4 (hg.fa E hE)) (fun hf => absurd (hf.symm.trans hx) (fun z => nomatch z)) (fun eE v hE hv H3 g3 hR1 e3 => ?_))
          obtain rfl : v = (-1003) := cod hv hE hx (by decide +kernel)
          obtain ⟨K, hR⟩ : ∃ K2 : ScC, RG G H3 g3 o (S, sn, tk, ea, [], [], u, le, lf, K2) := ⟨_, hR1⟩
          replace E := E.trans e3
          clear hx hg hE hv hR1
          refine V_aload_0 dL_thrown_528 ?_
          obtain ⟨fo2, hfo2⟩ := hR.o
          refine V_call_i (runV0 dL_thrown_529 ce_X12_caseCount rfl ml_L_295 im_X12_caseCount se_X12_caseCount hfo2 ⟨_, rfl, rfl⟩ (Nat.le_of_ble_eq_true rfl)) (by omega) (by omega) (by omega) (c_fCas (R := (S, sn, tk, ea, [], [], u, le, lf, K)) hR ?_)
          refine V_bipush (v := 12) dL_thrown_532 (by decide) ?_
          refine V_icmp_ne (tgt := 543) dL_thrown_534 (by decide) (fun c_534 => ?_) (fun c_534 => ?_)
          · exact absurd (show nI S.2.2.1.length = 12 from by rw [hl2]; rfl) c_534
          · refine V_sipush (v := (-1003)) dL_thrown_537 (by decide) ?_
            refine V_goto (tgt := 546) dL_thrown_540 (by decide) ?_
            refine V_icmp_ne (tgt := 553) dL_thrown_546 (by decide) (fun c => absurd rfl c) (fun _ => ?_)
            refine V_iconst (v := 1) dL_thrown_549 rfl ?_
            refine V_goto (tgt := 554) dL_thrown_550 (by decide) ?_
            refine V_istore_6 dL_thrown_554 rfl ?_
            exact V_mono (c2 := c) (s2 := s) (by omega) (by omega) (kk K _ _ hR E)
  · exact absurd rfl c_484

theorem maxOK {B : Int32} (h : ¬ (998 : Int32) < B) : ¬ isBtw (imax 1 (B + 1)) 1 999 = 0 ∧ ¬ imax 1 (B + 1) ≤ B := by
  have h1 : B.toInt ≤ 998 := Int32.le_iff_toInt_le.mp (Int32.not_lt.mp h)
  have h2 : -(2 ^ 31) ≤ B.toInt := Int32.le_toInt B
  have h3 : (B + 1).toInt = B.toInt + 1 := by
    rw [Int32.toInt_add, show (1 : Int32).toInt = 1 from rfl]
    exact Int.bmod_eq_of_le (by omega) (by omega)
  unfold imax
  by_cases hc : 1 < B + 1
  · rw [if_pos hc]
    have hc' := Int32.lt_iff_toInt_lt.mp hc
    rw [h3] at hc'
    have hc2 : (1 : Int) < B.toInt + 1 := hc'
    refine ⟨?_, fun z => ?_⟩
    · rw [isBtw, if_neg (fun z => ?_), if_neg (fun z => ?_)]
      · decide
      · have := Int32.lt_iff_toInt_lt.mp z
        rw [h3] at this
        have q : (999 : Int) < B.toInt + 1 := this
        omega
      · have := Int32.lt_iff_toInt_lt.mp z
        rw [h3] at this
        have q : B.toInt + 1 < (1 : Int) := this
        omega
    · have := Int32.le_iff_toInt_le.mp z
      rw [h3] at this
      omega
  · rw [if_neg hc]
    have hc' : ¬ (1 : Int) < B.toInt + 1 := fun z => hc (Int32.lt_iff_toInt_lt.mpr (by rw [h3]; exact z))
    refine ⟨by decide, fun z => ?_⟩
    have := Int32.le_iff_toInt_le.mp z
    have q : (1 : Int) ≤ B.toInt := this
    omega
set_option maxHeartbeats 4000000 in
set_option maxRecDepth 100000 in
theorem c_thA {G : GT} {Q : Option Value → Heap → Prop} {X : String → Heap → Prop} {H : Heap} {g : Nat → Nat} {o m : Nat} {S sn : StC} {tk : Int32} {ea : List StC} {u : List Int32} {le lf : Int32} {K : ScC} (hm2 : 2 ≤ m) (hm8 : m ≤ 8) (hn : S.2.2.2.2.1 = nI m) (hI : INV 28 S) (hea : ea.length ≤ 8) (hR : RG G H g o (S, sn, tk, ea, [97, 98], [], u, le, lf, K)) {c s : Nat} {sum : Int64} {r4 d5 : Int32} (kk : ∀ (K2 : ScC) (H1 : Heap) (g1 : Nat → Nat), RG G H1 g1 o (S, sn, tk, ea, [97, 98], [], u, le, lf, K2) → Ext G tsA H g H1 g1 → V G kL_thrown 15 c s Q X 479 [some (.ref o), some (.long sum), none, some (.int (nI m)), some (.int r4), some (.int d5), some (.int 1), none, none, none] [] H1) : V G kL_thrown 15 (c + 1230) (s + 66000) Q X 34 [some (.ref o), some (.long sum), none, some (.int (nI m)), some (.int r4), some (.int d5), none, none, none, none] [] H := by
  have hb0 : hasB S.2.2.2.2.1 0 = true := by rw [hn]; exact hasB_t (j := 0) (by omega) (by omega)
  have hb1 : hasB S.2.2.2.2.1 1 = true := by rw [hn]; exact hasB_t (j := 1) (by omega) (by omega)
  have hbn : hasB S.2.2.2.2.1 (nI m) = false := by rw [hn]; exact decide_eq_false (p := ¬ nI m < 0 ∧ ¬ nI m ≤ nI m) (fun z => z.2 (Int32.le_refl _))
  have hbm : hasB S.2.2.2.2.1 (-1) = false := decide_eq_false (p := ¬ (-1 : Int32) < 0 ∧ ¬ S.2.2.2.2.1 ≤ -1) (fun z => z.1 (by decide))
  have E : Ext G tsA H g H g := Ext.rf
  refine V_iload_3 dL_thrown_34 ?_
  refine V_bipush (v := 8) dL_thrown_35 (by decide) ?_
  refine V_icmp_lt (tgt := 50) dL_thrown_37 (by decide) (fun c_37 => ?_) (fun c_37 => ?_)
  · refine V_aload_0 dL_thrown_50 ?_
    refine V_iload_3 dL_thrown_51 ?_
    refine V_iload_3 dL_thrown_52 ?_
    refine V_iconst (v := 0) dL_thrown_53 rfl ?_
    have hx := xJoin1 (S := S) (x := nI m) (y := nI m) (z := 0) hbn
    have hg := qJoin_g hI (x := nI m) (y := nI m) (z := 0)
    refine V_call_i (runSX4 dL_thrown_54 ce_L_setBond rfl ml_L_229 st_L_setBond (Nat.le_of_ble_eq_true rfl)) (by omega) (by omega) (by omega) (c_lBond (R := (S, sn, tk, ea, [97, 98], [], u, le, lf, K)) hR hI.okS hea (fun E hE => mem2 (hg.fa E hE)) (fun hf => absurd (hf.symm.trans hx) (fun z => nomatch z)) (fun eE v hE hv H1 g1 hR1 e1 => ?_))
    obtain rfl : v = (-1001) := cod hv hE hx (by decide +kernel)
    obtain ⟨K, hR⟩ : ∃ K2 : ScC, RG G H1 g1 o (S, sn, tk, ea, [97, 98], [], u, le, lf, K2) := ⟨_, hR1⟩
    replace E := E.trans e1
    clear hx hg hE hv hR1
    refine V_sipush (v := (-1001)) dL_thrown_57 (by decide) ?_
    refine V_icmp_ne (tgt := 476) dL_thrown_60 (by decide) (fun c => absurd rfl c) (fun _ => ?_)
    refine V_aload_0 dL_thrown_63 ?_
    refine V_iconst (v := 0) dL_thrown_64 rfl ?_
    refine V_iconst (v := (-1)) dL_thrown_65 rfl ?_
    refine V_iconst (v := 5) dL_thrown_66 rfl ?_
    have hx := xJoin2 (S := S) (x := 0) (y := (-1)) (z := 5) hb0 hbm
    have hg := qJoin_g hI (x := 0) (y := (-1)) (z := 5)
    refine V_call_i (runSX4 dL_thrown_67 ce_L_setBond rfl ml_L_229 st_L_setBond (Nat.le_of_ble_eq_true rfl)) (by omega) (by omega) (by omega) (c_lBond (R := (S, sn, tk, ea, [97, 98], [], u, le, lf, K)) hR hI.okS hea (fun E hE => mem2 (hg.fa E hE)) (fun hf => absurd (hf.symm.trans hx) (fun z => nomatch z)) (fun eE v hE hv H2 g2 hR1 e2 => ?_))
    obtain rfl : v = (-1001) := cod hv hE hx (by decide +kernel)
    obtain ⟨K, hR⟩ : ∃ K2 : ScC, RG G H2 g2 o (S, sn, tk, ea, [97, 98], [], u, le, lf, K2) := ⟨_, hR1⟩
    replace E := E.trans e2
    clear hx hg hE hv hR1
    refine V_sipush (v := (-1001)) dL_thrown_70 (by decide) ?_
    refine V_icmp_ne (tgt := 476) dL_thrown_73 (by decide) (fun c => absurd rfl c) (fun _ => ?_)
    refine V_aload_0 dL_thrown_76 ?_
    refine V_iconst (v := 0) dL_thrown_77 rfl ?_
    refine V_iconst (v := 0) dL_thrown_78 rfl ?_
    refine V_iconst (v := 5) dL_thrown_79 rfl ?_
    have hx := xJoin3 (S := S) (x := 0) (z := 5) hb0
    have hg := qJoin_g hI (x := 0) (y := 0) (z := 5)
    refine V_call_i (runSX4 dL_thrown_80 ce_L_setBond rfl ml_L_229 st_L_setBond (Nat.le_of_ble_eq_true rfl)) (by omega) (by omega) (by omega) (c_lBond (R := (S, sn, tk, ea, [97, 98], [], u, le, lf, K)) hR hI.okS hea (fun E hE => mem2 (hg.fa E hE)) (fun hf => absurd (hf.symm.trans hx) (fun z => nomatch z)) (fun eE v hE hv H3 g3 hR1 e3 => ?_))
    obtain rfl : v = (-1002) := cod hv hE hx (by decide +kernel)
    obtain ⟨K, hR⟩ : ∃ K2 : ScC, RG G H3 g3 o (S, sn, tk, ea, [97, 98], [], u, le, lf, K2) := ⟨_, hR1⟩
    replace E := E.trans e3
    clear hx hg hE hv hR1
    refine V_sipush (v := (-1002)) dL_thrown_83 (by decide) ?_
    refine V_icmp_ne (tgt := 476) dL_thrown_86 (by decide) (fun c => absurd rfl c) (fun _ => ?_)
    refine V_aload_0 dL_thrown_89 ?_
    refine V_iconst (v := 0) dL_thrown_90 rfl ?_
    refine V_iconst (v := 1) dL_thrown_91 rfl ?_
    refine V_iconst (v := 0) dL_thrown_92 rfl ?_
    have hx := xJoin4 (S := S) (x := 0) (y := 1) (z := 0) hb0 hb1 (by decide) (by decide)
    have hg := qJoin_g hI (x := 0) (y := 1) (z := 0)
    refine V_call_i (runSX4 dL_thrown_93 ce_L_setBond rfl ml_L_229 st_L_setBond (Nat.le_of_ble_eq_true rfl)) (by omega) (by omega) (by omega) (c_lBond (R := (S, sn, tk, ea, [97, 98], [], u, le, lf, K)) hR hI.okS hea (fun E hE => mem2 (hg.fa E hE)) (fun hf => absurd (hf.symm.trans hx) (fun z => nomatch z)) (fun eE v hE hv H4 g4 hR1 e4 => ?_))
    obtain rfl : v = (-1002) := cod hv hE hx (by decide +kernel)
    obtain ⟨K, hR⟩ : ∃ K2 : ScC, RG G H4 g4 o (S, sn, tk, ea, [97, 98], [], u, le, lf, K2) := ⟨_, hR1⟩
    replace E := E.trans e4
    clear hx hg hE hv hR1
    refine V_sipush (v := (-1002)) dL_thrown_96 (by decide) ?_
    refine V_icmp_ne (tgt := 476) dL_thrown_99 (by decide) (fun c => absurd rfl c) (fun _ => ?_)
    refine V_aload_0 dL_thrown_102 ?_
    refine V_iconst (v := 0) dL_thrown_103 rfl ?_
    refine V_iconst (v := 1) dL_thrown_104 rfl ?_
    refine V_bipush (v := 21) dL_thrown_105 (by decide) ?_
    have hx := xJoin4 (S := S) (x := 0) (y := 1) (z := 21) hb0 hb1 (by decide) (by decide)
    have hg := qJoin_g hI (x := 0) (y := 1) (z := 21)
    refine V_call_i (runSX4 dL_thrown_107 ce_L_setBond rfl ml_L_229 st_L_setBond (Nat.le_of_ble_eq_true rfl)) (by omega) (by omega) (by omega) (c_lBond (R := (S, sn, tk, ea, [97, 98], [], u, le, lf, K)) hR hI.okS hea (fun E hE => mem2 (hg.fa E hE)) (fun hf => absurd (hf.symm.trans hx) (fun z => nomatch z)) (fun eE v hE hv H5 g5 hR1 e5 => ?_))
    obtain rfl : v = (-1002) := cod hv hE hx (by decide +kernel)
    obtain ⟨K, hR⟩ : ∃ K2 : ScC, RG G H5 g5 o (S, sn, tk, ea, [97, 98], [], u, le, lf, K2) := ⟨_, hR1⟩
    replace E := E.trans e5
    clear hx hg hE hv hR1
    refine V_sipush (v := (-1002)) dL_thrown_110 (by decide) ?_
    refine V_icmp_ne (tgt := 476) dL_thrown_113 (by decide) (fun c => absurd rfl c) (fun _ => ?_)
    refine V_aload_0 dL_thrown_116 ?_
    refine V_iload_3 dL_thrown_117 ?_
    refine V_iload_3 dL_thrown_118 ?_
    have hx := xSep1 (S := S) (x := nI m) (y := nI m) hbn
    have hg := qSep_g hI (x := nI m) (y := nI m)
    refine V_call_i (runSX3 dL_thrown_119 ce_L_cutBond rfl ml_L_312 st_L_cutBond (Nat.le_of_ble_eq_true rfl)) (by omega) (by omega) (by omega) (c_lCut (R := (S, sn, tk, ea, [97, 98], [], u, le, lf, K)) hR hI.okS hea (fun E hE => mem2 (hg.fa E hE)) (fun hf => absurd (hf.symm.trans hx) (fun z => nomatch z)) (fun eE v hE hv H6 g6 hR1 e6 => ?_))
    obtain rfl : v = (-1001) := cod hv hE hx (by decide +kernel)
    obtain ⟨K, hR⟩ : ∃ K2 : ScC, RG G H6 g6 o (S, sn, tk, ea, [97, 98], [], u, le, lf, K2) := ⟨_, hR1⟩
    replace E := E.trans e6
    clear hx hg hE hv hR1
    refine V_sipush (v := (-1001)) dL_thrown_122 (by decide) ?_
    refine V_icmp_ne (tgt := 476) dL_thrown_125 (by decide) (fun c => absurd rfl c) (fun _ => ?_)
    refine V_aload_0 dL_thrown_128 ?_
    refine V_iconst (v := 0) dL_thrown_129 rfl ?_
    refine V_iconst (v := 0) dL_thrown_130 rfl ?_
    have hx := xSep2 (S := S) (x := 0) (y := 0) hb0 hb0 (show gI S.2.1 0 = 0 from hI.2.1.2)
    have hg := qSep_g hI (x := 0) (y := 0)
    refine V_call_i (runSX3 dL_thrown_131 ce_L_cutBond rfl ml_L_312 st_L_cutBond (Nat.le_of_ble_eq_true rfl)) (by omega) (by omega) (by omega) (c_lCut (R := (S, sn, tk, ea, [97, 98], [], u, le, lf, K)) hR hI.okS hea (fun E hE => mem2 (hg.fa E hE)) (fun hf => absurd (hf.symm.trans hx) (fun z => nomatch z)) (fun eE v hE hv H7 g7 hR1 e7 => ?_))
    obtain rfl : v = (-1002) := cod hv hE hx (by decide +kernel)
    obtain ⟨K, hR⟩ : ∃ K2 : ScC, RG G H7 g7 o (S, sn, tk, ea, [97, 98], [], u, le, lf, K2) := ⟨_, hR1⟩
    replace E := E.trans e7
    clear hx hg hE hv hR1
    refine V_sipush (v := (-1002)) dL_thrown_134 (by decide) ?_
    refine V_icmp_ne (tgt := 476) dL_thrown_137 (by decide) (fun c => absurd rfl c) (fun _ => ?_)
    refine V_aload_0 dL_thrown_140 ?_
    refine V_bipush (v := 123) dL_thrown_141 (by decide) ?_
    refine V_call_i (runSX2 dL_thrown_143 ce_L_typeLetter rfl ml_L_181 st_L_typeLetter (Nat.le_of_ble_eq_true rfl)) (by omega) (by omega) (by omega) (c_lType (R := (S, sn, tk, ea, [97, 98], [], u, le, lf, K)) hR (fun h => absurd rfl h) (fun _ H8 g8 hR e8 => ?_) (fun h => absurd rfl h))
    replace E := E.trans e8
    refine V_sipush (v := (-1001)) dL_thrown_146 (by decide) ?_
    refine V_icmp_ne (tgt := 476) dL_thrown_149 (by decide) (fun c => absurd rfl c) (fun _ => ?_)
    refine V_aload_0 dL_thrown_152 ?_
    refine V_iconst (v := (-1)) dL_thrown_153 rfl ?_
    have hx := xRule1 (S := S) (x := (-1)) (mt := [97, 98]) (by decide)
    have hg := qRule_g hI (x := (-1)) (mt := [97, 98]) (by decide)
    refine V_call_i (runSX2 dL_thrown_154 ce_L_addPrecedent rfl ml_L_193 st_L_addPrecedent (Nat.le_of_ble_eq_true rfl)) (by omega) (by omega) (by omega) (c_lRule (R := (S, sn, tk, ea, [97, 98], [], u, le, lf, K)) hR hI.okS hea (show ([97, 98] : List Int32).length ≤ 8 from by decide) (fun E hE => mem3 (hg.fa E hE)) (fun hf => absurd (hf.symm.trans hx) (fun z => nomatch z)) (fun eE v hE hv H9 g9 hR1 e9 => ?_))
    obtain rfl : v = (-1001) := cod hv hE hx (by decide +kernel)
    obtain ⟨K, hR⟩ : ∃ K2 : ScC, RG G H9 g9 o (S, sn, tk, ea, [97, 98], [], u, le, lf, K2) := ⟨_, hR1⟩
    replace E := E.trans e9
    clear hx hg hE hv hR1
    refine V_sipush (v := (-1001)) dL_thrown_157 (by decide) ?_
    refine V_icmp_ne (tgt := 476) dL_thrown_160 (by decide) (fun c => absurd rfl c) (fun _ => ?_)
    refine V_aload_0 dL_thrown_163 ?_
    refine V_bipush (v := 101) dL_thrown_164 (by decide) ?_
    have hx := xRule1 (S := S) (x := 101) (mt := [97, 98]) (by decide)
    have hg := qRule_g hI (x := 101) (mt := [97, 98]) (by decide)
    refine V_call_i (runSX2 dL_thrown_166 ce_L_addPrecedent rfl ml_L_193 st_L_addPrecedent (Nat.le_of_ble_eq_true rfl)) (by omega) (by omega) (by omega) (c_lRule (R := (S, sn, tk, ea, [97, 98], [], u, le, lf, K)) hR hI.okS hea (show ([97, 98] : List Int32).length ≤ 8 from by decide) (fun E hE => mem3 (hg.fa E hE)) (fun hf => absurd (hf.symm.trans hx) (fun z => nomatch z)) (fun eE v hE hv H10 g10 hR1 e10 => ?_))
    obtain rfl : v = (-1001) := cod hv hE hx (by decide +kernel)
    obtain ⟨K, hR⟩ : ∃ K2 : ScC, RG G H10 g10 o (S, sn, tk, ea, [97, 98], [], u, le, lf, K2) := ⟨_, hR1⟩
    replace E := E.trans e10
    clear hx hg hE hv hR1
    refine V_sipush (v := (-1001)) dL_thrown_169 (by decide) ?_
    refine V_icmp_ne (tgt := 476) dL_thrown_172 (by decide) (fun c => absurd rfl c) (fun _ => ?_)
    refine V_aload_0 dL_thrown_175 ?_
    refine V_iload_3 dL_thrown_176 ?_
    refine V_iload_3 dL_thrown_177 ?_
    refine V_iconst (v := 0) dL_thrown_178 rfl ?_
    refine V_iconst (v := 0) dL_thrown_179 rfl ?_
    refine V_iconst (v := 0) dL_thrown_180 rfl ?_
    have hx := xFile1 (S := S) (x1 := nI m) (x2 := nI m) (x3 := 0) (x4 := 0) (x5 := 0) (mt := [97, 98]) hbn
    have hg := qFile_g hI (by omega) (x1 := nI m) (x2 := nI m) (x3 := 0) (x4 := 0) (x5 := 0) (mt := [97, 98]) (by decide)
    refine V_call_i (runSX6 dL_thrown_181 ce_L_fileCase rfl ml_L_190 st_L_fileCase (Nat.le_of_ble_eq_true rfl)) (by omega) (by omega) (by omega) (c_lFile (R := (S, sn, tk, ea, [97, 98], [], u, le, lf, K)) hR hI.okS hea (show ([97, 98] : List Int32).length ≤ 8 from by decide) (fun E hE => mem4 (hg.fa E hE)) (fun hf => absurd (hf.symm.trans hx) (fun z => nomatch z)) (fun eE v hE hv H11 g11 hR1 e11 => ?_))
    obtain rfl : v = (-1001) := cod hv hE hx (by decide +kernel)
    obtain ⟨K, hR⟩ : ∃ K2 : ScC, RG G H11 g11 o (S, sn, tk, ea, [97, 98], [], u, le, lf, K2) := ⟨_, hR1⟩
    replace E := E.trans e11
    clear hx hg hE hv hR1
    refine V_sipush (v := (-1001)) dL_thrown_184 (by decide) ?_
    refine V_icmp_ne (tgt := 476) dL_thrown_187 (by decide) (fun c => absurd rfl c) (fun _ => ?_)
    refine V_aload_0 dL_thrown_190 ?_
    refine V_iconst (v := 0) dL_thrown_191 rfl ?_
    refine V_iload_3 dL_thrown_192 ?_
    refine V_iconst (v := 5) dL_thrown_193 rfl ?_
    refine V_iconst (v := 1) dL_thrown_194 rfl ?_
    refine V_iconst (v := 5) dL_thrown_195 rfl ?_
    have hx := xFile2 (S := S) (x1 := 0) (x2 := nI m) (x3 := 5) (x4 := 1) (x5 := 5) (mt := [97, 98]) hb0 hbn
    have hg := qFile_g hI (by omega) (x1 := 0) (x2 := nI m) (x3 := 5) (x4 := 1) (x5 := 5) (mt := [97, 98]) (by decide)
    refine V_call_i (runSX6 dL_thrown_196 ce_L_fileCase rfl ml_L_190 st_L_fileCase (Nat.le_of_ble_eq_true rfl)) (by omega) (by omega) (by omega) (c_lFile (R := (S, sn, tk, ea, [97, 98], [], u, le, lf, K)) hR hI.okS hea (show ([97, 98] : List Int32).length ≤ 8 from by decide) (fun E hE => mem4 (hg.fa E hE)) (fun hf => absurd (hf.symm.trans hx) (fun z => nomatch z)) (fun eE v hE hv H12 g12 hR1 e12 => ?_))
    obtain rfl : v = (-1001) := cod hv hE hx (by decide +kernel)
    obtain ⟨K, hR⟩ : ∃ K2 : ScC, RG G H12 g12 o (S, sn, tk, ea, [97, 98], [], u, le, lf, K2) := ⟨_, hR1⟩
    replace E := E.trans e12
    clear hx hg hE hv hR1
    refine V_sipush (v := (-1001)) dL_thrown_199 (by decide) ?_
    refine V_icmp_ne (tgt := 476) dL_thrown_202 (by decide) (fun c => absurd rfl c) (fun _ => ?_)
    refine V_aload_0 dL_thrown_205 ?_
    refine V_iconst (v := 0) dL_thrown_206 rfl ?_
    refine V_iconst (v := 0) dL_thrown_207 rfl ?_
    refine V_iconst (v := 5) dL_thrown_208 rfl ?_
    refine V_iconst (v := 1) dL_thrown_209 rfl ?_
    refine V_iconst (v := 5) dL_thrown_210 rfl ?_
    have hx := xFile3 (S := S) (x1 := 0) (x3 := 5) (x4 := 1) (x5 := 5) (mt := [97, 98]) hb0
    have hg := qFile_g hI (by omega) (x1 := 0) (x2 := 0) (x3 := 5) (x4 := 1) (x5 := 5) (mt := [97, 98]) (by decide)
    refine V_call_i (runSX6 dL_thrown_211 ce_L_fileCase rfl ml_L_190 st_L_fileCase (Nat.le_of_ble_eq_true rfl)) (by omega) (by omega) (by omega) (c_lFile (R := (S, sn, tk, ea, [97, 98], [], u, le, lf, K)) hR hI.okS hea (show ([97, 98] : List Int32).length ≤ 8 from by decide) (fun E hE => mem4 (hg.fa E hE)) (fun hf => absurd (hf.symm.trans hx) (fun z => nomatch z)) (fun eE v hE hv H13 g13 hR1 e13 => ?_))
    obtain rfl : v = (-1002) := cod hv hE hx (by decide +kernel)
    obtain ⟨K, hR⟩ : ∃ K2 : ScC, RG G H13 g13 o (S, sn, tk, ea, [97, 98], [], u, le, lf, K2) := ⟨_, hR1⟩
    replace E := E.trans e13
    clear hx hg hE hv hR1
    refine V_sipush (v := (-1002)) dL_thrown_214 (by decide) ?_
    refine V_icmp_ne (tgt := 476) dL_thrown_217 (by decide) (fun c => absurd rfl c) (fun _ => ?_)
    refine V_aload_0 dL_thrown_220 ?_
    refine V_iconst (v := 0) dL_thrown_221 rfl ?_
    refine V_iconst (v := 1) dL_thrown_222 rfl ?_
    refine V_iconst (v := 0) dL_thrown_223 rfl ?_
    refine V_iconst (v := 1) dL_thrown_224 rfl ?_
    refine V_iconst (v := 5) dL_thrown_225 rfl ?_
    have hx := xFile4 (S := S) (x1 := 0) (x2 := 1) (x3 := 0) (x4 := 1) (x5 := 5) (mt := [97, 98]) hb0 hb1 (by decide) (Or.inl (by decide))
    have hg := qFile_g hI (by omega) (x1 := 0) (x2 := 1) (x3 := 0) (x4 := 1) (x5 := 5) (mt := [97, 98]) (by decide)
    refine V_call_i (runSX6 dL_thrown_226 ce_L_fileCase rfl ml_L_190 st_L_fileCase (Nat.le_of_ble_eq_true rfl)) (by omega) (by omega) (by omega) (c_lFile (R := (S, sn, tk, ea, [97, 98], [], u, le, lf, K)) hR hI.okS hea (show ([97, 98] : List Int32).length ≤ 8 from by decide) (fun E hE => mem4 (hg.fa E hE)) (fun hf => absurd (hf.symm.trans hx) (fun z => nomatch z)) (fun eE v hE hv H14 g14 hR1 e14 => ?_))
    obtain rfl : v = (-1002) := cod hv hE hx (by decide +kernel)
    obtain ⟨K, hR⟩ : ∃ K2 : ScC, RG G H14 g14 o (S, sn, tk, ea, [97, 98], [], u, le, lf, K2) := ⟨_, hR1⟩
    replace E := E.trans e14
    clear hx hg hE hv hR1
    refine V_sipush (v := (-1002)) dL_thrown_229 (by decide) ?_
    refine V_icmp_ne (tgt := 476) dL_thrown_232 (by decide) (fun c => absurd rfl c) (fun _ => ?_)
    refine V_aload_0 dL_thrown_235 ?_
    refine V_iconst (v := 0) dL_thrown_236 rfl ?_
    refine V_iconst (v := 1) dL_thrown_237 rfl ?_
    refine V_bipush (v := 100) dL_thrown_238 (by decide) ?_
    refine V_iconst (v := 1) dL_thrown_240 rfl ?_
    refine V_iconst (v := 5) dL_thrown_241 rfl ?_
    have hx := xFile4 (S := S) (x1 := 0) (x2 := 1) (x3 := 100) (x4 := 1) (x5 := 5) (mt := [97, 98]) hb0 hb1 (by decide) (Or.inl (by decide))
    have hg := qFile_g hI (by omega) (x1 := 0) (x2 := 1) (x3 := 100) (x4 := 1) (x5 := 5) (mt := [97, 98]) (by decide)
    refine V_call_i (runSX6 dL_thrown_242 ce_L_fileCase rfl ml_L_190 st_L_fileCase (Nat.le_of_ble_eq_true rfl)) (by omega) (by omega) (by omega) (c_lFile (R := (S, sn, tk, ea, [97, 98], [], u, le, lf, K)) hR hI.okS hea (show ([97, 98] : List Int32).length ≤ 8 from by decide) (fun E hE => mem4 (hg.fa E hE)) (fun hf => absurd (hf.symm.trans hx) (fun z => nomatch z)) (fun eE v hE hv H15 g15 hR1 e15 => ?_))
    obtain rfl : v = (-1002) := cod hv hE hx (by decide +kernel)
    obtain ⟨K, hR⟩ : ∃ K2 : ScC, RG G H15 g15 o (S, sn, tk, ea, [97, 98], [], u, le, lf, K2) := ⟨_, hR1⟩
    replace E := E.trans e15
    clear hx hg hE hv hR1
    refine V_sipush (v := (-1002)) dL_thrown_245 (by decide) ?_
    refine V_icmp_ne (tgt := 476) dL_thrown_248 (by decide) (fun c => absurd rfl c) (fun _ => ?_)
    refine V_aload_0 dL_thrown_251 ?_
    refine V_iconst (v := 0) dL_thrown_252 rfl ?_
    refine V_iconst (v := 1) dL_thrown_253 rfl ?_
    refine V_iconst (v := 5) dL_thrown_254 rfl ?_
    refine V_iconst (v := 0) dL_thrown_255 rfl ?_
    refine V_iconst (v := 5) dL_thrown_256 rfl ?_
    have hx := xFile4 (S := S) (x1 := 0) (x2 := 1) (x3 := 5) (x4 := 0) (x5 := 5) (mt := [97, 98]) hb0 hb1 (by decide) (Or.inr (Or.inl (by decide)))
    have hg := qFile_g hI (by omega) (x1 := 0) (x2 := 1) (x3 := 5) (x4 := 0) (x5 := 5) (mt := [97, 98]) (by decide)
    refine V_call_i (runSX6 dL_thrown_257 ce_L_fileCase rfl ml_L_190 st_L_fileCase (Nat.le_of_ble_eq_true rfl)) (by omega) (by omega) (by omega) (c_lFile (R := (S, sn, tk, ea, [97, 98], [], u, le, lf, K)) hR hI.okS hea (show ([97, 98] : List Int32).length ≤ 8 from by decide) (fun E hE => mem4 (hg.fa E hE)) (fun hf => absurd (hf.symm.trans hx) (fun z => nomatch z)) (fun eE v hE hv H16 g16 hR1 e16 => ?_))
    obtain rfl : v = (-1002) := cod hv hE hx (by decide +kernel)
    obtain ⟨K, hR⟩ : ∃ K2 : ScC, RG G H16 g16 o (S, sn, tk, ea, [97, 98], [], u, le, lf, K2) := ⟨_, hR1⟩
    replace E := E.trans e16
    clear hx hg hE hv hR1
    refine V_sipush (v := (-1002)) dL_thrown_260 (by decide) ?_
    refine V_icmp_ne (tgt := 476) dL_thrown_263 (by decide) (fun c => absurd rfl c) (fun _ => ?_)
    refine V_aload_0 dL_thrown_266 ?_
    refine V_iconst (v := 0) dL_thrown_267 rfl ?_
    refine V_iconst (v := 1) dL_thrown_268 rfl ?_
    refine V_iconst (v := 5) dL_thrown_269 rfl ?_
    refine V_bipush (v := 6) dL_thrown_270 (by decide) ?_
    refine V_iconst (v := 5) dL_thrown_272 rfl ?_
    have hx := xFile4 (S := S) (x1 := 0) (x2 := 1) (x3 := 5) (x4 := 6) (x5 := 5) (mt := [97, 98]) hb0 hb1 (by decide) (Or.inr (Or.inl (by decide)))
    have hg := qFile_g hI (by omega) (x1 := 0) (x2 := 1) (x3 := 5) (x4 := 6) (x5 := 5) (mt := [97, 98]) (by decide)
    refine V_call_i (runSX6 dL_thrown_273 ce_L_fileCase rfl ml_L_190 st_L_fileCase (Nat.le_of_ble_eq_true rfl)) (by omega) (by omega) (by omega) (c_lFile (R := (S, sn, tk, ea, [97, 98], [], u, le, lf, K)) hR hI.okS hea (show ([97, 98] : List Int32).length ≤ 8 from by decide) (fun E hE => mem4 (hg.fa E hE)) (fun hf => absurd (hf.symm.trans hx) (fun z => nomatch z)) (fun eE v hE hv H17 g17 hR1 e17 => ?_))
    obtain rfl : v = (-1002) := cod hv hE hx (by decide +kernel)
    obtain ⟨K, hR⟩ : ∃ K2 : ScC, RG G H17 g17 o (S, sn, tk, ea, [97, 98], [], u, le, lf, K2) := ⟨_, hR1⟩
    replace E := E.trans e17
    clear hx hg hE hv hR1
    refine V_sipush (v := (-1002)) dL_thrown_276 (by decide) ?_
    refine V_icmp_ne (tgt := 476) dL_thrown_279 (by decide) (fun c => absurd rfl c) (fun _ => ?_)
    refine V_aload_0 dL_thrown_282 ?_
    refine V_iconst (v := 0) dL_thrown_283 rfl ?_
    refine V_iconst (v := 1) dL_thrown_284 rfl ?_
    refine V_iconst (v := 5) dL_thrown_285 rfl ?_
    refine V_iconst (v := 1) dL_thrown_286 rfl ?_
    refine V_iconst (v := (-1)) dL_thrown_287 rfl ?_
    have hx := xFile4 (S := S) (x1 := 0) (x2 := 1) (x3 := 5) (x4 := 1) (x5 := (-1)) (mt := [97, 98]) hb0 hb1 (by decide) (Or.inr (Or.inr (by decide)))
    have hg := qFile_g hI (by omega) (x1 := 0) (x2 := 1) (x3 := 5) (x4 := 1) (x5 := (-1)) (mt := [97, 98]) (by decide)
    refine V_call_i (runSX6 dL_thrown_288 ce_L_fileCase rfl ml_L_190 st_L_fileCase (Nat.le_of_ble_eq_true rfl)) (by omega) (by omega) (by omega) (c_lFile (R := (S, sn, tk, ea, [97, 98], [], u, le, lf, K)) hR hI.okS hea (show ([97, 98] : List Int32).length ≤ 8 from by decide) (fun E hE => mem4 (hg.fa E hE)) (fun hf => absurd (hf.symm.trans hx) (fun z => nomatch z)) (fun eE v hE hv H18 g18 hR1 e18 => ?_))
    obtain rfl : v = (-1002) := cod hv hE hx (by decide +kernel)
    obtain ⟨K, hR⟩ : ∃ K2 : ScC, RG G H18 g18 o (S, sn, tk, ea, [97, 98], [], u, le, lf, K2) := ⟨_, hR1⟩
    replace E := E.trans e18
    clear hx hg hE hv hR1
    refine V_sipush (v := (-1002)) dL_thrown_291 (by decide) ?_
    refine V_icmp_ne (tgt := 476) dL_thrown_294 (by decide) (fun c => absurd rfl c) (fun _ => ?_)
    refine V_aload_0 dL_thrown_297 ?_
    refine V_iconst (v := 0) dL_thrown_298 rfl ?_
    refine V_iconst (v := 1) dL_thrown_299 rfl ?_
    refine V_iconst (v := 5) dL_thrown_300 rfl ?_
    refine V_iconst (v := 1) dL_thrown_301 rfl ?_
    refine V_sipush (v := 1000) dL_thrown_302 (by decide) ?_
    have hx := xFile4 (S := S) (x1 := 0) (x2 := 1) (x3 := 5) (x4 := 1) (x5 := 1000) (mt := [97, 98]) hb0 hb1 (by decide) (Or.inr (Or.inr (by decide)))
    have hg := qFile_g hI (by omega) (x1 := 0) (x2 := 1) (x3 := 5) (x4 := 1) (x5 := 1000) (mt := [97, 98]) (by decide)
    refine V_call_i (runSX6 dL_thrown_305 ce_L_fileCase rfl ml_L_190 st_L_fileCase (Nat.le_of_ble_eq_true rfl)) (by omega) (by omega) (by omega) (c_lFile (R := (S, sn, tk, ea, [97, 98], [], u, le, lf, K)) hR hI.okS hea (show ([97, 98] : List Int32).length ≤ 8 from by decide) (fun E hE => mem4 (hg.fa E hE)) (fun hf => absurd (hf.symm.trans hx) (fun z => nomatch z)) (fun eE v hE hv H19 g19 hR1 e19 => ?_))
    obtain rfl : v = (-1002) := cod hv hE hx (by decide +kernel)
    obtain ⟨K, hR⟩ : ∃ K2 : ScC, RG G H19 g19 o (S, sn, tk, ea, [97, 98], [], u, le, lf, K2) := ⟨_, hR1⟩
    replace E := E.trans e19
    clear hx hg hE hv hR1
    refine V_sipush (v := (-1002)) dL_thrown_308 (by decide) ?_
    refine V_icmp_ne (tgt := 476) dL_thrown_311 (by decide) (fun c => absurd rfl c) (fun _ => ?_)
    refine V_aload_0 dL_thrown_314 ?_
    refine V_bipush (v := 99) dL_thrown_315 (by decide) ?_
    have hx := xHear1 (S := S) (K := K) (no99 hI (by omega))
    have hg := qHear_g hI (x := 99) (K := K)
    refine V_call_i (runSX2 dL_thrown_317 ce_L_hear rfl ml_L_244 st_L_hear (Nat.le_of_ble_eq_true rfl)) (by omega) (by omega) (by omega) (c_lHear (R := (S, sn, tk, ea, [97, 98], [], u, le, lf, K)) hR hI.okS hea (fun E hE => mem3 (hg.fa E hE)) (fun hf => absurd (hf.symm.trans hx) (fun z => nomatch z)) (fun eE v hE hv H20 g20 hR1 e20 => ?_))
    obtain rfl : v = (-1001) := cod hv hE hx (by decide +kernel)
    obtain ⟨K, hR⟩ : ∃ K2 : ScC, RG G H20 g20 o (S, sn, tk, ea, [97, 98], [], u, le, lf, K2) := ⟨_, hR1⟩
    replace E := E.trans e20
    clear hx hg hE hv hR1
    refine V_sipush (v := (-1001)) dL_thrown_320 (by decide) ?_
    refine V_icmp_ne (tgt := 476) dL_thrown_323 (by decide) (fun c => absurd rfl c) (fun _ => ?_)
    refine V_aload_0 dL_thrown_326 ?_
    refine V_iconst (v := (-1)) dL_thrown_327 rfl ?_
    have hx := xApp1 (S := S) (K := K) (noM1 hI (by omega))
    have hg := qApp_g hI (x := -1) (K := K)
    refine V_call_i (runSX2 dL_thrown_328 ce_L_appeal rfl ml_L_315 st_L_appeal (Nat.le_of_ble_eq_true rfl)) (by omega) (by omega) (by omega) (c_lApp (R := (S, sn, tk, ea, [97, 98], [], u, le, lf, K)) hR hI.okS hea (fun E hE => mem3 (hg.fa E hE)) (fun hf => absurd (hf.symm.trans hx) (fun z => nomatch z)) (fun eE v hE hv H21 g21 hR1 e21 => ?_))
    obtain rfl : v = (-1001) := cod hv hE hx (by decide +kernel)
    obtain ⟨K, hR⟩ : ∃ K2 : ScC, RG G H21 g21 o (S, sn, tk, ea, [97, 98], [], u, le, lf, K2) := ⟨_, hR1⟩
    replace E := E.trans e21
    clear hx hg hE hv hR1
    refine V_sipush (v := (-1001)) dL_thrown_331 (by decide) ?_
    refine V_icmp_ne (tgt := 476) dL_thrown_334 (by decide) (fun c => absurd rfl c) (fun _ => ?_)
    refine V_aload_0 dL_thrown_337 ?_
    refine V_bipush (v := 99) dL_thrown_338 (by decide) ?_
    have hx := xWith1 (S := S) (no99 hI (by omega))
    have hg := qWith_g hI (x := 99)
    refine V_call_i (runSX2 dL_thrown_340 ce_L_withdraw rfl ml_L_317 st_L_withdraw (Nat.le_of_ble_eq_true rfl)) (by omega) (by omega) (by omega) (c_lWith (R := (S, sn, tk, ea, [97, 98], [], u, le, lf, K)) hR hI.okS hea (fun E hE => mem2 (hg.fa E hE)) (fun hf => absurd (hf.symm.trans hx) (fun z => nomatch z)) (fun eE v hE hv H22 g22 hR1 e22 => ?_))
    obtain rfl : v = (-1001) := cod hv hE hx (by decide +kernel)
    obtain ⟨K, hR⟩ : ∃ K2 : ScC, RG G H22 g22 o (S, sn, tk, ea, [97, 98], [], u, le, lf, K2) := ⟨_, hR1⟩
    replace E := E.trans e22
    clear hx hg hE hv hR1
    refine V_sipush (v := (-1001)) dL_thrown_343 (by decide) ?_
    refine V_icmp_ne (tgt := 476) dL_thrown_346 (by decide) (fun c => absurd rfl c) (fun _ => ?_)
    refine V_aload_0 dL_thrown_349 ?_
    refine V_bipush (v := 99) dL_thrown_350 (by decide) ?_
    have hx := xClos1 (S := S) (no99 hI (by omega))
    have hg := qClose_g hI (x := 99)
    refine V_call_i (runSX2 dL_thrown_352 ce_L_close rfl ml_L_319 st_L_close (Nat.le_of_ble_eq_true rfl)) (by omega) (by omega) (by omega) (c_lClos (R := (S, sn, tk, ea, [97, 98], [], u, le, lf, K)) hR hI.okS hea (fun E hE => mem2 (hg.fa E hE)) (fun hf => absurd (hf.symm.trans hx) (fun z => nomatch z)) (fun eE v hE hv H23 g23 hR1 e23 => ?_))
    obtain rfl : v = (-1001) := cod hv hE hx (by decide +kernel)
    obtain ⟨K, hR⟩ : ∃ K2 : ScC, RG G H23 g23 o (S, sn, tk, ea, [97, 98], [], u, le, lf, K2) := ⟨_, hR1⟩
    replace E := E.trans e23
    clear hx hg hE hv hR1
    refine V_sipush (v := (-1001)) dL_thrown_355 (by decide) ?_
    refine V_icmp_ne (tgt := 476) dL_thrown_358 (by decide) (fun c => absurd rfl c) (fun _ => ?_)
    refine V_aload_0 dL_thrown_361 ?_
    refine V_iload_3 dL_thrown_362 ?_
    refine V_iload_3 dL_thrown_363 ?_
    refine V_iconst (v := 0) dL_thrown_364 rfl ?_
    have hx := xGive1 (S := S) (x := nI m) (y := nI m) (z := 0) hbn
    have hg := qGive_g hI (x := nI m) (y := nI m) (z := 0)
    refine V_call_i (runSX4 dL_thrown_365 ce_L_give rfl ml_L_321 st_L_give (Nat.le_of_ble_eq_true rfl)) (by omega) (by omega) (by omega) (c_lGive (R := (S, sn, tk, ea, [97, 98], [], u, le, lf, K)) hR hI.okS hea (fun E hE => mem3 (hg.fa E hE)) (fun hf => absurd (hf.symm.trans hx) (fun z => nomatch z)) (fun eE v hE hv H24 g24 hR1 e24 => ?_))
    obtain rfl : v = (-1001) := cod hv hE hx (by decide +kernel)
    obtain ⟨K, hR⟩ : ∃ K2 : ScC, RG G H24 g24 o (S, sn, tk, ea, [97, 98], [], u, le, lf, K2) := ⟨_, hR1⟩
    replace E := E.trans e24
    clear hx hg hE hv hR1
    refine V_sipush (v := (-1001)) dL_thrown_368 (by decide) ?_
    refine V_icmp_ne (tgt := 476) dL_thrown_371 (by decide) (fun c => absurd rfl c) (fun _ => ?_)
    refine V_aload_0 dL_thrown_374 ?_
    refine V_iconst (v := 0) dL_thrown_375 rfl ?_
    refine V_iconst (v := 0) dL_thrown_376 rfl ?_
    refine V_iconst (v := 5) dL_thrown_377 rfl ?_
    have hx := xGive3 (S := S) (x := 0) (z := 5) hb0
    have hg := qGive_g hI (x := 0) (y := 0) (z := 5)
    refine V_call_i (runSX4 dL_thrown_378 ce_L_give rfl ml_L_321 st_L_give (Nat.le_of_ble_eq_true rfl)) (by omega) (by omega) (by omega) (c_lGive (R := (S, sn, tk, ea, [97, 98], [], u, le, lf, K)) hR hI.okS hea (fun E hE => mem3 (hg.fa E hE)) (fun hf => absurd (hf.symm.trans hx) (fun z => nomatch z)) (fun eE v hE hv H25 g25 hR1 e25 => ?_))
    obtain rfl : v = (-1002) := cod hv hE hx (by decide +kernel)
    obtain ⟨K, hR⟩ : ∃ K2 : ScC, RG G H25 g25 o (S, sn, tk, ea, [97, 98], [], u, le, lf, K2) := ⟨_, hR1⟩
    replace E := E.trans e25
    clear hx hg hE hv hR1
    refine V_sipush (v := (-1002)) dL_thrown_381 (by decide) ?_
    refine V_icmp_ne (tgt := 476) dL_thrown_384 (by decide) (fun c => absurd rfl c) (fun _ => ?_)
    refine V_aload_0 dL_thrown_387 ?_
    refine V_iconst (v := 0) dL_thrown_388 rfl ?_
    refine V_iconst (v := 1) dL_thrown_389 rfl ?_
    refine V_iconst (v := 0) dL_thrown_390 rfl ?_
    have hx := xGive4 (S := S) (x := 0) (y := 1) (z := 0) hb0 hb1 (by decide) (by decide)
    have hg := qGive_g hI (x := 0) (y := 1) (z := 0)
    refine V_call_i (runSX4 dL_thrown_391 ce_L_give rfl ml_L_321 st_L_give (Nat.le_of_ble_eq_true rfl)) (by omega) (by omega) (by omega) (c_lGive (R := (S, sn, tk, ea, [97, 98], [], u, le, lf, K)) hR hI.okS hea (fun E hE => mem3 (hg.fa E hE)) (fun hf => absurd (hf.symm.trans hx) (fun z => nomatch z)) (fun eE v hE hv H26 g26 hR1 e26 => ?_))
    obtain rfl : v = (-1002) := cod hv hE hx (by decide +kernel)
    obtain ⟨K, hR⟩ : ∃ K2 : ScC, RG G H26 g26 o (S, sn, tk, ea, [97, 98], [], u, le, lf, K2) := ⟨_, hR1⟩
    replace E := E.trans e26
    clear hx hg hE hv hR1
    refine V_sipush (v := (-1002)) dL_thrown_394 (by decide) ?_
    refine V_icmp_ne (tgt := 476) dL_thrown_397 (by decide) (fun c => absurd rfl c) (fun _ => ?_)
    refine V_aload_0 dL_thrown_400 ?_
    refine V_iconst (v := 0) dL_thrown_401 rfl ?_
    refine V_iconst (v := 1) dL_thrown_402 rfl ?_
    refine V_sipush (v := 1000) dL_thrown_403 (by decide) ?_
    have hx := xGive4 (S := S) (x := 0) (y := 1) (z := 1000) hb0 hb1 (by decide) (by decide)
    have hg := qGive_g hI (x := 0) (y := 1) (z := 1000)
    refine V_call_i (runSX4 dL_thrown_406 ce_L_give rfl ml_L_321 st_L_give (Nat.le_of_ble_eq_true rfl)) (by omega) (by omega) (by omega) (c_lGive (R := (S, sn, tk, ea, [97, 98], [], u, le, lf, K)) hR hI.okS hea (fun E hE => mem3 (hg.fa E hE)) (fun hf => absurd (hf.symm.trans hx) (fun z => nomatch z)) (fun eE v hE hv H27 g27 hR1 e27 => ?_))
    obtain rfl : v = (-1002) := cod hv hE hx (by decide +kernel)
    obtain ⟨K, hR⟩ : ∃ K2 : ScC, RG G H27 g27 o (S, sn, tk, ea, [97, 98], [], u, le, lf, K2) := ⟨_, hR1⟩
    replace E := E.trans e27
    clear hx hg hE hv hR1
    refine V_sipush (v := (-1002)) dL_thrown_409 (by decide) ?_
    refine V_icmp_ne (tgt := 476) dL_thrown_412 (by decide) (fun c => absurd rfl c) (fun _ => ?_)
    refine V_aload_0 dL_thrown_415 ?_
    refine V_iconst (v := 0) dL_thrown_416 rfl ?_
    have hbal : vBal S 0 = rd S.1 8 0 := by rw [vBal, if_pos hb0]
    refine V_call_i (runSX2 dL_thrown_417 ce_L_balance rfl ml_L_342 st_L_balance (Nat.le_of_ble_eq_true rfl)) (by omega) (by omega) (by omega) (c_lBal (R := (S, sn, tk, ea, [97, 98], [], u, le, lf, K)) hR fun H28 g28 hR e28 => ?_)
    replace E := E.trans e28
    refine V_sipush (v := 998) dL_thrown_420 (by decide) ?_
    refine V_icmp_gt (tgt := 449) dL_thrown_423 (by decide) (fun c_423 => ?_) (fun c_423 => ?_)
    · refine V_aload_0 dL_thrown_449 ?_
      refine V_iconst (v := 0) dL_thrown_450 rfl ?_
      have hx := xDays (S := S) (x := 0) (by decide)
      have hg := qDays_g hI (by omega) (x := 0)
      refine V_call_i (runSX2 dL_thrown_451 ce_L_passDays rfl ml_L_334 st_L_passDays (Nat.le_of_ble_eq_true rfl)) (by omega) (by omega) (by omega) (c_lDays (R := (S, sn, tk, ea, [97, 98], [], u, le, lf, K)) hR hI.okS hea (fun E hE => mem1 (hg.fa E hE)) (fun hf => absurd (hf.symm.trans hx) (fun z => nomatch z)) (fun eE v hE hv H29 g29 hR1 e29 => ?_))
      obtain rfl : v = (-1001) := cod hv hE hx (by decide +kernel)
      obtain ⟨K, hR⟩ : ∃ K2 : ScC, RG G H29 g29 o (S, sn, tk, ea, [97, 98], [], u, le, lf, K2) := ⟨_, hR1⟩
      replace E := E.trans e29
      clear hx hg hE hv hR1
      refine V_sipush (v := (-1001)) dL_thrown_454 (by decide) ?_
      refine V_icmp_ne (tgt := 476) dL_thrown_457 (by decide) (fun c => absurd rfl c) (fun _ => ?_)
      refine V_aload_0 dL_thrown_460 ?_
      refine V_bipush (v := 100) dL_thrown_461 (by decide) ?_
      have hx := xDays (S := S) (x := 100) (by decide)
      have hg := qDays_g hI (by omega) (x := 100)
      refine V_call_i (runSX2 dL_thrown_463 ce_L_passDays rfl ml_L_334 st_L_passDays (Nat.le_of_ble_eq_true rfl)) (by omega) (by omega) (by omega) (c_lDays (R := (S, sn, tk, ea, [97, 98], [], u, le, lf, K)) hR hI.okS hea (fun E hE => mem1 (hg.fa E hE)) (fun hf => absurd (hf.symm.trans hx) (fun z => nomatch z)) (fun eE v hE hv H30 g30 hR1 e30 => ?_))
      obtain rfl : v = (-1001) := cod hv hE hx (by decide +kernel)
      obtain ⟨K, hR⟩ : ∃ K2 : ScC, RG G H30 g30 o (S, sn, tk, ea, [97, 98], [], u, le, lf, K2) := ⟨_, hR1⟩
      replace E := E.trans e30
      clear hx hg hE hv hR1
      refine V_sipush (v := (-1001)) dL_thrown_466 (by decide) ?_
      refine V_icmp_ne (tgt := 476) dL_thrown_469 (by decide) (fun c => absurd rfl c) (fun _ => ?_)
      refine V_iconst (v := 1) dL_thrown_472 rfl ?_
      refine V_goto (tgt := 477) dL_thrown_473 (by decide) ?_
      refine V_istore_6 dL_thrown_477 rfl ?_
      exact V_mono (c2 := c) (s2 := s) (by omega) (by omega) (kk K _ _ hR E)
    · refine V_aload_0 dL_thrown_426 ?_
      refine V_iconst (v := 0) dL_thrown_427 rfl ?_
      refine V_iconst (v := 1) dL_thrown_428 rfl ?_
      refine V_iconst (v := 1) dL_thrown_429 rfl ?_
      refine V_aload_0 dL_thrown_430 ?_
      refine V_iconst (v := 0) dL_thrown_431 rfl ?_
      refine V_call_i (runSX2 dL_thrown_432 ce_L_balance rfl ml_L_342 st_L_balance (Nat.le_of_ble_eq_true rfl)) (by omega) (by omega) (by omega) (c_lBal (R := (S, sn, tk, ea, [97, 98], [], u, le, lf, K)) hR fun H29 g29 hR e29 => ?_)
      replace E := E.trans e29
      refine V_iconst (v := 1) dL_thrown_435 rfl ?_
      refine V_iadd dL_thrown_436 ?_
      refine V_mmax dL_thrown_437 ml_L_344 ex_maxS ex_mth ex_maxC (Nat.le_of_ble_eq_true rfl) (Nat.le_of_ble_eq_true rfl) ?_
      have hmx := maxOK c_423
      have hmy := hmx.2
      rw [hbal] at hmy
      have hx := xGive5 (S := S) (x := 0) (y := 1) (z := imax 1 (vBal S 0 + 1)) hb0 hb1 (by decide) hmx.1 (by rw [hbal]; exact hmy)
      have hg := qGive_g hI (x := 0) (y := 1) (z := imax 1 (vBal S 0 + 1))
      refine V_call_i (runSX4 dL_thrown_440 ce_L_give rfl ml_L_321 st_L_give (Nat.le_of_ble_eq_true rfl)) (by omega) (by omega) (by omega) (c_lGive (R := (S, sn, tk, ea, [97, 98], [], u, le, lf, K)) hR hI.okS hea (fun E hE => mem3 (hg.fa E hE)) (fun hf => absurd (hf.symm.trans hx) (fun z => nomatch z)) (fun eE v hE hv H30 g30 hR1 e30 => ?_))
      obtain rfl : v = (-1003) := cod hv hE hx (by decide +kernel)
      obtain ⟨K, hR⟩ : ∃ K2 : ScC, RG G H30 g30 o (S, sn, tk, ea, [97, 98], [], u, le, lf, K2) := ⟨_, hR1⟩
      replace E := E.trans e30
      clear hx hg hE hv hR1
      refine V_sipush (v := (-1003)) dL_thrown_443 (by decide) ?_
      refine V_icmp_ne (tgt := 476) dL_thrown_446 (by decide) (fun c => absurd rfl c) (fun _ => ?_)
      refine V_aload_0 dL_thrown_449 ?_
      refine V_iconst (v := 0) dL_thrown_450 rfl ?_
      have hx := xDays (S := S) (x := 0) (by decide)
      have hg := qDays_g hI (by omega) (x := 0)
      refine V_call_i (runSX2 dL_thrown_451 ce_L_passDays rfl ml_L_334 st_L_passDays (Nat.le_of_ble_eq_true rfl)) (by omega) (by omega) (by omega) (c_lDays (R := (S, sn, tk, ea, [97, 98], [], u, le, lf, K)) hR hI.okS hea (fun E hE => mem1 (hg.fa E hE)) (fun hf => absurd (hf.symm.trans hx) (fun z => nomatch z)) (fun eE v hE hv H31 g31 hR1 e31 => ?_))
      obtain rfl : v = (-1001) := cod hv hE hx (by decide +kernel)
      obtain ⟨K, hR⟩ : ∃ K2 : ScC, RG G H31 g31 o (S, sn, tk, ea, [97, 98], [], u, le, lf, K2) := ⟨_, hR1⟩
      replace E := E.trans e31
      clear hx hg hE hv hR1
      refine V_sipush (v := (-1001)) dL_thrown_454 (by decide) ?_
      refine V_icmp_ne (tgt := 476) dL_thrown_457 (by decide) (fun c => absurd rfl c) (fun _ => ?_)
      refine V_aload_0 dL_thrown_460 ?_
      refine V_bipush (v := 100) dL_thrown_461 (by decide) ?_
      have hx := xDays (S := S) (x := 100) (by decide)
      have hg := qDays_g hI (by omega) (x := 100)
      refine V_call_i (runSX2 dL_thrown_463 ce_L_passDays rfl ml_L_334 st_L_passDays (Nat.le_of_ble_eq_true rfl)) (by omega) (by omega) (by omega) (c_lDays (R := (S, sn, tk, ea, [97, 98], [], u, le, lf, K)) hR hI.okS hea (fun E hE => mem1 (hg.fa E hE)) (fun hf => absurd (hf.symm.trans hx) (fun z => nomatch z)) (fun eE v hE hv H32 g32 hR1 e32 => ?_))
      obtain rfl : v = (-1001) := cod hv hE hx (by decide +kernel)
      obtain ⟨K, hR⟩ : ∃ K2 : ScC, RG G H32 g32 o (S, sn, tk, ea, [97, 98], [], u, le, lf, K2) := ⟨_, hR1⟩
      replace E := E.trans e32
      clear hx hg hE hv hR1
      refine V_sipush (v := (-1001)) dL_thrown_466 (by decide) ?_
      refine V_icmp_ne (tgt := 476) dL_thrown_469 (by decide) (fun c => absurd rfl c) (fun _ => ?_)
      refine V_iconst (v := 1) dL_thrown_472 rfl ?_
      refine V_goto (tgt := 477) dL_thrown_473 (by decide) ?_
      refine V_istore_6 dL_thrown_477 rfl ?_
      exact V_mono (c2 := c) (s2 := s) (by omega) (by omega) (kk K _ _ hR E)
  · refine V_aload_0 dL_thrown_40 ?_
    have h8 : m = 8 := by have := nI_geN (k := 8) (by decide) c_37; omega
    have hx := xEnt (S := S) (by rw [hn, h8]; rfl)
    have hg := qEnt_g hI
    refine V_call_i (runSX1 dL_thrown_41 ce_L_addButton rfl ml_L_227 st_L_addButton (Nat.le_of_ble_eq_true rfl)) (by omega) (by omega) (by omega) (c_lAdd (R := (S, sn, tk, ea, [97, 98], [], u, le, lf, K)) hR hI.okS hea (fun E hE => mem1 (hg.fa E hE)) (fun hf => absurd (hf.symm.trans hx) (fun z => nomatch z)) (fun eE v hE hv H1 g1 hR1 e1 => ?_))
    obtain rfl : v = (-1001) := cod hv hE hx (by decide +kernel)
    obtain ⟨K, hR⟩ : ∃ K2 : ScC, RG G H1 g1 o (S, sn, tk, ea, [97, 98], [], u, le, lf, K2) := ⟨_, hR1⟩
    replace E := E.trans e1
    clear hx hg hE hv hR1
    refine V_sipush (v := (-1001)) dL_thrown_44 (by decide) ?_
    refine V_icmp_ne (tgt := 476) dL_thrown_47 (by decide) (fun c => absurd rfl c) (fun _ => ?_)
    refine V_aload_0 dL_thrown_50 ?_
    refine V_iload_3 dL_thrown_51 ?_
    refine V_iload_3 dL_thrown_52 ?_
    refine V_iconst (v := 0) dL_thrown_53 rfl ?_
    have hx := xJoin1 (S := S) (x := nI m) (y := nI m) (z := 0) hbn
    have hg := qJoin_g hI (x := nI m) (y := nI m) (z := 0)
    refine V_call_i (runSX4 dL_thrown_54 ce_L_setBond rfl ml_L_229 st_L_setBond (Nat.le_of_ble_eq_true rfl)) (by omega) (by omega) (by omega) (c_lBond (R := (S, sn, tk, ea, [97, 98], [], u, le, lf, K)) hR hI.okS hea (fun E hE => mem2 (hg.fa E hE)) (fun hf => absurd (hf.symm.trans hx) (fun z => nomatch z)) (fun eE v hE hv H2 g2 hR1 e2 => ?_))
    obtain rfl : v = (-1001) := cod hv hE hx (by decide +kernel)
    obtain ⟨K, hR⟩ : ∃ K2 : ScC, RG G H2 g2 o (S, sn, tk, ea, [97, 98], [], u, le, lf, K2) := ⟨_, hR1⟩
    replace E := E.trans e2
    clear hx hg hE hv hR1
    refine V_sipush (v := (-1001)) dL_thrown_57 (by decide) ?_
    refine V_icmp_ne (tgt := 476) dL_thrown_60 (by decide) (fun c => absurd rfl c) (fun _ => ?_)
    refine V_aload_0 dL_thrown_63 ?_
    refine V_iconst (v := 0) dL_thrown_64 rfl ?_
    refine V_iconst (v := (-1)) dL_thrown_65 rfl ?_
    refine V_iconst (v := 5) dL_thrown_66 rfl ?_
    have hx := xJoin2 (S := S) (x := 0) (y := (-1)) (z := 5) hb0 hbm
    have hg := qJoin_g hI (x := 0) (y := (-1)) (z := 5)
    refine V_call_i (runSX4 dL_thrown_67 ce_L_setBond rfl ml_L_229 st_L_setBond (Nat.le_of_ble_eq_true rfl)) (by omega) (by omega) (by omega) (c_lBond (R := (S, sn, tk, ea, [97, 98], [], u, le, lf, K)) hR hI.okS hea (fun E hE => mem2 (hg.fa E hE)) (fun hf => absurd (hf.symm.trans hx) (fun z => nomatch z)) (fun eE v hE hv H3 g3 hR1 e3 => ?_))
    obtain rfl : v = (-1001) := cod hv hE hx (by decide +kernel)
    obtain ⟨K, hR⟩ : ∃ K2 : ScC, RG G H3 g3 o (S, sn, tk, ea, [97, 98], [], u, le, lf, K2) := ⟨_, hR1⟩
    replace E := E.trans e3
    clear hx hg hE hv hR1
    refine V_sipush (v := (-1001)) dL_thrown_70 (by decide) ?_
    refine V_icmp_ne (tgt := 476) dL_thrown_73 (by decide) (fun c => absurd rfl c) (fun _ => ?_)
    refine V_aload_0 dL_thrown_76 ?_
    refine V_iconst (v := 0) dL_thrown_77 rfl ?_
    refine V_iconst (v := 0) dL_thrown_78 rfl ?_
    refine V_iconst (v := 5) dL_thrown_79 rfl ?_
    have hx := xJoin3 (S := S) (x := 0) (z := 5) hb0
    have hg := qJoin_g hI (x := 0) (y := 0) (z := 5)
    refine V_call_i (runSX4 dL_thrown_80 ce_L_setBond rfl ml_L_229 st_L_setBond (Nat.le_of_ble_eq_true rfl)) (by omega) (by omega) (by omega) (c_lBond (R := (S, sn, tk, ea, [97, 98], [], u, le, lf, K)) hR hI.okS hea (fun E hE => mem2 (hg.fa E hE)) (fun hf => absurd (hf.symm.trans hx) (fun z => nomatch z)) (fun eE v hE hv H4 g4 hR1 e4 => ?_))
    obtain rfl : v = (-1002) := cod hv hE hx (by decide +kernel)
    obtain ⟨K, hR⟩ : ∃ K2 : ScC, RG G H4 g4 o (S, sn, tk, ea, [97, 98], [], u, le, lf, K2) := ⟨_, hR1⟩
    replace E := E.trans e4
    clear hx hg hE hv hR1
    refine V_sipush (v := (-1002)) dL_thrown_83 (by decide) ?_
    refine V_icmp_ne (tgt := 476) dL_thrown_86 (by decide) (fun c => absurd rfl c) (fun _ => ?_)
    refine V_aload_0 dL_thrown_89 ?_
    refine V_iconst (v := 0) dL_thrown_90 rfl ?_
    refine V_iconst (v := 1) dL_thrown_91 rfl ?_
    refine V_iconst (v := 0) dL_thrown_92 rfl ?_
    have hx := xJoin4 (S := S) (x := 0) (y := 1) (z := 0) hb0 hb1 (by decide) (by decide)
    have hg := qJoin_g hI (x := 0) (y := 1) (z := 0)
    refine V_call_i (runSX4 dL_thrown_93 ce_L_setBond rfl ml_L_229 st_L_setBond (Nat.le_of_ble_eq_true rfl)) (by omega) (by omega) (by omega) (c_lBond (R := (S, sn, tk, ea, [97, 98], [], u, le, lf, K)) hR hI.okS hea (fun E hE => mem2 (hg.fa E hE)) (fun hf => absurd (hf.symm.trans hx) (fun z => nomatch z)) (fun eE v hE hv H5 g5 hR1 e5 => ?_))
    obtain rfl : v = (-1002) := cod hv hE hx (by decide +kernel)
    obtain ⟨K, hR⟩ : ∃ K2 : ScC, RG G H5 g5 o (S, sn, tk, ea, [97, 98], [], u, le, lf, K2) := ⟨_, hR1⟩
    replace E := E.trans e5
    clear hx hg hE hv hR1
    refine V_sipush (v := (-1002)) dL_thrown_96 (by decide) ?_
    refine V_icmp_ne (tgt := 476) dL_thrown_99 (by decide) (fun c => absurd rfl c) (fun _ => ?_)
    refine V_aload_0 dL_thrown_102 ?_
    refine V_iconst (v := 0) dL_thrown_103 rfl ?_
    refine V_iconst (v := 1) dL_thrown_104 rfl ?_
    refine V_bipush (v := 21) dL_thrown_105 (by decide) ?_
    have hx := xJoin4 (S := S) (x := 0) (y := 1) (z := 21) hb0 hb1 (by decide) (by decide)
    have hg := qJoin_g hI (x := 0) (y := 1) (z := 21)
    refine V_call_i (runSX4 dL_thrown_107 ce_L_setBond rfl ml_L_229 st_L_setBond (Nat.le_of_ble_eq_true rfl)) (by omega) (by omega) (by omega) (c_lBond (R := (S, sn, tk, ea, [97, 98], [], u, le, lf, K)) hR hI.okS hea (fun E hE => mem2 (hg.fa E hE)) (fun hf => absurd (hf.symm.trans hx) (fun z => nomatch z)) (fun eE v hE hv H6 g6 hR1 e6 => ?_))
    obtain rfl : v = (-1002) := cod hv hE hx (by decide +kernel)
    obtain ⟨K, hR⟩ : ∃ K2 : ScC, RG G H6 g6 o (S, sn, tk, ea, [97, 98], [], u, le, lf, K2) := ⟨_, hR1⟩
    replace E := E.trans e6
    clear hx hg hE hv hR1
    refine V_sipush (v := (-1002)) dL_thrown_110 (by decide) ?_
    refine V_icmp_ne (tgt := 476) dL_thrown_113 (by decide) (fun c => absurd rfl c) (fun _ => ?_)
    refine V_aload_0 dL_thrown_116 ?_
    refine V_iload_3 dL_thrown_117 ?_
    refine V_iload_3 dL_thrown_118 ?_
    have hx := xSep1 (S := S) (x := nI m) (y := nI m) hbn
    have hg := qSep_g hI (x := nI m) (y := nI m)
    refine V_call_i (runSX3 dL_thrown_119 ce_L_cutBond rfl ml_L_312 st_L_cutBond (Nat.le_of_ble_eq_true rfl)) (by omega) (by omega) (by omega) (c_lCut (R := (S, sn, tk, ea, [97, 98], [], u, le, lf, K)) hR hI.okS hea (fun E hE => mem2 (hg.fa E hE)) (fun hf => absurd (hf.symm.trans hx) (fun z => nomatch z)) (fun eE v hE hv H7 g7 hR1 e7 => ?_))
    obtain rfl : v = (-1001) := cod hv hE hx (by decide +kernel)
    obtain ⟨K, hR⟩ : ∃ K2 : ScC, RG G H7 g7 o (S, sn, tk, ea, [97, 98], [], u, le, lf, K2) := ⟨_, hR1⟩
    replace E := E.trans e7
    clear hx hg hE hv hR1
    refine V_sipush (v := (-1001)) dL_thrown_122 (by decide) ?_
    refine V_icmp_ne (tgt := 476) dL_thrown_125 (by decide) (fun c => absurd rfl c) (fun _ => ?_)
    refine V_aload_0 dL_thrown_128 ?_
    refine V_iconst (v := 0) dL_thrown_129 rfl ?_
    refine V_iconst (v := 0) dL_thrown_130 rfl ?_
    have hx := xSep2 (S := S) (x := 0) (y := 0) hb0 hb0 (show gI S.2.1 0 = 0 from hI.2.1.2)
    have hg := qSep_g hI (x := 0) (y := 0)
    refine V_call_i (runSX3 dL_thrown_131 ce_L_cutBond rfl ml_L_312 st_L_cutBond (Nat.le_of_ble_eq_true rfl)) (by omega) (by omega) (by omega) (c_lCut (R := (S, sn, tk, ea, [97, 98], [], u, le, lf, K)) hR hI.okS hea (fun E hE => mem2 (hg.fa E hE)) (fun hf => absurd (hf.symm.trans hx) (fun z => nomatch z)) (fun eE v hE hv H8 g8 hR1 e8 => ?_))
    obtain rfl : v = (-1002) := cod hv hE hx (by decide +kernel)
    obtain ⟨K, hR⟩ : ∃ K2 : ScC, RG G H8 g8 o (S, sn, tk, ea, [97, 98], [], u, le, lf, K2) := ⟨_, hR1⟩
    replace E := E.trans e8
    clear hx hg hE hv hR1
    refine V_sipush (v := (-1002)) dL_thrown_134 (by decide) ?_
    refine V_icmp_ne (tgt := 476) dL_thrown_137 (by decide) (fun c => absurd rfl c) (fun _ => ?_)
    refine V_aload_0 dL_thrown_140 ?_
    refine V_bipush (v := 123) dL_thrown_141 (by decide) ?_
    refine V_call_i (runSX2 dL_thrown_143 ce_L_typeLetter rfl ml_L_181 st_L_typeLetter (Nat.le_of_ble_eq_true rfl)) (by omega) (by omega) (by omega) (c_lType (R := (S, sn, tk, ea, [97, 98], [], u, le, lf, K)) hR (fun h => absurd rfl h) (fun _ H9 g9 hR e9 => ?_) (fun h => absurd rfl h))
    replace E := E.trans e9
    refine V_sipush (v := (-1001)) dL_thrown_146 (by decide) ?_
    refine V_icmp_ne (tgt := 476) dL_thrown_149 (by decide) (fun c => absurd rfl c) (fun _ => ?_)
    refine V_aload_0 dL_thrown_152 ?_
    refine V_iconst (v := (-1)) dL_thrown_153 rfl ?_
    have hx := xRule1 (S := S) (x := (-1)) (mt := [97, 98]) (by decide)
    have hg := qRule_g hI (x := (-1)) (mt := [97, 98]) (by decide)
    refine V_call_i (runSX2 dL_thrown_154 ce_L_addPrecedent rfl ml_L_193 st_L_addPrecedent (Nat.le_of_ble_eq_true rfl)) (by omega) (by omega) (by omega) (c_lRule (R := (S, sn, tk, ea, [97, 98], [], u, le, lf, K)) hR hI.okS hea (show ([97, 98] : List Int32).length ≤ 8 from by decide) (fun E hE => mem3 (hg.fa E hE)) (fun hf => absurd (hf.symm.trans hx) (fun z => nomatch z)) (fun eE v hE hv H10 g10 hR1 e10 => ?_))
    obtain rfl : v = (-1001) := cod hv hE hx (by decide +kernel)
    obtain ⟨K, hR⟩ : ∃ K2 : ScC, RG G H10 g10 o (S, sn, tk, ea, [97, 98], [], u, le, lf, K2) := ⟨_, hR1⟩
    replace E := E.trans e10
    clear hx hg hE hv hR1
    refine V_sipush (v := (-1001)) dL_thrown_157 (by decide) ?_
    refine V_icmp_ne (tgt := 476) dL_thrown_160 (by decide) (fun c => absurd rfl c) (fun _ => ?_)
    refine V_aload_0 dL_thrown_163 ?_
    refine V_bipush (v := 101) dL_thrown_164 (by decide) ?_
    have hx := xRule1 (S := S) (x := 101) (mt := [97, 98]) (by decide)
    have hg := qRule_g hI (x := 101) (mt := [97, 98]) (by decide)
    refine V_call_i (runSX2 dL_thrown_166 ce_L_addPrecedent rfl ml_L_193 st_L_addPrecedent (Nat.le_of_ble_eq_true rfl)) (by omega) (by omega) (by omega) (c_lRule (R := (S, sn, tk, ea, [97, 98], [], u, le, lf, K)) hR hI.okS hea (show ([97, 98] : List Int32).length ≤ 8 from by decide) (fun E hE => mem3 (hg.fa E hE)) (fun hf => absurd (hf.symm.trans hx) (fun z => nomatch z)) (fun eE v hE hv H11 g11 hR1 e11 => ?_))
    obtain rfl : v = (-1001) := cod hv hE hx (by decide +kernel)
    obtain ⟨K, hR⟩ : ∃ K2 : ScC, RG G H11 g11 o (S, sn, tk, ea, [97, 98], [], u, le, lf, K2) := ⟨_, hR1⟩
    replace E := E.trans e11
    clear hx hg hE hv hR1
    refine V_sipush (v := (-1001)) dL_thrown_169 (by decide) ?_
    refine V_icmp_ne (tgt := 476) dL_thrown_172 (by decide) (fun c => absurd rfl c) (fun _ => ?_)
    refine V_aload_0 dL_thrown_175 ?_
    refine V_iload_3 dL_thrown_176 ?_
    refine V_iload_3 dL_thrown_177 ?_
    refine V_iconst (v := 0) dL_thrown_178 rfl ?_
    refine V_iconst (v := 0) dL_thrown_179 rfl ?_
    refine V_iconst (v := 0) dL_thrown_180 rfl ?_
    have hx := xFile1 (S := S) (x1 := nI m) (x2 := nI m) (x3 := 0) (x4 := 0) (x5 := 0) (mt := [97, 98]) hbn
    have hg := qFile_g hI (by omega) (x1 := nI m) (x2 := nI m) (x3 := 0) (x4 := 0) (x5 := 0) (mt := [97, 98]) (by decide)
    refine V_call_i (runSX6 dL_thrown_181 ce_L_fileCase rfl ml_L_190 st_L_fileCase (Nat.le_of_ble_eq_true rfl)) (by omega) (by omega) (by omega) (c_lFile (R := (S, sn, tk, ea, [97, 98], [], u, le, lf, K)) hR hI.okS hea (show ([97, 98] : List Int32).length ≤ 8 from by decide) (fun E hE => mem4 (hg.fa E hE)) (fun hf => absurd (hf.symm.trans hx) (fun z => nomatch z)) (fun eE v hE hv H12 g12 hR1 e12 => ?_))
    obtain rfl : v = (-1001) := cod hv hE hx (by decide +kernel)
    obtain ⟨K, hR⟩ : ∃ K2 : ScC, RG G H12 g12 o (S, sn, tk, ea, [97, 98], [], u, le, lf, K2) := ⟨_, hR1⟩
    replace E := E.trans e12
    clear hx hg hE hv hR1
    refine V_sipush (v := (-1001)) dL_thrown_184 (by decide) ?_
    refine V_icmp_ne (tgt := 476) dL_thrown_187 (by decide) (fun c => absurd rfl c) (fun _ => ?_)
    refine V_aload_0 dL_thrown_190 ?_
    refine V_iconst (v := 0) dL_thrown_191 rfl ?_
    refine V_iload_3 dL_thrown_192 ?_
    refine V_iconst (v := 5) dL_thrown_193 rfl ?_
    refine V_iconst (v := 1) dL_thrown_194 rfl ?_
    refine V_iconst (v := 5) dL_thrown_195 rfl ?_
    have hx := xFile2 (S := S) (x1 := 0) (x2 := nI m) (x3 := 5) (x4 := 1) (x5 := 5) (mt := [97, 98]) hb0 hbn
    have hg := qFile_g hI (by omega) (x1 := 0) (x2 := nI m) (x3 := 5) (x4 := 1) (x5 := 5) (mt := [97, 98]) (by decide)
    refine V_call_i (runSX6 dL_thrown_196 ce_L_fileCase rfl ml_L_190 st_L_fileCase (Nat.le_of_ble_eq_true rfl)) (by omega) (by omega) (by omega) (c_lFile (R := (S, sn, tk, ea, [97, 98], [], u, le, lf, K)) hR hI.okS hea (show ([97, 98] : List Int32).length ≤ 8 from by decide) (fun E hE => mem4 (hg.fa E hE)) (fun hf => absurd (hf.symm.trans hx) (fun z => nomatch z)) (fun eE v hE hv H13 g13 hR1 e13 => ?_))
    obtain rfl : v = (-1001) := cod hv hE hx (by decide +kernel)
    obtain ⟨K, hR⟩ : ∃ K2 : ScC, RG G H13 g13 o (S, sn, tk, ea, [97, 98], [], u, le, lf, K2) := ⟨_, hR1⟩
    replace E := E.trans e13
    clear hx hg hE hv hR1
    refine V_sipush (v := (-1001)) dL_thrown_199 (by decide) ?_
    refine V_icmp_ne (tgt := 476) dL_thrown_202 (by decide) (fun c => absurd rfl c) (fun _ => ?_)
    refine V_aload_0 dL_thrown_205 ?_
    refine V_iconst (v := 0) dL_thrown_206 rfl ?_
    refine V_iconst (v := 0) dL_thrown_207 rfl ?_
    refine V_iconst (v := 5) dL_thrown_208 rfl ?_
    refine V_iconst (v := 1) dL_thrown_209 rfl ?_
    refine V_iconst (v := 5) dL_thrown_210 rfl ?_
    have hx := xFile3 (S := S) (x1 := 0) (x3 := 5) (x4 := 1) (x5 := 5) (mt := [97, 98]) hb0
    have hg := qFile_g hI (by omega) (x1 := 0) (x2 := 0) (x3 := 5) (x4 := 1) (x5 := 5) (mt := [97, 98]) (by decide)
    refine V_call_i (runSX6 dL_thrown_211 ce_L_fileCase rfl ml_L_190 st_L_fileCase (Nat.le_of_ble_eq_true rfl)) (by omega) (by omega) (by omega) (c_lFile (R := (S, sn, tk, ea, [97, 98], [], u, le, lf, K)) hR hI.okS hea (show ([97, 98] : List Int32).length ≤ 8 from by decide) (fun E hE => mem4 (hg.fa E hE)) (fun hf => absurd (hf.symm.trans hx) (fun z => nomatch z)) (fun eE v hE hv H14 g14 hR1 e14 => ?_))
    obtain rfl : v = (-1002) := cod hv hE hx (by decide +kernel)
    obtain ⟨K, hR⟩ : ∃ K2 : ScC, RG G H14 g14 o (S, sn, tk, ea, [97, 98], [], u, le, lf, K2) := ⟨_, hR1⟩
    replace E := E.trans e14
    clear hx hg hE hv hR1
    refine V_sipush (v := (-1002)) dL_thrown_214 (by decide) ?_
    refine V_icmp_ne (tgt := 476) dL_thrown_217 (by decide) (fun c => absurd rfl c) (fun _ => ?_)
    refine V_aload_0 dL_thrown_220 ?_
    refine V_iconst (v := 0) dL_thrown_221 rfl ?_
    refine V_iconst (v := 1) dL_thrown_222 rfl ?_
    refine V_iconst (v := 0) dL_thrown_223 rfl ?_
    refine V_iconst (v := 1) dL_thrown_224 rfl ?_
    refine V_iconst (v := 5) dL_thrown_225 rfl ?_
    have hx := xFile4 (S := S) (x1 := 0) (x2 := 1) (x3 := 0) (x4 := 1) (x5 := 5) (mt := [97, 98]) hb0 hb1 (by decide) (Or.inl (by decide))
    have hg := qFile_g hI (by omega) (x1 := 0) (x2 := 1) (x3 := 0) (x4 := 1) (x5 := 5) (mt := [97, 98]) (by decide)
    refine V_call_i (runSX6 dL_thrown_226 ce_L_fileCase rfl ml_L_190 st_L_fileCase (Nat.le_of_ble_eq_true rfl)) (by omega) (by omega) (by omega) (c_lFile (R := (S, sn, tk, ea, [97, 98], [], u, le, lf, K)) hR hI.okS hea (show ([97, 98] : List Int32).length ≤ 8 from by decide) (fun E hE => mem4 (hg.fa E hE)) (fun hf => absurd (hf.symm.trans hx) (fun z => nomatch z)) (fun eE v hE hv H15 g15 hR1 e15 => ?_))
    obtain rfl : v = (-1002) := cod hv hE hx (by decide +kernel)
    obtain ⟨K, hR⟩ : ∃ K2 : ScC, RG G H15 g15 o (S, sn, tk, ea, [97, 98], [], u, le, lf, K2) := ⟨_, hR1⟩
    replace E := E.trans e15
    clear hx hg hE hv hR1
    refine V_sipush (v := (-1002)) dL_thrown_229 (by decide) ?_
    refine V_icmp_ne (tgt := 476) dL_thrown_232 (by decide) (fun c => absurd rfl c) (fun _ => ?_)
    refine V_aload_0 dL_thrown_235 ?_
    refine V_iconst (v := 0) dL_thrown_236 rfl ?_
    refine V_iconst (v := 1) dL_thrown_237 rfl ?_
    refine V_bipush (v := 100) dL_thrown_238 (by decide) ?_
    refine V_iconst (v := 1) dL_thrown_240 rfl ?_
    refine V_iconst (v := 5) dL_thrown_241 rfl ?_
    have hx := xFile4 (S := S) (x1 := 0) (x2 := 1) (x3 := 100) (x4 := 1) (x5 := 5) (mt := [97, 98]) hb0 hb1 (by decide) (Or.inl (by decide))
    have hg := qFile_g hI (by omega) (x1 := 0) (x2 := 1) (x3 := 100) (x4 := 1) (x5 := 5) (mt := [97, 98]) (by decide)
    refine V_call_i (runSX6 dL_thrown_242 ce_L_fileCase rfl ml_L_190 st_L_fileCase (Nat.le_of_ble_eq_true rfl)) (by omega) (by omega) (by omega) (c_lFile (R := (S, sn, tk, ea, [97, 98], [], u, le, lf, K)) hR hI.okS hea (show ([97, 98] : List Int32).length ≤ 8 from by decide) (fun E hE => mem4 (hg.fa E hE)) (fun hf => absurd (hf.symm.trans hx) (fun z => nomatch z)) (fun eE v hE hv H16 g16 hR1 e16 => ?_))
    obtain rfl : v = (-1002) := cod hv hE hx (by decide +kernel)
    obtain ⟨K, hR⟩ : ∃ K2 : ScC, RG G H16 g16 o (S, sn, tk, ea, [97, 98], [], u, le, lf, K2) := ⟨_, hR1⟩
    replace E := E.trans e16
    clear hx hg hE hv hR1
    refine V_sipush (v := (-1002)) dL_thrown_245 (by decide) ?_
    refine V_icmp_ne (tgt := 476) dL_thrown_248 (by decide) (fun c => absurd rfl c) (fun _ => ?_)
    refine V_aload_0 dL_thrown_251 ?_
    refine V_iconst (v := 0) dL_thrown_252 rfl ?_
    refine V_iconst (v := 1) dL_thrown_253 rfl ?_
    refine V_iconst (v := 5) dL_thrown_254 rfl ?_
    refine V_iconst (v := 0) dL_thrown_255 rfl ?_
    refine V_iconst (v := 5) dL_thrown_256 rfl ?_
    have hx := xFile4 (S := S) (x1 := 0) (x2 := 1) (x3 := 5) (x4 := 0) (x5 := 5) (mt := [97, 98]) hb0 hb1 (by decide) (Or.inr (Or.inl (by decide)))
    have hg := qFile_g hI (by omega) (x1 := 0) (x2 := 1) (x3 := 5) (x4 := 0) (x5 := 5) (mt := [97, 98]) (by decide)
    refine V_call_i (runSX6 dL_thrown_257 ce_L_fileCase rfl ml_L_190 st_L_fileCase (Nat.le_of_ble_eq_true rfl)) (by omega) (by omega) (by omega) (c_lFile (R := (S, sn, tk, ea, [97, 98], [], u, le, lf, K)) hR hI.okS hea (show ([97, 98] : List Int32).length ≤ 8 from by decide) (fun E hE => mem4 (hg.fa E hE)) (fun hf => absurd (hf.symm.trans hx) (fun z => nomatch z)) (fun eE v hE hv H17 g17 hR1 e17 => ?_))
    obtain rfl : v = (-1002) := cod hv hE hx (by decide +kernel)
    obtain ⟨K, hR⟩ : ∃ K2 : ScC, RG G H17 g17 o (S, sn, tk, ea, [97, 98], [], u, le, lf, K2) := ⟨_, hR1⟩
    replace E := E.trans e17
    clear hx hg hE hv hR1
    refine V_sipush (v := (-1002)) dL_thrown_260 (by decide) ?_
    refine V_icmp_ne (tgt := 476) dL_thrown_263 (by decide) (fun c => absurd rfl c) (fun _ => ?_)
    refine V_aload_0 dL_thrown_266 ?_
    refine V_iconst (v := 0) dL_thrown_267 rfl ?_
    refine V_iconst (v := 1) dL_thrown_268 rfl ?_
    refine V_iconst (v := 5) dL_thrown_269 rfl ?_
    refine V_bipush (v := 6) dL_thrown_270 (by decide) ?_
    refine V_iconst (v := 5) dL_thrown_272 rfl ?_
    have hx := xFile4 (S := S) (x1 := 0) (x2 := 1) (x3 := 5) (x4 := 6) (x5 := 5) (mt := [97, 98]) hb0 hb1 (by decide) (Or.inr (Or.inl (by decide)))
    have hg := qFile_g hI (by omega) (x1 := 0) (x2 := 1) (x3 := 5) (x4 := 6) (x5 := 5) (mt := [97, 98]) (by decide)
    refine V_call_i (runSX6 dL_thrown_273 ce_L_fileCase rfl ml_L_190 st_L_fileCase (Nat.le_of_ble_eq_true rfl)) (by omega) (by omega) (by omega) (c_lFile (R := (S, sn, tk, ea, [97, 98], [], u, le, lf, K)) hR hI.okS hea (show ([97, 98] : List Int32).length ≤ 8 from by decide) (fun E hE => mem4 (hg.fa E hE)) (fun hf => absurd (hf.symm.trans hx) (fun z => nomatch z)) (fun eE v hE hv H18 g18 hR1 e18 => ?_))
    obtain rfl : v = (-1002) := cod hv hE hx (by decide +kernel)
    obtain ⟨K, hR⟩ : ∃ K2 : ScC, RG G H18 g18 o (S, sn, tk, ea, [97, 98], [], u, le, lf, K2) := ⟨_, hR1⟩
    replace E := E.trans e18
    clear hx hg hE hv hR1
    refine V_sipush (v := (-1002)) dL_thrown_276 (by decide) ?_
    refine V_icmp_ne (tgt := 476) dL_thrown_279 (by decide) (fun c => absurd rfl c) (fun _ => ?_)
    refine V_aload_0 dL_thrown_282 ?_
    refine V_iconst (v := 0) dL_thrown_283 rfl ?_
    refine V_iconst (v := 1) dL_thrown_284 rfl ?_
    refine V_iconst (v := 5) dL_thrown_285 rfl ?_
    refine V_iconst (v := 1) dL_thrown_286 rfl ?_
    refine V_iconst (v := (-1)) dL_thrown_287 rfl ?_
    have hx := xFile4 (S := S) (x1 := 0) (x2 := 1) (x3 := 5) (x4 := 1) (x5 := (-1)) (mt := [97, 98]) hb0 hb1 (by decide) (Or.inr (Or.inr (by decide)))
    have hg := qFile_g hI (by omega) (x1 := 0) (x2 := 1) (x3 := 5) (x4 := 1) (x5 := (-1)) (mt := [97, 98]) (by decide)
    refine V_call_i (runSX6 dL_thrown_288 ce_L_fileCase rfl ml_L_190 st_L_fileCase (Nat.le_of_ble_eq_true rfl)) (by omega) (by omega) (by omega) (c_lFile (R := (S, sn, tk, ea, [97, 98], [], u, le, lf, K)) hR hI.okS hea (show ([97, 98] : List Int32).length ≤ 8 from by decide) (fun E hE => mem4 (hg.fa E hE)) (fun hf => absurd (hf.symm.trans hx) (fun z => nomatch z)) (fun eE v hE hv H19 g19 hR1 e19 => ?_))
    obtain rfl : v = (-1002) := cod hv hE hx (by decide +kernel)
    obtain ⟨K, hR⟩ : ∃ K2 : ScC, RG G H19 g19 o (S, sn, tk, ea, [97, 98], [], u, le, lf, K2) := ⟨_, hR1⟩
    replace E := E.trans e19
    clear hx hg hE hv hR1
    refine V_sipush (v := (-1002)) dL_thrown_291 (by decide) ?_
    refine V_icmp_ne (tgt := 476) dL_thrown_294 (by decide) (fun c => absurd rfl c) (fun _ => ?_)
    refine V_aload_0 dL_thrown_297 ?_
    refine V_iconst (v := 0) dL_thrown_298 rfl ?_
    refine V_iconst (v := 1) dL_thrown_299 rfl ?_
    refine V_iconst (v := 5) dL_thrown_300 rfl ?_
    refine V_iconst (v := 1) dL_thrown_301 rfl ?_
    refine V_sipush (v := 1000) dL_thrown_302 (by decide) ?_
    have hx := xFile4 (S := S) (x1 := 0) (x2 := 1) (x3 := 5) (x4 := 1) (x5 := 1000) (mt := [97, 98]) hb0 hb1 (by decide) (Or.inr (Or.inr (by decide)))
    have hg := qFile_g hI (by omega) (x1 := 0) (x2 := 1) (x3 := 5) (x4 := 1) (x5 := 1000) (mt := [97, 98]) (by decide)
    refine V_call_i (runSX6 dL_thrown_305 ce_L_fileCase rfl ml_L_190 st_L_fileCase (Nat.le_of_ble_eq_true rfl)) (by omega) (by omega) (by omega) (c_lFile (R := (S, sn, tk, ea, [97, 98], [], u, le, lf, K)) hR hI.okS hea (show ([97, 98] : List Int32).length ≤ 8 from by decide) (fun E hE => mem4 (hg.fa E hE)) (fun hf => absurd (hf.symm.trans hx) (fun z => nomatch z)) (fun eE v hE hv H20 g20 hR1 e20 => ?_))
    obtain rfl : v = (-1002) := cod hv hE hx (by decide +kernel)
    obtain ⟨K, hR⟩ : ∃ K2 : ScC, RG G H20 g20 o (S, sn, tk, ea, [97, 98], [], u, le, lf, K2) := ⟨_, hR1⟩
    replace E := E.trans e20
    clear hx hg hE hv hR1
    refine V_sipush (v := (-1002)) dL_thrown_308 (by decide) ?_
    refine V_icmp_ne (tgt := 476) dL_thrown_311 (by decide) (fun c => absurd rfl c) (fun _ => ?_)
    refine V_aload_0 dL_thrown_314 ?_
    refine V_bipush (v := 99) dL_thrown_315 (by decide) ?_
    have hx := xHear1 (S := S) (K := K) (no99 hI (by omega))
    have hg := qHear_g hI (x := 99) (K := K)
    refine V_call_i (runSX2 dL_thrown_317 ce_L_hear rfl ml_L_244 st_L_hear (Nat.le_of_ble_eq_true rfl)) (by omega) (by omega) (by omega) (c_lHear (R := (S, sn, tk, ea, [97, 98], [], u, le, lf, K)) hR hI.okS hea (fun E hE => mem3 (hg.fa E hE)) (fun hf => absurd (hf.symm.trans hx) (fun z => nomatch z)) (fun eE v hE hv H21 g21 hR1 e21 => ?_))
    obtain rfl : v = (-1001) := cod hv hE hx (by decide +kernel)
    obtain ⟨K, hR⟩ : ∃ K2 : ScC, RG G H21 g21 o (S, sn, tk, ea, [97, 98], [], u, le, lf, K2) := ⟨_, hR1⟩
    replace E := E.trans e21
    clear hx hg hE hv hR1
    refine V_sipush (v := (-1001)) dL_thrown_320 (by decide) ?_
    refine V_icmp_ne (tgt := 476) dL_thrown_323 (by decide) (fun c => absurd rfl c) (fun _ => ?_)
    refine V_aload_0 dL_thrown_326 ?_
    refine V_iconst (v := (-1)) dL_thrown_327 rfl ?_
    have hx := xApp1 (S := S) (K := K) (noM1 hI (by omega))
    have hg := qApp_g hI (x := -1) (K := K)
    refine V_call_i (runSX2 dL_thrown_328 ce_L_appeal rfl ml_L_315 st_L_appeal (Nat.le_of_ble_eq_true rfl)) (by omega) (by omega) (by omega) (c_lApp (R := (S, sn, tk, ea, [97, 98], [], u, le, lf, K)) hR hI.okS hea (fun E hE => mem3 (hg.fa E hE)) (fun hf => absurd (hf.symm.trans hx) (fun z => nomatch z)) (fun eE v hE hv H22 g22 hR1 e22 => ?_))
    obtain rfl : v = (-1001) := cod hv hE hx (by decide +kernel)
    obtain ⟨K, hR⟩ : ∃ K2 : ScC, RG G H22 g22 o (S, sn, tk, ea, [97, 98], [], u, le, lf, K2) := ⟨_, hR1⟩
    replace E := E.trans e22
    clear hx hg hE hv hR1
    refine V_sipush (v := (-1001)) dL_thrown_331 (by decide) ?_
    refine V_icmp_ne (tgt := 476) dL_thrown_334 (by decide) (fun c => absurd rfl c) (fun _ => ?_)
    refine V_aload_0 dL_thrown_337 ?_
    refine V_bipush (v := 99) dL_thrown_338 (by decide) ?_
    have hx := xWith1 (S := S) (no99 hI (by omega))
    have hg := qWith_g hI (x := 99)
    refine V_call_i (runSX2 dL_thrown_340 ce_L_withdraw rfl ml_L_317 st_L_withdraw (Nat.le_of_ble_eq_true rfl)) (by omega) (by omega) (by omega) (c_lWith (R := (S, sn, tk, ea, [97, 98], [], u, le, lf, K)) hR hI.okS hea (fun E hE => mem2 (hg.fa E hE)) (fun hf => absurd (hf.symm.trans hx) (fun z => nomatch z)) (fun eE v hE hv H23 g23 hR1 e23 => ?_))
    obtain rfl : v = (-1001) := cod hv hE hx (by decide +kernel)
    obtain ⟨K, hR⟩ : ∃ K2 : ScC, RG G H23 g23 o (S, sn, tk, ea, [97, 98], [], u, le, lf, K2) := ⟨_, hR1⟩
    replace E := E.trans e23
    clear hx hg hE hv hR1
    refine V_sipush (v := (-1001)) dL_thrown_343 (by decide) ?_
    refine V_icmp_ne (tgt := 476) dL_thrown_346 (by decide) (fun c => absurd rfl c) (fun _ => ?_)
    refine V_aload_0 dL_thrown_349 ?_
    refine V_bipush (v := 99) dL_thrown_350 (by decide) ?_
    have hx := xClos1 (S := S) (no99 hI (by omega))
    have hg := qClose_g hI (x := 99)
    refine V_call_i (runSX2 dL_thrown_352 ce_L_close rfl ml_L_319 st_L_close (Nat.le_of_ble_eq_true rfl)) (by omega) (by omega) (by omega) (c_lClos (R := (S, sn, tk, ea, [97, 98], [], u, le, lf, K)) hR hI.okS hea (fun E hE => mem2 (hg.fa E hE)) (fun hf => absurd (hf.symm.trans hx) (fun z => nomatch z)) (fun eE v hE hv H24 g24 hR1 e24 => ?_))
    obtain rfl : v = (-1001) := cod hv hE hx (by decide +kernel)
    obtain ⟨K, hR⟩ : ∃ K2 : ScC, RG G H24 g24 o (S, sn, tk, ea, [97, 98], [], u, le, lf, K2) := ⟨_, hR1⟩
    replace E := E.trans e24
    clear hx hg hE hv hR1
    refine V_sipush (v := (-1001)) dL_thrown_355 (by decide) ?_
    refine V_icmp_ne (tgt := 476) dL_thrown_358 (by decide) (fun c => absurd rfl c) (fun _ => ?_)
    refine V_aload_0 dL_thrown_361 ?_
    refine V_iload_3 dL_thrown_362 ?_
    refine V_iload_3 dL_thrown_363 ?_
    refine V_iconst (v := 0) dL_thrown_364 rfl ?_
    have hx := xGive1 (S := S) (x := nI m) (y := nI m) (z := 0) hbn
    have hg := qGive_g hI (x := nI m) (y := nI m) (z := 0)
    refine V_call_i (runSX4 dL_thrown_365 ce_L_give rfl ml_L_321 st_L_give (Nat.le_of_ble_eq_true rfl)) (by omega) (by omega) (by omega) (c_lGive (R := (S, sn, tk, ea, [97, 98], [], u, le, lf, K)) hR hI.okS hea (fun E hE => mem3 (hg.fa E hE)) (fun hf => absurd (hf.symm.trans hx) (fun z => nomatch z)) (fun eE v hE hv H25 g25 hR1 e25 => ?_))
    obtain rfl : v = (-1001) := cod hv hE hx (by decide +kernel)
    obtain ⟨K, hR⟩ : ∃ K2 : ScC, RG G H25 g25 o (S, sn, tk, ea, [97, 98], [], u, le, lf, K2) := ⟨_, hR1⟩
    replace E := E.trans e25
    clear hx hg hE hv hR1
    refine V_sipush (v := (-1001)) dL_thrown_368 (by decide) ?_
    refine V_icmp_ne (tgt := 476) dL_thrown_371 (by decide) (fun c => absurd rfl c) (fun _ => ?_)
    refine V_aload_0 dL_thrown_374 ?_
    refine V_iconst (v := 0) dL_thrown_375 rfl ?_
    refine V_iconst (v := 0) dL_thrown_376 rfl ?_
    refine V_iconst (v := 5) dL_thrown_377 rfl ?_
    have hx := xGive3 (S := S) (x := 0) (z := 5) hb0
    have hg := qGive_g hI (x := 0) (y := 0) (z := 5)
    refine V_call_i (runSX4 dL_thrown_378 ce_L_give rfl ml_L_321 st_L_give (Nat.le_of_ble_eq_true rfl)) (by omega) (by omega) (by omega) (c_lGive (R := (S, sn, tk, ea, [97, 98], [], u, le, lf, K)) hR hI.okS hea (fun E hE => mem3 (hg.fa E hE)) (fun hf => absurd (hf.symm.trans hx) (fun z => nomatch z)) (fun eE v hE hv H26 g26 hR1 e26 => ?_))
    obtain rfl : v = (-1002) := cod hv hE hx (by decide +kernel)
    obtain ⟨K, hR⟩ : ∃ K2 : ScC, RG G H26 g26 o (S, sn, tk, ea, [97, 98], [], u, le, lf, K2) := ⟨_, hR1⟩
    replace E := E.trans e26
    clear hx hg hE hv hR1
    refine V_sipush (v := (-1002)) dL_thrown_381 (by decide) ?_
    refine V_icmp_ne (tgt := 476) dL_thrown_384 (by decide) (fun c => absurd rfl c) (fun _ => ?_)
    refine V_aload_0 dL_thrown_387 ?_
    refine V_iconst (v := 0) dL_thrown_388 rfl ?_
    refine V_iconst (v := 1) dL_thrown_389 rfl ?_
    refine V_iconst (v := 0) dL_thrown_390 rfl ?_
    have hx := xGive4 (S := S) (x := 0) (y := 1) (z := 0) hb0 hb1 (by decide) (by decide)
    have hg := qGive_g hI (x := 0) (y := 1) (z := 0)
    refine V_call_i (runSX4 dL_thrown_391 ce_L_give rfl ml_L_321 st_L_give (Nat.le_of_ble_eq_true rfl)) (by omega) (by omega) (by omega) (c_lGive (R := (S, sn, tk, ea, [97, 98], [], u, le, lf, K)) hR hI.okS hea (fun E hE => mem3 (hg.fa E hE)) (fun hf => absurd (hf.symm.trans hx) (fun z => nomatch z)) (fun eE v hE hv H27 g27 hR1 e27 => ?_))
    obtain rfl : v = (-1002) := cod hv hE hx (by decide +kernel)
    obtain ⟨K, hR⟩ : ∃ K2 : ScC, RG G H27 g27 o (S, sn, tk, ea, [97, 98], [], u, le, lf, K2) := ⟨_, hR1⟩
    replace E := E.trans e27
    clear hx hg hE hv hR1
    refine V_sipush (v := (-1002)) dL_thrown_394 (by decide) ?_
    refine V_icmp_ne (tgt := 476) dL_thrown_397 (by decide) (fun c => absurd rfl c) (fun _ => ?_)
    refine V_aload_0 dL_thrown_400 ?_
    refine V_iconst (v := 0) dL_thrown_401 rfl ?_
    refine V_iconst (v := 1) dL_thrown_402 rfl ?_
    refine V_sipush (v := 1000) dL_thrown_403 (by decide) ?_
    have hx := xGive4 (S := S) (x := 0) (y := 1) (z := 1000) hb0 hb1 (by decide) (by decide)
    have hg := qGive_g hI (x := 0) (y := 1) (z := 1000)
    refine V_call_i (runSX4 dL_thrown_406 ce_L_give rfl ml_L_321 st_L_give (Nat.le_of_ble_eq_true rfl)) (by omega) (by omega) (by omega) (c_lGive (R := (S, sn, tk, ea, [97, 98], [], u, le, lf, K)) hR hI.okS hea (fun E hE => mem3 (hg.fa E hE)) (fun hf => absurd (hf.symm.trans hx) (fun z => nomatch z)) (fun eE v hE hv H28 g28 hR1 e28 => ?_))
    obtain rfl : v = (-1002) := cod hv hE hx (by decide +kernel)
    obtain ⟨K, hR⟩ : ∃ K2 : ScC, RG G H28 g28 o (S, sn, tk, ea, [97, 98], [], u, le, lf, K2) := ⟨_, hR1⟩
    replace E := E.trans e28
    clear hx hg hE hv hR1
    refine V_sipush (v := (-1002)) dL_thrown_409 (by decide) ?_
    refine V_icmp_ne (tgt := 476) dL_thrown_412 (by decide) (fun c => absurd rfl c) (fun _ => ?_)
    refine V_aload_0 dL_thrown_415 ?_
    refine V_iconst (v := 0) dL_thrown_416 rfl ?_
    have hbal : vBal S 0 = rd S.1 8 0 := by rw [vBal, if_pos hb0]
    refine V_call_i (runSX2 dL_thrown_417 ce_L_balance rfl ml_L_342 st_L_balance (Nat.le_of_ble_eq_true rfl)) (by omega) (by omega) (by omega) (c_lBal (R := (S, sn, tk, ea, [97, 98], [], u, le, lf, K)) hR fun H29 g29 hR e29 => ?_)
    replace E := E.trans e29
    refine V_sipush (v := 998) dL_thrown_420 (by decide) ?_
    refine V_icmp_gt (tgt := 449) dL_thrown_423 (by decide) (fun c_423 => ?_) (fun c_423 => ?_)
    · refine V_aload_0 dL_thrown_449 ?_
      refine V_iconst (v := 0) dL_thrown_450 rfl ?_
      have hx := xDays (S := S) (x := 0) (by decide)
      have hg := qDays_g hI (by omega) (x := 0)
      refine V_call_i (runSX2 dL_thrown_451 ce_L_passDays rfl ml_L_334 st_L_passDays (Nat.le_of_ble_eq_true rfl)) (by omega) (by omega) (by omega) (c_lDays (R := (S, sn, tk, ea, [97, 98], [], u, le, lf, K)) hR hI.okS hea (fun E hE => mem1 (hg.fa E hE)) (fun hf => absurd (hf.symm.trans hx) (fun z => nomatch z)) (fun eE v hE hv H30 g30 hR1 e30 => ?_))
      obtain rfl : v = (-1001) := cod hv hE hx (by decide +kernel)
      obtain ⟨K, hR⟩ : ∃ K2 : ScC, RG G H30 g30 o (S, sn, tk, ea, [97, 98], [], u, le, lf, K2) := ⟨_, hR1⟩
      replace E := E.trans e30
      clear hx hg hE hv hR1
      refine V_sipush (v := (-1001)) dL_thrown_454 (by decide) ?_
      refine V_icmp_ne (tgt := 476) dL_thrown_457 (by decide) (fun c => absurd rfl c) (fun _ => ?_)
      refine V_aload_0 dL_thrown_460 ?_
      refine V_bipush (v := 100) dL_thrown_461 (by decide) ?_
      have hx := xDays (S := S) (x := 100) (by decide)
      have hg := qDays_g hI (by omega) (x := 100)
      refine V_call_i (runSX2 dL_thrown_463 ce_L_passDays rfl ml_L_334 st_L_passDays (Nat.le_of_ble_eq_true rfl)) (by omega) (by omega) (by omega) (c_lDays (R := (S, sn, tk, ea, [97, 98], [], u, le, lf, K)) hR hI.okS hea (fun E hE => mem1 (hg.fa E hE)) (fun hf => absurd (hf.symm.trans hx) (fun z => nomatch z)) (fun eE v hE hv H31 g31 hR1 e31 => ?_))
      obtain rfl : v = (-1001) := cod hv hE hx (by decide +kernel)
      obtain ⟨K, hR⟩ : ∃ K2 : ScC, RG G H31 g31 o (S, sn, tk, ea, [97, 98], [], u, le, lf, K2) := ⟨_, hR1⟩
      replace E := E.trans e31
      clear hx hg hE hv hR1
      refine V_sipush (v := (-1001)) dL_thrown_466 (by decide) ?_
      refine V_icmp_ne (tgt := 476) dL_thrown_469 (by decide) (fun c => absurd rfl c) (fun _ => ?_)
      refine V_iconst (v := 1) dL_thrown_472 rfl ?_
      refine V_goto (tgt := 477) dL_thrown_473 (by decide) ?_
      refine V_istore_6 dL_thrown_477 rfl ?_
      exact V_mono (c2 := c) (s2 := s) (by omega) (by omega) (kk K _ _ hR E)
    · refine V_aload_0 dL_thrown_426 ?_
      refine V_iconst (v := 0) dL_thrown_427 rfl ?_
      refine V_iconst (v := 1) dL_thrown_428 rfl ?_
      refine V_iconst (v := 1) dL_thrown_429 rfl ?_
      refine V_aload_0 dL_thrown_430 ?_
      refine V_iconst (v := 0) dL_thrown_431 rfl ?_
      refine V_call_i (runSX2 dL_thrown_432 ce_L_balance rfl ml_L_342 st_L_balance (Nat.le_of_ble_eq_true rfl)) (by omega) (by omega) (by omega) (c_lBal (R := (S, sn, tk, ea, [97, 98], [], u, le, lf, K)) hR fun H30 g30 hR e30 => ?_)
      replace E := E.trans e30
      refine V_iconst (v := 1) dL_thrown_435 rfl ?_
      refine V_iadd dL_thrown_436 ?_
      refine V_mmax dL_thrown_437 ml_L_344 ex_maxS ex_mth ex_maxC (Nat.le_of_ble_eq_true rfl) (Nat.le_of_ble_eq_true rfl) ?_
      have hmx := maxOK c_423
      have hmy := hmx.2
      rw [hbal] at hmy
      have hx := xGive5 (S := S) (x := 0) (y := 1) (z := imax 1 (vBal S 0 + 1)) hb0 hb1 (by decide) hmx.1 (by rw [hbal]; exact hmy)
      have hg := qGive_g hI (x := 0) (y := 1) (z := imax 1 (vBal S 0 + 1))
      refine V_call_i (runSX4 dL_thrown_440 ce_L_give rfl ml_L_321 st_L_give (Nat.le_of_ble_eq_true rfl)) (by omega) (by omega) (by omega) (c_lGive (R := (S, sn, tk, ea, [97, 98], [], u, le, lf, K)) hR hI.okS hea (fun E hE => mem3 (hg.fa E hE)) (fun hf => absurd (hf.symm.trans hx) (fun z => nomatch z)) (fun eE v hE hv H31 g31 hR1 e31 => ?_))
      obtain rfl : v = (-1003) := cod hv hE hx (by decide +kernel)
      obtain ⟨K, hR⟩ : ∃ K2 : ScC, RG G H31 g31 o (S, sn, tk, ea, [97, 98], [], u, le, lf, K2) := ⟨_, hR1⟩
      replace E := E.trans e31
      clear hx hg hE hv hR1
      refine V_sipush (v := (-1003)) dL_thrown_443 (by decide) ?_
      refine V_icmp_ne (tgt := 476) dL_thrown_446 (by decide) (fun c => absurd rfl c) (fun _ => ?_)
      refine V_aload_0 dL_thrown_449 ?_
      refine V_iconst (v := 0) dL_thrown_450 rfl ?_
      have hx := xDays (S := S) (x := 0) (by decide)
      have hg := qDays_g hI (by omega) (x := 0)
      refine V_call_i (runSX2 dL_thrown_451 ce_L_passDays rfl ml_L_334 st_L_passDays (Nat.le_of_ble_eq_true rfl)) (by omega) (by omega) (by omega) (c_lDays (R := (S, sn, tk, ea, [97, 98], [], u, le, lf, K)) hR hI.okS hea (fun E hE => mem1 (hg.fa E hE)) (fun hf => absurd (hf.symm.trans hx) (fun z => nomatch z)) (fun eE v hE hv H32 g32 hR1 e32 => ?_))
      obtain rfl : v = (-1001) := cod hv hE hx (by decide +kernel)
      obtain ⟨K, hR⟩ : ∃ K2 : ScC, RG G H32 g32 o (S, sn, tk, ea, [97, 98], [], u, le, lf, K2) := ⟨_, hR1⟩
      replace E := E.trans e32
      clear hx hg hE hv hR1
      refine V_sipush (v := (-1001)) dL_thrown_454 (by decide) ?_
      refine V_icmp_ne (tgt := 476) dL_thrown_457 (by decide) (fun c => absurd rfl c) (fun _ => ?_)
      refine V_aload_0 dL_thrown_460 ?_
      refine V_bipush (v := 100) dL_thrown_461 (by decide) ?_
      have hx := xDays (S := S) (x := 100) (by decide)
      have hg := qDays_g hI (by omega) (x := 100)
      refine V_call_i (runSX2 dL_thrown_463 ce_L_passDays rfl ml_L_334 st_L_passDays (Nat.le_of_ble_eq_true rfl)) (by omega) (by omega) (by omega) (c_lDays (R := (S, sn, tk, ea, [97, 98], [], u, le, lf, K)) hR hI.okS hea (fun E hE => mem1 (hg.fa E hE)) (fun hf => absurd (hf.symm.trans hx) (fun z => nomatch z)) (fun eE v hE hv H33 g33 hR1 e33 => ?_))
      obtain rfl : v = (-1001) := cod hv hE hx (by decide +kernel)
      obtain ⟨K, hR⟩ : ∃ K2 : ScC, RG G H33 g33 o (S, sn, tk, ea, [97, 98], [], u, le, lf, K2) := ⟨_, hR1⟩
      replace E := E.trans e33
      clear hx hg hE hv hR1
      refine V_sipush (v := (-1001)) dL_thrown_466 (by decide) ?_
      refine V_icmp_ne (tgt := 476) dL_thrown_469 (by decide) (fun c => absurd rfl c) (fun _ => ?_)
      refine V_iconst (v := 1) dL_thrown_472 rfl ?_
      refine V_goto (tgt := 477) dL_thrown_473 (by decide) ?_
      refine V_istore_6 dL_thrown_477 rfl ?_
      exact V_mono (c2 := c) (s2 := s) (by omega) (by omega) (kk K _ _ hR E)

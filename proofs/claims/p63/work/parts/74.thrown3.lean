set_option maxHeartbeats 4000000 in
set_option maxRecDepth 100000 in
theorem c_thC {G : GT} {Q : Option Value → Heap → Prop} {X : String → Heap → Prop} {H : Heap} {g : Nat → Nat} {o m : Nat} {S sn : StC} {tk : Int32} {ea : List StC} {u : List Int32} {le lf : Int32} {K : ScC} (hm2 : 2 ≤ m) (hm8 : m ≤ 8) (hn : S.2.2.2.2.1 = nI m) (hI : INV 28 S) (hea : ea.length ≤ 8) (hR : RG G H g o (S, sn, tk, ea, [], [], u, le, lf, K)) {c s : Nat} {sum : Int64} {d5 k7 : Int32} (kk : ∀ (K2 : ScC) (H1 : Heap) (g1 : Nat → Nat), RG G H1 g1 o (S, sn, tk, ea, [], [], u, le, lf, K2) → Ext G tsA H g H1 g1 → V G kL_thrown 15 c s Q X 1258 [some (.ref o), some (.long sum), none, some (.int (nI m)), some (.int (nI S.2.2.2.1.length)), some (.int d5), some (.int 1), some (.int k7), none, none] [] H1) : V G kL_thrown 15 (c + 120) (s + 20000) Q X 837 [some (.ref o), some (.long sum), none, some (.int (nI m)), some (.int (nI S.2.2.2.1.length)), some (.int d5), some (.int 1), some (.int k7), none, none] [] H := by
  have hb0 : hasB S.2.2.2.2.1 0 = true := by rw [hn]; exact hasB_t (j := 0) (by omega) (by omega)
  have hb1 : hasB S.2.2.2.2.1 1 = true := by rw [hn]; exact hasB_t (j := 1) (by omega) (by omega)
  have hbn : hasB S.2.2.2.2.1 (nI m) = false := by rw [hn]; exact decide_eq_false (p := ¬ nI m < 0 ∧ ¬ nI m ≤ nI m) (fun z => z.2 (Int32.le_refl _))
  have hbm : hasB S.2.2.2.2.1 (-1) = false := decide_eq_false (p := ¬ (-1 : Int32) < 0 ∧ ¬ S.2.2.2.2.1 ≤ -1) (fun z => z.1 (by decide))
  have E : Ext G tsA H g H g := Ext.rf
  have h12 := hI.2.2.1
  have h20 := hI.2.2.2.2.1
  have p99 := no99 hI (by omega)
  have pm1 := noM1 hI (by omega)
  refine V_iload_6 dL_thrown_837 ?_
  refine V_if_eq (tgt := 1255) dL_thrown_839 (by decide) (fun c => absurd c (by decide)) (fun _ => ?_)
  refine V_aload_0 dL_thrown_842 ?_
  refine V_iload_3 dL_thrown_843 ?_
  refine V_call_i (runSX2 dL_thrown_844 ce_L_balance rfl ml_L_342 st_L_balance (Nat.le_of_ble_eq_true rfl)) (by omega) (by omega) (by omega) (c_lBal (R := (S, sn, tk, ea, [], [], u, le, lf, K)) hR fun H1 g1 hR e1 => ?_)
  replace E := E.trans e1
  refine V_int (y := 1000000) (vBal_n hbn) ?_
  refine V_ldci dL_thrown_847 cn_L_169 ?_
  refine V_icmp_ne (tgt := 1255) dL_thrown_849 (by decide) (fun c => absurd rfl c) (fun _ => ?_)
  refine V_aload_0 dL_thrown_852 ?_
  refine V_iload_3 dL_thrown_853 ?_
  refine V_iload_3 dL_thrown_854 ?_
  refine V_call_i (runSX3 dL_thrown_855 ce_L_tension rfl ml_L_366 st_L_tension (Nat.le_of_ble_eq_true rfl)) (by omega) (by omega) (by omega) (c_lTen (R := (S, sn, tk, ea, [], [], u, le, lf, K)) hR (fun h => absurd (hbn.symm.trans h) (by decide)) (fun _ H2 g2 hR e2 => ?_) (fun h => absurd (hbn.symm.trans h) (by decide)))
  replace E := E.trans e2
  refine V_sipush (v := (-1001)) dL_thrown_858 (by decide) ?_
  refine V_icmp_ne (tgt := 1255) dL_thrown_861 (by decide) (fun c => absurd rfl c) (fun _ => ?_)
  refine V_aload_0 dL_thrown_864 ?_
  refine V_iconst (v := 0) dL_thrown_865 rfl ?_
  refine V_iconst (v := 0) dL_thrown_866 rfl ?_
  refine V_call_i (runSX3 dL_thrown_867 ce_L_tension rfl ml_L_366 st_L_tension (Nat.le_of_ble_eq_true rfl)) (by omega) (by omega) (by omega) (c_lTen (R := (S, sn, tk, ea, [], [], u, le, lf, K)) hR (fun _ _ h => absurd (show rd S.2.1 64 (0 * 8 + 0) = 0 from (show gI S.2.1 0 = 0 from hI.2.1.2)) h) (fun h => absurd ⟨hb0, hb0⟩ h) (fun _ _ _ H3 g3 hR e3 => ?_))
  replace E := E.trans e3
  refine V_sipush (v := (-1002)) dL_thrown_870 (by decide) ?_
  refine V_icmp_ne (tgt := 1255) dL_thrown_873 (by decide) (fun c => absurd rfl c) (fun _ => ?_)
  refine V_aload_0 dL_thrown_876 ?_
  refine V_iload_3 dL_thrown_877 ?_
  refine V_iload_3 dL_thrown_878 ?_
  refine V_call_i (runSX3 dL_thrown_879 ce_L_strain rfl ml_L_368 st_L_strain (Nat.le_of_ble_eq_true rfl)) (by omega) (by omega) (by omega) (c_lStr (R := (S, sn, tk, ea, [], [], u, le, lf, K)) hR (fun h => h.2.2 rfl) (fun _ H4 g4 hR e4 => ?_) (fun h => absurd (hbn.symm.trans h) (by decide)))
  replace E := E.trans e4
  refine V_sipush (v := (-1001)) dL_thrown_882 (by decide) ?_
  refine V_icmp_ne (tgt := 1255) dL_thrown_885 (by decide) (fun c => absurd rfl c) (fun _ => ?_)
  refine V_aload_0 dL_thrown_888 ?_
  refine V_iconst (v := 1) dL_thrown_889 rfl ?_
  refine V_iconst (v := 1) dL_thrown_890 rfl ?_
  refine V_call_i (runSX3 dL_thrown_891 ce_L_strain rfl ml_L_368 st_L_strain (Nat.le_of_ble_eq_true rfl)) (by omega) (by omega) (by omega) (c_lStr (R := (S, sn, tk, ea, [], [], u, le, lf, K)) hR (fun h => h.2.2 rfl) (fun h => absurd ⟨hb1, hb1⟩ h) (fun _ _ _ H5 g5 hR e5 => ?_))
  replace E := E.trans e5
  refine V_sipush (v := (-1002)) dL_thrown_894 (by decide) ?_
  refine V_icmp_ne (tgt := 1255) dL_thrown_897 (by decide) (fun c => absurd rfl c) (fun _ => ?_)
  refine V_aload_0 dL_thrown_900 ?_
  refine V_iconst (v := 0) dL_thrown_901 rfl ?_
  refine V_iload_3 dL_thrown_902 ?_
  refine V_call_i (runSX3 dL_thrown_903 ce_L_strainByTable rfl ml_L_370 st_L_strainByTable (Nat.le_of_ble_eq_true rfl)) (by omega) (by omega) (by omega) (c_lStT (R := (S, sn, tk, ea, [], [], u, le, lf, K)) hR (fun h => absurd (hbn.symm.trans h.2.1) (by decide)) (fun _ H6 g6 hR e6 => ?_) (fun _ h => absurd (hbn.symm.trans h) (by decide)))
  replace E := E.trans e6
  refine V_sipush (v := (-1001)) dL_thrown_906 (by decide) ?_
  refine V_icmp_ne (tgt := 1255) dL_thrown_909 (by decide) (fun c => absurd rfl c) (fun _ => ?_)
  refine V_aload_0 dL_thrown_912 ?_
  refine V_iconst (v := 0) dL_thrown_913 rfl ?_
  refine V_iconst (v := 0) dL_thrown_914 rfl ?_
  refine V_call_i (runSX3 dL_thrown_915 ce_L_strainByTable rfl ml_L_370 st_L_strainByTable (Nat.le_of_ble_eq_true rfl)) (by omega) (by omega) (by omega) (c_lStT (R := (S, sn, tk, ea, [], [], u, le, lf, K)) hR (fun h => h.2.2 rfl) (fun h => absurd ⟨hb0, hb0⟩ h) (fun _ _ _ H7 g7 hR e7 => ?_))
  replace E := E.trans e7
  refine V_sipush (v := (-1002)) dL_thrown_918 (by decide) ?_
  refine V_icmp_ne (tgt := 1255) dL_thrown_921 (by decide) (fun c => absurd rfl c) (fun _ => ?_)
  refine V_aload_0 dL_thrown_924 ?_
  refine V_aload_0 dL_thrown_925 ?_
  obtain ⟨fo7, hfo7⟩ := hR.o
  refine V_call_i (runV0 dL_thrown_926 ce_X12_caseCount rfl ml_L_295 im_X12_caseCount se_X12_caseCount hfo7 ⟨_, rfl, rfl⟩ (Nat.le_of_ble_eq_true rfl)) (by omega) (by omega) (by omega) (c_fCas (R := (S, sn, tk, ea, [], [], u, le, lf, K)) hR ?_)
  refine V_call_i (runSX2 dL_thrown_929 ce_L_caseAt rfl ml_L_298 st_L_caseAt (Nat.le_of_ble_eq_true rfl)) (by omega) (by omega) (by omega) (c_lCAt (R := (S, sn, tk, ea, [], [], u, le, lf, K)) hR fun H8 g8 hR e8 => ?_)
  replace E := E.trans e8
  refine V_int (y := (-1001)) (vCAt_n (Or.inr (Int32.le_refl _))) ?_
  refine V_sipush (v := (-1001)) dL_thrown_932 (by decide) ?_
  refine V_icmp_ne (tgt := 1255) dL_thrown_935 (by decide) (fun c => absurd rfl c) (fun _ => ?_)
  refine V_aload_0 dL_thrown_938 ?_
  refine V_iconst (v := (-1)) dL_thrown_939 rfl ?_
  refine V_call_i (runSX2 dL_thrown_940 ce_L_caseAt rfl ml_L_298 st_L_caseAt (Nat.le_of_ble_eq_true rfl)) (by omega) (by omega) (by omega) (c_lCAt (R := (S, sn, tk, ea, [], [], u, le, lf, K)) hR fun H9 g9 hR e9 => ?_)
  replace E := E.trans e9
  refine V_int (y := (-1001)) (vCAt_n (Or.inl (by decide))) ?_
  refine V_sipush (v := (-1001)) dL_thrown_943 (by decide) ?_
  refine V_icmp_ne (tgt := 1255) dL_thrown_946 (by decide) (fun c => absurd rfl c) (fun _ => ?_)
  refine V_aload_0 dL_thrown_949 ?_
  refine V_bipush (v := 99) dL_thrown_950 (by decide) ?_
  refine V_call_i (runSX2 dL_thrown_952 ce_L_plaintiff rfl ml_L_372 st_L_plaintiff (Nat.le_of_ble_eq_true rfl)) (by omega) (by omega) (by omega) (c_lPla (R := (S, sn, tk, ea, [], [], u, le, lf, K)) hR fun H10 g10 hR e10 => ?_)
  replace E := E.trans e10
  refine V_int (y := (-1001)) (vCf_n p99) ?_
  refine V_sipush (v := (-1001)) dL_thrown_955 (by decide) ?_
  refine V_icmp_ne (tgt := 1255) dL_thrown_958 (by decide) (fun c => absurd rfl c) (fun _ => ?_)
  refine V_aload_0 dL_thrown_961 ?_
  refine V_bipush (v := 99) dL_thrown_962 (by decide) ?_
  refine V_call_i (runSX2 dL_thrown_964 ce_L_defendant rfl ml_L_374 st_L_defendant (Nat.le_of_ble_eq_true rfl)) (by omega) (by omega) (by omega) (c_lDef (R := (S, sn, tk, ea, [], [], u, le, lf, K)) hR fun H11 g11 hR e11 => ?_)
  replace E := E.trans e11
  refine V_int (y := (-1001)) (vCf_n p99) ?_
  refine V_sipush (v := (-1001)) dL_thrown_967 (by decide) ?_
  refine V_icmp_ne (tgt := 1255) dL_thrown_970 (by decide) (fun c => absurd rfl c) (fun _ => ?_)
  refine V_aload_0 dL_thrown_973 ?_
  refine V_iconst (v := (-1)) dL_thrown_974 rfl ?_
  refine V_call_i (runSX2 dL_thrown_975 ce_L_claim rfl ml_L_376 st_L_claim (Nat.le_of_ble_eq_true rfl)) (by omega) (by omega) (by omega) (c_lClm (R := (S, sn, tk, ea, [], [], u, le, lf, K)) hR fun H12 g12 hR e12 => ?_)
  replace E := E.trans e12
  refine V_int (y := (-1001)) (vCf_n pm1) ?_
  refine V_sipush (v := (-1001)) dL_thrown_978 (by decide) ?_
  refine V_icmp_ne (tgt := 1255) dL_thrown_981 (by decide) (fun c => absurd rfl c) (fun _ => ?_)
  refine V_aload_0 dL_thrown_984 ?_
  refine V_bipush (v := 99) dL_thrown_985 (by decide) ?_
  refine V_call_i (runSX2 dL_thrown_987 ce_L_duration rfl ml_L_362 st_L_duration (Nat.le_of_ble_eq_true rfl)) (by omega) (by omega) (by omega) (c_lDur (R := (S, sn, tk, ea, [], [], u, le, lf, K)) hR fun H13 g13 hR e13 => ?_)
  replace E := E.trans e13
  refine V_int (y := (-1001)) (vCf_n p99) ?_
  refine V_sipush (v := (-1001)) dL_thrown_990 (by decide) ?_
  refine V_icmp_ne (tgt := 1255) dL_thrown_993 (by decide) (fun c => absurd rfl c) (fun _ => ?_)
  refine V_aload_0 dL_thrown_996 ?_
  refine V_bipush (v := 99) dL_thrown_997 (by decide) ?_
  refine V_call_i (runSX2 dL_thrown_999 ce_L_deadline rfl ml_L_364 st_L_deadline (Nat.le_of_ble_eq_true rfl)) (by omega) (by omega) (by omega) (c_lDea (R := (S, sn, tk, ea, [], [], u, le, lf, K)) hR fun H14 g14 hR e14 => ?_)
  replace E := E.trans e14
  refine V_int (y := (-1001)) (vCf_n p99) ?_
  refine V_sipush (v := (-1001)) dL_thrown_1002 (by decide) ?_
  refine V_icmp_ne (tgt := 1255) dL_thrown_1005 (by decide) (fun c => absurd rfl c) (fun _ => ?_)
  refine V_aload_0 dL_thrown_1008 ?_
  refine V_bipush (v := 99) dL_thrown_1009 (by decide) ?_
  refine V_call_i (runSX2 dL_thrown_1011 ce_L_state rfl ml_L_349 st_L_state (Nat.le_of_ble_eq_true rfl)) (by omega) (by omega) (by omega) (c_lSta (R := (S, sn, tk, ea, [], [], u, le, lf, K)) hR fun H15 g15 hR e15 => ?_)
  replace E := E.trans e15
  refine V_int (y := (-1001)) (vCf_n p99) ?_
  refine V_sipush (v := (-1001)) dL_thrown_1014 (by decide) ?_
  refine V_icmp_ne (tgt := 1255) dL_thrown_1017 (by decide) (fun c => absurd rfl c) (fun _ => ?_)
  refine V_aload_0 dL_thrown_1020 ?_
  refine V_bipush (v := 99) dL_thrown_1021 (by decide) ?_
  refine V_call_i (runSX2 dL_thrown_1023 ce_L_matterLength rfl ml_L_355 st_L_matterLength (Nat.le_of_ble_eq_true rfl)) (by omega) (by omega) (by omega) (c_lMLn (R := (S, sn, tk, ea, [], [], u, le, lf, K)) hR fun H16 g16 hR e16 => ?_)
  replace E := E.trans e16
  refine V_int (y := (-1001)) (vCf_n p99) ?_
  refine V_sipush (v := (-1001)) dL_thrown_1026 (by decide) ?_
  refine V_icmp_ne (tgt := 1255) dL_thrown_1029 (by decide) (fun c => absurd rfl c) (fun _ => ?_)
  refine V_aload_0 dL_thrown_1032 ?_
  refine V_bipush (v := 99) dL_thrown_1033 (by decide) ?_
  refine V_bipush (v := 99) dL_thrown_1035 (by decide) ?_
  refine V_call_i (runSX3 dL_thrown_1037 ce_L_matterLetter rfl ml_L_353 st_L_matterLetter (Nat.le_of_ble_eq_true rfl)) (by omega) (by omega) (by omega) (c_lMLt (R := (S, sn, tk, ea, [], [], u, le, lf, K)) hR (fun h => absurd h (noC p99)) (fun _ H17 g17 hR e17 => ?_) (fun h => absurd h (noC p99)))
  replace E := E.trans e17
  refine V_sipush (v := (-1001)) dL_thrown_1040 (by decide) ?_
  refine V_icmp_ne (tgt := 1255) dL_thrown_1043 (by decide) (fun c => absurd rfl c) (fun _ => ?_)
  refine V_aload_0 dL_thrown_1046 ?_
  refine V_bipush (v := 99) dL_thrown_1047 (by decide) ?_
  refine V_call_i (runSX2 dL_thrown_1049 ce_L_percentage rfl ml_L_310 st_L_percentage (Nat.le_of_ble_eq_true rfl)) (by omega) (by omega) (by omega) (c_lPct (R := (S, sn, tk, ea, [], [], u, le, lf, K)) hR fun H18 g18 hR e18 => ?_)
  replace E := E.trans e18
  refine V_int (y := (-1001)) (vDf_n p99) ?_
  refine V_sipush (v := (-1001)) dL_thrown_1052 (by decide) ?_
  refine V_icmp_ne (tgt := 1255) dL_thrown_1055 (by decide) (fun c => absurd rfl c) (fun _ => ?_)
  refine V_aload_0 dL_thrown_1058 ?_
  refine V_bipush (v := 99) dL_thrown_1059 (by decide) ?_
  refine V_call_i (runSX2 dL_thrown_1061 ce_L_award rfl ml_L_351 st_L_award (Nat.le_of_ble_eq_true rfl)) (by omega) (by omega) (by omega) (c_lAwd (R := (S, sn, tk, ea, [], [], u, le, lf, K)) hR fun H19 g19 hR e19 => ?_)
  replace E := E.trans e19
  refine V_int (y := (-1001)) (vDf_n p99) ?_
  refine V_sipush (v := (-1001)) dL_thrown_1064 (by decide) ?_
  refine V_icmp_ne (tgt := 1255) dL_thrown_1067 (by decide) (fun c => absurd rfl c) (fun _ => ?_)
  refine V_aload_0 dL_thrown_1070 ?_
  refine V_bipush (v := 99) dL_thrown_1071 (by decide) ?_
  refine V_call_i (runSX2 dL_thrown_1073 ce_L_cost rfl ml_L_308 st_L_cost (Nat.le_of_ble_eq_true rfl)) (by omega) (by omega) (by omega) (c_lCst (R := (S, sn, tk, ea, [], [], u, le, lf, K)) hR fun H20 g20 hR e20 => ?_)
  replace E := E.trans e20
  refine V_int (y := (-1001)) (vDf_n p99) ?_
  refine V_sipush (v := (-1001)) dL_thrown_1076 (by decide) ?_
  refine V_icmp_ne (tgt := 1255) dL_thrown_1079 (by decide) (fun c => absurd rfl c) (fun _ => ?_)
  refine V_aload_0 dL_thrown_1082 ?_
  refine V_bipush (v := 99) dL_thrown_1083 (by decide) ?_
  refine V_call_i (runSX2 dL_thrown_1085 ce_L_nearest rfl ml_L_305 st_L_nearest (Nat.le_of_ble_eq_true rfl)) (by omega) (by omega) (by omega) (c_lNea (R := (S, sn, tk, ea, [], [], u, le, lf, K)) hR (fun h => absurd h (noC p99)) (fun i => (hI.prc i).1) fun K21 H21 g21 hR e21 => ?_)
  replace E := E.trans e21
  refine V_int (y := (-1001)) (vNea_n p99) ?_
  refine V_sipush (v := (-1001)) dL_thrown_1088 (by decide) ?_
  refine V_icmp_ne (tgt := 1255) dL_thrown_1091 (by decide) (fun c => absurd rfl c) (fun _ => ?_)
  refine V_aload_0 dL_thrown_1094 ?_
  refine V_iload_4 dL_thrown_1095 ?_
  refine V_call_i (runSX2 dL_thrown_1097 ce_L_percent rfl ml_L_292 st_L_percent (Nat.le_of_ble_eq_true rfl)) (by omega) (by omega) (by omega) (c_lPPc (R := (S, sn, tk, ea, [], [], u, le, lf, K21)) hR fun H22 g22 hR e22 => ?_)
  replace E := E.trans e22
  refine V_int (y := (-1001)) (vPPc_n (Or.inr (Int32.le_refl _))) ?_
  refine V_sipush (v := (-1001)) dL_thrown_1100 (by decide) ?_
  refine V_icmp_ne (tgt := 1255) dL_thrown_1103 (by decide) (fun c => absurd rfl c) (fun _ => ?_)
  refine V_aload_0 dL_thrown_1106 ?_
  refine V_iconst (v := (-1)) dL_thrown_1107 rfl ?_
  refine V_call_i (runSX2 dL_thrown_1108 ce_L_percent rfl ml_L_292 st_L_percent (Nat.le_of_ble_eq_true rfl)) (by omega) (by omega) (by omega) (c_lPPc (R := (S, sn, tk, ea, [], [], u, le, lf, K21)) hR fun H23 g23 hR e23 => ?_)
  replace E := E.trans e23
  refine V_int (y := (-1001)) (vPPc_n (Or.inl (by decide))) ?_
  refine V_sipush (v := (-1001)) dL_thrown_1111 (by decide) ?_
  refine V_icmp_ne (tgt := 1255) dL_thrown_1114 (by decide) (fun c => absurd rfl c) (fun _ => ?_)
  refine V_aload_0 dL_thrown_1117 ?_
  refine V_bipush (v := 99) dL_thrown_1118 (by decide) ?_
  refine V_bipush (v := 99) dL_thrown_1120 (by decide) ?_
  refine V_call_i (runSX3 dL_thrown_1122 ce_L_distance rfl ml_L_357 st_L_distance (Nat.le_of_ble_eq_true rfl)) (by omega) (by omega) (by omega) (c_lDst (R := (S, sn, tk, ea, [], [], u, le, lf, K21)) hR (fun h => absurd h (noC p99)) (fun _ H24 g24 hR e24 => ?_) (fun h => absurd h (noC p99)))
  replace E := E.trans e24
  refine V_sipush (v := (-1001)) dL_thrown_1125 (by decide) ?_
  refine V_icmp_ne (tgt := 1255) dL_thrown_1128 (by decide) (fun c => absurd rfl c) (fun _ => ?_)
  refine V_aload_0 dL_thrown_1131 ?_
  refine V_bipush (v := 99) dL_thrown_1132 (by decide) ?_
  refine V_iconst (v := 0) dL_thrown_1134 rfl ?_
  refine V_call_i (runSX3 dL_thrown_1135 ce_L_byEnds rfl ml_L_359 st_L_byEnds (Nat.le_of_ble_eq_true rfl)) (by omega) (by omega) (by omega) (c_lDsE (R := (S, sn, tk, ea, [], [], u, le, lf, K21)) hR (fun h => absurd h (noC p99)) (fun _ H25 g25 hR e25 => ?_) (fun h => absurd h (noC p99)))
  replace E := E.trans e25
  refine V_sipush (v := (-1001)) dL_thrown_1138 (by decide) ?_
  refine V_icmp_ne (tgt := 1255) dL_thrown_1141 (by decide) (fun c => absurd rfl c) (fun _ => ?_)
  refine V_aload_0 dL_thrown_1144 ?_
  refine V_aload_0 dL_thrown_1145 ?_
  obtain ⟨fo25, hfo25⟩ := hR.o
  refine V_call_i (runV0 dL_thrown_1146 ce_X12_caseCount rfl ml_L_295 im_X12_caseCount se_X12_caseCount hfo25 ⟨_, rfl, rfl⟩ (Nat.le_of_ble_eq_true rfl)) (by omega) (by omega) (by omega) (c_fCas (R := (S, sn, tk, ea, [], [], u, le, lf, K21)) hR ?_)
  refine V_call_i (runSX2 dL_thrown_1149 ce_L_byClaim rfl ml_L_302 st_L_byClaim (Nat.le_of_ble_eq_true rfl)) (by omega) (by omega) (by omega) (c_lByC (R := (S, sn, tk, ea, [], [], u, le, lf, K21)) hR fun H26 g26 hR e26 => ?_)
  replace E := E.trans e26
  refine V_int (y := (-1001)) (vByC_n (S := S) h12 (fun t ht e => absurd (nI_inj (a := t) (b := S.2.2.1.length) (by omega) (by omega) e) (by omega))) ?_
  refine V_sipush (v := (-1001)) dL_thrown_1152 (by decide) ?_
  refine V_icmp_ne (tgt := 1255) dL_thrown_1155 (by decide) (fun c => absurd rfl c) (fun _ => ?_)
  refine V_aload_0 dL_thrown_1158 ?_
  refine V_iload_3 dL_thrown_1159 ?_
  refine V_call_i (runSX2 dL_thrown_1160 ce_L_byBalance rfl ml_L_289 st_L_byBalance (Nat.le_of_ble_eq_true rfl)) (by omega) (by omega) (by omega) (c_lByB (R := (S, sn, tk, ea, [], [], u, le, lf, K21)) hR fun H27 g27 hR e27 => ?_)
  replace E := E.trans e27
  refine V_int (y := (-1001)) (vByB_n hn hm8 (fun t ht e => absurd (nI_inj (by omega) (by omega) e) (by omega))) ?_
  refine V_sipush (v := (-1001)) dL_thrown_1163 (by decide) ?_
  refine V_icmp_ne (tgt := 1255) dL_thrown_1166 (by decide) (fun c => absurd rfl c) (fun _ => ?_)
  refine V_aload_0 dL_thrown_1169 ?_
  refine V_iconst (v := (-1)) dL_thrown_1170 rfl ?_
  refine V_call_i (runSX2 dL_thrown_1171 ce_L_byBalance rfl ml_L_289 st_L_byBalance (Nat.le_of_ble_eq_true rfl)) (by omega) (by omega) (by omega) (c_lByB (R := (S, sn, tk, ea, [], [], u, le, lf, K21)) hR fun H28 g28 hR e28 => ?_)
  replace E := E.trans e28
  refine V_int (y := (-1001)) (vByB_n hn hm8 (fun t ht e => nI_pos (n := t) (by omega) (by rw [e]; decide))) ?_
  refine V_sipush (v := (-1001)) dL_thrown_1174 (by decide) ?_
  refine V_icmp_ne (tgt := 1255) dL_thrown_1177 (by decide) (fun c => absurd rfl c) (fun _ => ?_)
  refine V_aload_0 dL_thrown_1180 ?_
  refine V_bipush (v := 99) dL_thrown_1181 (by decide) ?_
  refine V_call_i (runSX2 dL_thrown_1183 ce_L_renderCase rfl ml_L_300 st_L_renderCase (Nat.le_of_ble_eq_true rfl)) (by omega) (by omega) (by omega) (c_lRCa (R := (S, sn, tk, ea, [], [], u, le, lf, K21)) hR (fun h => absurd h (noC p99)) (fun h => absurd h (noC p99)) (fun h => absurd h (noC p99)) (fun _ H29 g29 hR e29 => ?_))
  replace E := E.trans e29
  refine V_sipush (v := (-1001)) dL_thrown_1186 (by decide) ?_
  refine V_icmp_ne (tgt := 1255) dL_thrown_1189 (by decide) (fun c => absurd rfl c) (fun _ => ?_)
  refine V_aload_0 dL_thrown_1192 ?_
  refine V_iload_3 dL_thrown_1193 ?_
  refine V_call_i (runSX2 dL_thrown_1194 ce_L_renderBonds rfl ml_L_287 st_L_renderBonds (Nat.le_of_ble_eq_true rfl)) (by omega) (by omega) (by omega) (c_lRBo (R := (S, sn, tk, ea, [], [], u, le, lf, K21)) hR hI.2.1 hI.1 (fun h => absurd (hbn.symm.trans h) (by decide)) (fun _ H30 g30 hR e30 => ?_))
  replace E := E.trans e30
  refine V_sipush (v := (-1001)) dL_thrown_1197 (by decide) ?_
  refine V_icmp_ne (tgt := 1255) dL_thrown_1200 (by decide) (fun c => absurd rfl c) (fun _ => ?_)
  refine V_aload_0 dL_thrown_1203 ?_
  refine V_iconst (v := (-1)) dL_thrown_1204 rfl ?_
  have hul := hR.uLen
  have hul2 : u.length ≤ 142 := hul
  refine V_call_i (runSX2 dL_thrown_1205 ce_L_outputAt rfl ml_L_202 st_L_outputAt (Nat.le_of_ble_eq_true rfl)) (by omega) (by omega) (by omega) (c_lOut (R := (S, sn, tk, ea, [], [], u, le, lf, K21)) hR fun H31 g31 hR e31 => ?_)
  replace E := E.trans e31
  refine V_int (y := (-1001)) (by rw [vOut, if_neg (fun z => z.1 (by decide))]) ?_
  refine V_sipush (v := (-1001)) dL_thrown_1208 (by decide) ?_
  refine V_icmp_ne (tgt := 1255) dL_thrown_1211 (by decide) (fun c => absurd rfl c) (fun _ => ?_)
  refine V_aload_0 dL_thrown_1214 ?_
  refine V_sipush (v := 160) dL_thrown_1215 (by decide) ?_
  refine V_call_i (runSX2 dL_thrown_1218 ce_L_outputAt rfl ml_L_202 st_L_outputAt (Nat.le_of_ble_eq_true rfl)) (by omega) (by omega) (by omega) (c_lOut (R := (S, sn, tk, ea, [], [], u, le, lf, K21)) hR fun H32 g32 hR e32 => ?_)
  replace E := E.trans e32
  refine V_int (y := (-1001)) (by rw [vOut, if_neg (fun z => z.2 (show nI u.length ≤ 160 from (nI_le_iff (b := 160) (by omega) (by omega)).mpr (by omega)))]) ?_
  refine V_sipush (v := (-1001)) dL_thrown_1221 (by decide) ?_
  refine V_icmp_ne (tgt := 1255) dL_thrown_1224 (by decide) (fun c => absurd rfl c) (fun _ => ?_)
  refine V_aload_0 dL_thrown_1227 ?_
  refine V_bipush (v := 31) dL_thrown_1228 (by decide) ?_
  refine V_call_i (runSX2 dL_thrown_1230 ce_L_type rfl ml_L_196 st_L_type (Nat.le_of_ble_eq_true rfl)) (by omega) (by omega) (by omega) (c_lTyp (R := (S, sn, tk, ea, [], [], u, le, lf, K21)) hR (fun h => absurd h (by decide)) (fun _ H33 g33 hR e33 => ?_) (fun h => absurd h (by decide)))
  replace E := E.trans e33
  refine V_sipush (v := (-1001)) dL_thrown_1233 (by decide) ?_
  refine V_icmp_ne (tgt := 1255) dL_thrown_1236 (by decide) (fun c => absurd rfl c) (fun _ => ?_)
  refine V_aload_0 dL_thrown_1239 ?_
  refine V_bipush (v := 127) dL_thrown_1240 (by decide) ?_
  refine V_call_i (runSX2 dL_thrown_1242 ce_L_type rfl ml_L_196 st_L_type (Nat.le_of_ble_eq_true rfl)) (by omega) (by omega) (by omega) (c_lTyp (R := (S, sn, tk, ea, [], [], u, le, lf, K21)) hR (fun h => absurd h (by decide)) (fun _ H34 g34 hR e34 => ?_) (fun h => absurd h (by decide)))
  replace E := E.trans e34
  refine V_sipush (v := (-1001)) dL_thrown_1245 (by decide) ?_
  refine V_icmp_ne (tgt := 1255) dL_thrown_1248 (by decide) (fun c => absurd rfl c) (fun _ => ?_)
  refine V_iconst (v := 1) dL_thrown_1251 rfl ?_
  refine V_goto (tgt := 1256) dL_thrown_1252 (by decide) ?_
  refine V_istore_6 dL_thrown_1256 rfl ?_
  exact V_mono (c2 := c) (s2 := s) (by omega) (by omega) (kk _ _ _ hR E)

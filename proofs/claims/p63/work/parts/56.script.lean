/-- the orders from the i-th on, one after the other: which one fails, the state, the rows -/
def perL (os : List OrdC) : Nat → Nat → StC → ScC → Option Nat × StC × ScC
  | 0, _, S, K => (none, S, K)
  | k + 1, i, S, K => if (perfC (os.getD i (0, [], 0, [])) S K).1 < 0 then (some i, (perfC (os.getD i (0, [], 0, [])) S K).2) else perL os k (i + 1) (perfC (os.getD i (0, [], 0, [])) S K).2.1 (perfC (os.getD i (0, [], 0, [])) S K).2.2
theorem flt_nI {k : Nat} (h : k < 2 ^ 31) : flt (nI k) = none := by
  have hp := nI_pos h
  have hn : ∀ v : Int32, v < 0 → ¬ nI k = v := fun v hv e => hp (e ▸ hv)
  unfold flt
  rw [if_neg (hn _ (by decide)), if_neg (hn _ (by decide)), if_neg (hn _ (by decide)), if_neg (hn _ (by decide)), if_neg (hn _ (by decide))]
theorem getD_some {α : Type} {l : List α} {i : Nat} {x : α} (h : i < l.length) : l[i]? = some (l.getD i x) := by
  rw [List.getD_eq_getElem?_getD, List.getElem?_eq_getElem h]; rfl
set_option maxHeartbeats 1000000 in
set_option maxRecDepth 100000 in
theorem c_perL {G : GT} {X : String → Heap → Prop} {H0 : Heap} {g0 : Nat → Nat} {o rd nx ol mq : Nat} {pp : Int32} {os : List OrdC} {R : RgC} (hea : (rgE R).length ≤ 8) {F : Int32 → Heap → Prop} {cc ss : Nat} : ∀ (k i : Nat) (S2 : StC) (K : ScC) (H : Heap) (g : Nat → Nat), RG G H g o (setK R K) → MS G H g 10 nx S2 → Ob G H g 40 rd 11 [.ref ol, .int pp, .ref mq] → GL G (isOrd G) H g 41 ol os → Ext G tsA H0 g0 H g → os.length = i + k → ((perL os k i S2 K).1 = none → ∀ (H1 : Heap) (g1 : Nat → Nat), RG G H1 g1 o (accR R (perL os k i S2 K).2.1 (perL os k i S2 K).2.2) → Ext G tsA H0 g0 H1 g1 → F (nI os.length) H1) → (∀ j : Nat, (perL os k i S2 K).1 = some j → ∀ (H1 : Heap) (g1 : Nat → Nat), RG G H1 g1 o (setK (setF R (nI j)) (perL os k i S2 K).2.2) → Ext G tsA H0 g0 H1 g1 → X "java/lang/IllegalStateException" H1) → V G kX12_runScript 11 (cc + 2 + 3 * k) (ss + 67 + 77 * k) (qi F) X 59 [some (.ref o), some (.ref rd), some (.ref nx), some (.int (nI i))] [] H := by
  obtain ⟨S, sn, tk, ea, wd, sc, ou, le, lf, K0_⟩ := R
  intro k
  induction k with
  | zero =>
    intro i S2 K H g hR h10 hrd hol E hos hk kf
    change RG G H g o (S, sn, tk, ea, wd, sc, ou, le, lf, K) at hR
    obtain ⟨nw, sp, el, w, s, u, co, dk, se, ho, htk, hnw, hsp, hel, hw, hs, hu, hco, hdk, hse⟩ := hR
    refine V_iload_3 dX12_runScript_59 ?_
    refine V_aload_1 dX12_runScript_60 ?_
    refine V_getf dX12_runScript_61 fl_X12_391 hrd.ro rfl ?_
    obtain ⟨fl, hfl⟩ := hol.ro
    refine V_call_i (runV0 dX12_runScript_64 ce_Jx4a65c_size_8abf5 rfl ml_X12_128 im_Jx4a65c_size_8abf5 se_Jx4a65c_size_8abf5 hfl ⟨_, rfl, rfl⟩ (Nat.le_of_ble_eq_true rfl)) (by omega) (by omega) (by omega) (c_glsize hol ?_)
    have hlo := hol.len
    refine V_icmp_ge (tgt := 114) dX12_runScript_67 (by decide) (fun c_67 => ?_) (fun c_67 => ?_)
    · refine V_aload_0 dX12_runScript_114 ?_
      refine V_aload_2 dX12_runScript_115 ?_
      refine V_aload_1 dX12_runScript_116 ?_
      refine V_getf dX12_runScript_117 fl_X12_391 hrd.ro rfl ?_
      obtain ⟨fl2, hfl2⟩ := hol.ro
      refine V_call_i (runV0 dX12_runScript_120 ce_Jx4a65c_size_8abf5 rfl ml_X12_128 im_Jx4a65c_size_8abf5 se_Jx4a65c_size_8abf5 hfl2 ⟨_, rfl, rfl⟩ (Nat.le_of_ble_eq_true rfl)) (by omega) (by omega) (by omega) (c_glsize hol ?_)
      have hR : RG G H g o (S, sn, tk, ea, wd, sc, ou, le, lf, K) := ⟨nw, sp, el, w, s, u, co, dk, se, ho, htk, hnw, hsp, hel, hw, hs, hu, hco, hdk, hse⟩
      obtain ⟨fo, hfo⟩ := hR.o
      clear ho htk hnw hsp hel hw hs hu hco hdk hse
      refine V_call_i (runV2 dX12_runScript_123 ce_X12_accept rfl ml_X12_79 im_X12_accept se_X12_accept hfo ⟨_, rfl, rfl⟩ (Nat.le_of_ble_eq_true rfl)) (by omega) (by omega) (by omega) (c_accept hR h10 hea (fun hf H1 g1 hR_ e1 => ?_) (fun eE hE => absurd hE (by rw [flt_nI (by omega)]; exact fun z => nomatch z)))
      exact V_reti dX12_runScript_126 rfl rfl (hk rfl H1 g1 hR_ (E.trans (e1.wide (by decide))))
    · exact absurd (by rw [hos]; exact Int32.le_refl _) c_67
  | succ k ih =>
    intro i S2 K H g hR h10 hrd hol E hos hk kf
    change RG G H g o (S, sn, tk, ea, wd, sc, ou, le, lf, K) at hR
    obtain ⟨nw, sp, el, w, s, u, co, dk, se, ho, htk, hnw, hsp, hel, hw, hs, hu, hco, hdk, hse⟩ := hR
    refine V_iload_3 dX12_runScript_59 ?_
    refine V_aload_1 dX12_runScript_60 ?_
    refine V_getf dX12_runScript_61 fl_X12_391 hrd.ro rfl ?_
    obtain ⟨fl, hfl⟩ := hol.ro
    refine V_call_i (runV0 dX12_runScript_64 ce_Jx4a65c_size_8abf5 rfl ml_X12_128 im_Jx4a65c_size_8abf5 se_Jx4a65c_size_8abf5 hfl ⟨_, rfl, rfl⟩ (Nat.le_of_ble_eq_true rfl)) (by omega) (by omega) (by omega) (c_glsize hol ?_)
    have hlo := hol.len
    refine V_icmp_ge (tgt := 114) dX12_runScript_67 (by decide) (fun c_67 => ?_) (fun c_67 => ?_)
    · exact absurd c_67 (by rw [nI_le_iff (by omega) (by omega)]; omega)
    · refine V_aload_0 dX12_runScript_70 ?_
      refine V_getf dX12_runScript_71 fl_X12_53 ho.ro rfl ?_
      refine V_aload_2 dX12_runScript_74 ?_
      refine V_aload_1 dX12_runScript_75 ?_
      refine V_getf dX12_runScript_76 fl_X12_391 hrd.ro rfl ?_
      refine V_iload_3 dX12_runScript_79 ?_
      obtain ⟨fl2, hfl2⟩ := hol.ro
      have hil : i < os.length := by omega
      have hgo := getD_some (x := ((0, [], 0, []) : OrdC)) hil
      refine V_call_a (runV1 dX12_runScript_80 ce_Jx4a65c_get_915e3 rfl ml_X12_245 im_Jx4a65c_get_915e3 se_Jx4a65c_get_915e3 hfl2 ⟨_, rfl, rfl⟩ (Nat.le_of_ble_eq_true rfl)) (by omega) (by omega) (by omega) (c_glget hol hgo fun od hod => ?_)
      generalize hx : os.getD i (0, [], 0, []) = x at *
      obtain ⟨nu, mo, hod1, hod2⟩ := id hod
      refine V_castS (ci := 8) dX12_runScript_83 rfl ck_X12_394 hod1.1 ?_
      obtain ⟨fc, hfc⟩ := hco.o
      refine V_call_i (runV2 dX12_runScript_86 ce_X2_perform rfl ml_X12_396 im_X2_perform se_X2_perform hfc ⟨_, rfl, rfl⟩ (Nat.le_of_ble_eq_true rfl)) (by omega) (by omega) (by omega) (c_perf h10 hco hod fun H1 g1 h10_ hco_ e1 => ?_)
      replace ho := ho.fr e1 (by decide)
      replace hnw := hnw.fr e1 (tkn0 (by decide))
      replace hsp := hsp.fr e1 (tkn0 (by decide))
      replace hel := hel.fr FRs e1 (by decide) (by decide)
      replace hw := hw.fr e1 (by decide)
      replace hs := hs.fr e1 (by decide)
      replace hu := hu.fr e1 (by decide)
      replace hco := hco_
      replace hdk := hdk.fr e1 (by decide)
      replace hse := hse.fr e1 (by decide)
      clear hco_
      replace hrd := hrd.fr e1 (by decide)
      replace hol := hol.fr FRo e1 (by decide) (by decide)
      replace E := E.trans (e1.wide (by decide))
      replace h10 := h10_
      rw [perL, hx] at hk kf
      refine V_if_ge (tgt := 108) dX12_runScript_89 (by decide) (fun c_89 => ?_) (fun c_89 => ?_)
      · rw [if_neg (Int32.not_lt.mpr c_89)] at hk kf
        refine V_iinc_3 (v := 1) dX12_runScript_108 rfl rfl ?_
        refine V_goto (tgt := 59) dX12_runScript_111 (by decide) ?_
        have hR : RG G H1 g1 o (S, sn, tk, ea, wd, sc, ou, le, lf, (perfC x S2 K).2.2) := ⟨nw, sp, el, w, s, u, co, dk, se, ho, htk, hnw, hsp, hel, hw, hs, hu, hco, hdk, hse⟩
        rw [nI_s]
        exact V_mono (c2 := cc + 2 + 3 * k) (s2 := ss + 67 + 77 * k) (by omega) (by omega) (ih (i + 1) _ _ H1 g1 hR h10 hrd hol E (by omega) hk kf)
      · rw [if_pos (Int32.not_le.mp c_89)] at hk kf
        refine V_aload_0 dX12_runScript_92 ?_
        refine V_iload_3 dX12_runScript_93 ?_
        refine V_put dX12_runScript_94 fp_X12_runScript_47 ho (by decide) ⟨rfl, rfl⟩ (Nat.le_of_ble_eq_true rfl) rfl fun H2 ho_ e2 z => ?_
        replace ho := ho_
        replace hnw := hnw.fr e2 (tkn0 (by decide))
        replace hsp := hsp.fr e2 (tkn0 (by decide))
        replace hel := hel.fr FRs e2 (by decide) (by decide)
        replace hw := hw.fr e2 (by decide)
        replace hs := hs.fr e2 (by decide)
        replace hu := hu.fr e2 (by decide)
        replace hco := hco.fr e2 (by decide)
        replace hdk := hdk.fr e2 (by decide)
        replace hse := hse.fr e2 (by decide)
        clear ho_
        replace hrd := hrd.fr e2 (by decide)
        replace hol := hol.fr FRo e2 (by decide) (by decide)
        replace h10 := h10.fr e2 (tk_of (Or.inr rfl) (by decide))
        replace E := E.trans (e2.wide (by decide))
        have hR : RG G H2 g1 o (S, sn, tk, ea, wd, sc, ou, le, (nI i), (perfC x S2 K).2.2) := ⟨nw, sp, el, w, s, u, co, dk, se, ho, htk, hnw, hsp, hel, hw, hs, hu, hco, hdk, hse⟩
        exact V_throwSW (i := 21) (by decide +kernel) tc_IllegalState ti_IllegalState tw_IllegalState tg_IllegalState rfl dX12_runScript_97 dX12_runScript_100 dX12_runScript_101 dX12_runScript_104 dX12_runScript_107 rfl (by omega) (by omega) (by omega) (Nat.le_of_ble_eq_true rfl) (fun H1_ hz hq => kf i rfl H1_ g1 (hR.keep hz hq) (E.trans (Ext.keep hz hq)))
set_option maxHeartbeats 1000000 in
set_option maxRecDepth 100000 in
theorem c_fRun {G : GT} {X : String → Heap → Prop} {H : Heap} {g : Nat → Nat} {o : Nat} {R : RgC} {r : Int32 × Int32 × List OrdC} (hr : rScr (rgX R) 0 [] = r) (hR : RG G H g o R) (hnl : (rgX R).length ≠ 16 ∧ (rgX R).length ≠ 34 ∧ (rgX R).length ≠ 70 ∧ (rgX R).length ≠ 142) (htl : (rgX R).length ≤ 22) (hok : okS R.1) (hea : (rgE R).length ≤ 8) (ho3 : ¬ r.1 = 0 → r.2.2.length ≤ 3) {F : Int32 → Heap → Prop} (kp : r.1 = 0 → ∀ (H1 : Heap) (g1 : Nat → Nat), RG G H1 g1 o (setP (setX R []) r.2.1) → Ext G tsA H g H1 g1 → X "java/lang/IllegalArgumentException" H1) (kk : ¬ r.1 = 0 → (perL r.2.2 r.2.2.length 0 R.1 (rgK R)).1 = none → ∀ (H1 : Heap) (g1 : Nat → Nat), RG G H1 g1 o (accR (setX R []) (perL r.2.2 r.2.2.length 0 R.1 (rgK R)).2.1 (perL r.2.2 r.2.2.length 0 R.1 (rgK R)).2.2) → Ext G tsA H g H1 g1 → F (nI r.2.2.length) H1) (kf : ¬ r.1 = 0 → ∀ j : Nat, (perL r.2.2 r.2.2.length 0 R.1 (rgK R)).1 = some j → ∀ (H1 : Heap) (g1 : Nat → Nat), RG G H1 g1 o (setK (setF (setX R []) (nI j)) (perL r.2.2 r.2.2.length 0 R.1 (rgK R)).2.2) → Ext G tsA H g H1 g1 → X "java/lang/IllegalStateException" H1) : Call G kX12_runScript 11 10935 80940 [.ref o] H (qi F) X := by
  obtain ⟨S, sn, tk, ea, wd, sc, ou, le, lf, K⟩ := R
  have E : Ext G tsA H g H g := Ext.rf
  replace hr : rScr sc 0 [] = r := hr
  replace hnl : sc.length ≠ 16 ∧ sc.length ≠ 34 ∧ sc.length ≠ 70 ∧ sc.length ≠ 142 := hnl
  replace htl : sc.length ≤ 22 := htl
  replace hok : okS S := hok
  refine startL (L0 := [some (.ref o), none, none, none]) rfl rfl pl_X12_runScript (Nat.le_of_ble_eq_true rfl) ?_
  obtain ⟨nw, sp, el, w, s, u, co, dk, se, ho, htk, hnw, hsp, hel, hw, hs, hu, hco, hdk, hse⟩ := hR
  refine V_mk2 (g := g) 40 3 dX12_runScript_0 nw_X12_380 rfl (by omega) (by omega) fun rd H1 g1 hrd e1 z => ?_
  replace ho := ho.fr e1 (by simp)
  replace hnw := hnw.fr e1 (tkn0 (by simp))
  replace hsp := hsp.fr e1 (tkn0 (by simp))
  replace hel := hel.fr FRs e1 (by simp) (by simp)
  replace hw := hw.fr e1 (by simp)
  replace hs := hs.fr e1 (by simp)
  replace hu := hu.fr e1 (by simp)
  replace hco := hco.fr e1 (by simp)
  replace hdk := hdk.fr e1 (by simp)
  replace hse := hse.fr e1 (by simp)
  replace E := E.trans (e1.wide (by simp))
  refine V_dup dX12_runScript_3 rfl ?_
  refine V_aload_0 dX12_runScript_4 ?_
  refine V_getf dX12_runScript_5 fl_X12_37 ho.ro rfl ?_
  obtain ⟨fs0, hfs⟩ := hs.o
  refine V_call_a (runV0 dX12_runScript_8 ce_J4_toString_0e30d rfl ml_X12_91 im_J4_toString_0e30d se_J4_toString_0e30d hfs ⟨_, rfl, rfl⟩ (Nat.le_of_ble_eq_true rfl)) (by omega) (by omega) (by omega) (c_soToS hs (by decide) hnl fun mq H2 g2 hm e2 => ?_)
  replace ho := ho.fr e2 (by decide)
  replace hnw := hnw.fr e2 (tkn0 (by decide))
  replace hsp := hsp.fr e2 (tkn0 (by decide))
  replace hel := hel.fr FRs e2 (by decide) (by decide)
  replace hw := hw.fr e2 (by decide)
  replace hs := hs.fr e2 (by decide)
  replace hu := hu.fr e2 (by decide)
  replace hco := hco.fr e2 (by decide)
  replace hdk := hdk.fr e2 (by decide)
  replace hse := hse.fr e2 (by decide)
  replace hrd := hrd.fr e2 (by decide)
  replace E := E.trans (e2.wide (by decide))
  refine V_call_v (runI1 dX12_runScript_11 ce_X7_init rfl rfl rfl ml_X12_382 im_X7_init (Nat.le_of_ble_eq_true rfl)) (by omega) (by omega) (by omega) (c_rdInit hrd hm fun H3 g3 ol hrd_ hol hm_ e3 => ?_)
  replace ho := ho.fr e3 (by decide)
  replace hnw := hnw.fr e3 (tkn0 (by decide))
  replace hsp := hsp.fr e3 (tkn0 (by decide))
  replace hel := hel.fr FRs e3 (by decide) (by decide)
  replace hw := hw.fr e3 (by decide)
  replace hs := hs.fr e3 (by decide)
  replace hu := hu.fr e3 (by decide)
  replace hco := hco.fr e3 (by decide)
  replace hdk := hdk.fr e3 (by decide)
  replace hse := hse.fr e3 (by decide)
  replace E := E.trans (e3.wide (by decide))
  replace hrd := hrd_
  replace hm := hm_
  refine V_astore_1 dX12_runScript_14 rfl ?_
  refine V_aload_0 dX12_runScript_15 ?_
  refine V_getf dX12_runScript_16 fl_X12_37 ho.ro rfl ?_
  refine V_iconst (v := 0) dX12_runScript_19 rfl ?_
  obtain ⟨fs1, hfs1⟩ := hs.o
  refine V_call_v (runV1 dX12_runScript_20 ce_J4_setLength_d00df rfl ml_X12_99 im_J4_setLength_d00df se_J4_setLength_d00df hfs1 ⟨_, rfl, rfl⟩ (Nat.le_of_ble_eq_true rfl)) (by omega) (by omega) (by omega) (c_soSet0 hs (by decide) fun H4 hs_ e4 => ?_)
  replace ho := ho.fr e4 (by decide)
  replace hnw := hnw.fr e4 (tkn0 (by decide))
  replace hsp := hsp.fr e4 (tkn0 (by decide))
  replace hel := hel.fr FRs e4 (by decide) (by decide)
  replace hw := hw.fr e4 (by decide)
  replace hs := hs_
  replace hu := hu.fr e4 (by decide)
  replace hco := hco.fr e4 (by decide)
  replace hdk := hdk.fr e4 (by decide)
  replace hse := hse.fr e4 (by decide)
  clear hs_
  replace hrd := hrd.fr e4 (by decide)
  replace hol := hol.fr FRo e4 (by decide) (by decide)
  replace hm := hm.fr e4 (by decide)
  replace E := E.trans (e4.wide (by decide))
  refine V_aload_1 dX12_runScript_23 ?_
  refine V_call_i (runV0 dX12_runScript_24 ce_X7_readScript rfl ml_X12_383 im_X7_readScript se_X7_readScript hrd.ro ⟨_, rfl, rfl⟩ (Nat.le_of_ble_eq_true rfl)) (by omega) (by omega) (by omega) (c_rScr htl hrd hol hm rfl fun H5 g5 hrd_ hol_ e5 => ?_)
  replace ho := ho.fr e5 (by decide)
  replace hnw := hnw.fr e5 (tkn0 (by decide))
  replace hsp := hsp.fr e5 (tkn0 (by decide))
  replace hel := hel.fr FRs e5 (by decide) (by decide)
  replace hw := hw.fr e5 (by decide)
  replace hs := hs.fr e5 (by decide)
  replace hu := hu.fr e5 (by decide)
  replace hco := hco.fr e5 (by decide)
  replace hdk := hdk.fr e5 (by decide)
  replace hse := hse.fr e5 (by decide)
  replace E := E.trans (e5.wide (by decide))
  rw [hr] at hrd_ hol_ ⊢
  replace hrd := hrd_
  replace hol := hol_
  refine V_if_ne (tgt := 49) dX12_runScript_27 (by decide) (fun c_27 => ?_) (fun c_27 => ?_)
  · replace kk := kk c_27
    replace kf := kf c_27
    replace ho3 := ho3 c_27
    refine V_aload_0 dX12_runScript_49 ?_
    refine V_getf dX12_runScript_50 fl_X12_10 ho.ro rfl ?_
    obtain ⟨fn, hfn⟩ := hnw.o
    refine V_call_a (runV0 dX12_runScript_53 ce_X9_copy rfl ml_X12_71 im_X9_copy se_X9_copy hfn ⟨_, rfl, rfl⟩ (Nat.le_of_ble_eq_true rfl)) (by omega) (by omega) (by omega) (c_copyS hnw hok fun nx H6 g6 h10 e6 => ?_)
    replace ho := ho.fr e6 (by decide)
    replace hnw := hnw.fr e6 (tkn0 (by decide))
    replace hsp := hsp.fr e6 (tkn0 (by decide))
    replace hel := hel.fr FRs e6 (by decide) (by decide)
    replace hw := hw.fr e6 (by decide)
    replace hs := hs.fr e6 (by decide)
    replace hu := hu.fr e6 (by decide)
    replace hco := hco.fr e6 (by decide)
    replace hdk := hdk.fr e6 (by decide)
    replace hse := hse.fr e6 (by decide)
    replace hrd := hrd.fr e6 (by decide)
    replace hol := hol.fr FRo e6 (by decide) (by decide)
    replace E := E.trans (e6.wide (by decide))
    refine V_astore_2 dX12_runScript_56 rfl ?_
    refine V_iconst (v := 0) dX12_runScript_57 rfl ?_
    refine V_istore_3 dX12_runScript_58 rfl ?_
    have hR : RG G H6 g6 o (S, sn, tk, ea, wd, [], ou, le, lf, K) := ⟨nw, sp, el, w, s, u, co, dk, se, ho, htk, hnw, hsp, hel, hw, hs, hu, hco, hdk, hse⟩
    exact V_mono (c2 := 0 + 2 + 3 * r.2.2.length) (s2 := 0 + 67 + 77 * r.2.2.length) (by omega) (by omega) (c_perL (R := (S, sn, tk, ea, wd, [], ou, le, lf, K)) hea r.2.2.length 0 S K H6 g6 hR h10 hrd hol E (Nat.zero_add _).symm kk kf)
  · refine V_aload_0 dX12_runScript_30 ?_
    refine V_aload_1 dX12_runScript_31 ?_
    refine V_getf dX12_runScript_32 fl_X12_386 hrd.ro rfl ?_
    refine V_put dX12_runScript_35 fp_X12_runScript_43 ho (by decide) ⟨rfl, rfl⟩ (Nat.le_of_ble_eq_true rfl) rfl fun H6 ho_ e6 z => ?_
    replace ho := ho_
    replace hnw := hnw.fr e6 (tkn0 (by decide))
    replace hsp := hsp.fr e6 (tkn0 (by decide))
    replace hel := hel.fr FRs e6 (by decide) (by decide)
    replace hw := hw.fr e6 (by decide)
    replace hs := hs.fr e6 (by decide)
    replace hu := hu.fr e6 (by decide)
    replace hco := hco.fr e6 (by decide)
    replace hdk := hdk.fr e6 (by decide)
    replace hse := hse.fr e6 (by decide)
    clear ho_
    replace hrd := hrd.fr e6 (by decide)
    replace hol := hol.fr FRo e6 (by decide) (by decide)
    replace E := E.trans (e6.wide (by decide))
    have hR : RG G H6 g5 o (S, sn, tk, ea, wd, [], ou, r.2.1, lf, K) := ⟨nw, sp, el, w, s, u, co, dk, se, ho, htk, hnw, hsp, hel, hw, hs, hu, hco, hdk, hse⟩
    exact V_throwSW (i := 20) (by decide +kernel) tc_IllegalArg ti_IllegalArg tw_IllegalArg tg_IllegalArg rfl dX12_runScript_38 dX12_runScript_41 dX12_runScript_42 dX12_runScript_45 dX12_runScript_48 rfl (by omega) (by omega) (by omega) (Nat.le_of_ble_eq_true rfl) (fun H1_ hz hq => kp (c_27) H1_ g5 (hR.keep hz hq) (E.trans (Ext.keep hz hq)))
set_option maxHeartbeats 1000000 in
set_option maxRecDepth 100000 in
theorem c_fRunF {G : GT} {X : String → Heap → Prop} {H : Heap} {g : Nat → Nat} {o : Nat} {R : RgC} {r : Int32 × Int32 × List OrdC} (hr : rCmd (rgX R) 0 [] = r) (hR : RG G H g o R) (hnl : (rgX R).length ≠ 16 ∧ (rgX R).length ≠ 34 ∧ (rgX R).length ≠ 70 ∧ (rgX R).length ≠ 142) (hfl : r.1 = 0) {F : Int32 → Heap → Prop} (kp : ∀ (H1 : Heap) (g1 : Nat → Nat), RG G H1 g1 o (setP (setX R []) r.2.1) → Ext G tsA H g H1 g1 → X "java/lang/IllegalArgumentException" H1) : Call G kX12_runScript 11 485 3590 [.ref o] H (qi F) X := by
  obtain ⟨S, sn, tk, ea, wd, sc, ou, le, lf, K⟩ := R
  have E : Ext G tsA H g H g := Ext.rf
  replace hr : rCmd sc 0 [] = r := hr
  replace hnl : sc.length ≠ 16 ∧ sc.length ≠ 34 ∧ sc.length ≠ 70 ∧ sc.length ≠ 142 := hnl
  refine startL (L0 := [some (.ref o), none, none, none]) rfl rfl pl_X12_runScript (Nat.le_of_ble_eq_true rfl) ?_
  obtain ⟨nw, sp, el, w, s, u, co, dk, se, ho, htk, hnw, hsp, hel, hw, hs, hu, hco, hdk, hse⟩ := hR
  refine V_mk2 (g := g) 40 3 dX12_runScript_0 nw_X12_380 rfl (by omega) (by omega) fun rd H1 g1 hrd e1 z => ?_
  replace ho := ho.fr e1 (by simp)
  replace hnw := hnw.fr e1 (tkn0 (by simp))
  replace hsp := hsp.fr e1 (tkn0 (by simp))
  replace hel := hel.fr FRs e1 (by simp) (by simp)
  replace hw := hw.fr e1 (by simp)
  replace hs := hs.fr e1 (by simp)
  replace hu := hu.fr e1 (by simp)
  replace hco := hco.fr e1 (by simp)
  replace hdk := hdk.fr e1 (by simp)
  replace hse := hse.fr e1 (by simp)
  replace E := E.trans (e1.wide (by simp))
  refine V_dup dX12_runScript_3 rfl ?_
  refine V_aload_0 dX12_runScript_4 ?_
  refine V_getf dX12_runScript_5 fl_X12_37 ho.ro rfl ?_
  obtain ⟨fs0, hfs⟩ := hs.o
  refine V_call_a (runV0 dX12_runScript_8 ce_J4_toString_0e30d rfl ml_X12_91 im_J4_toString_0e30d se_J4_toString_0e30d hfs ⟨_, rfl, rfl⟩ (Nat.le_of_ble_eq_true rfl)) (by omega) (by omega) (by omega) (c_soToS hs (by decide) hnl fun mq H2 g2 hm e2 => ?_)
  replace ho := ho.fr e2 (by decide)
  replace hnw := hnw.fr e2 (tkn0 (by decide))
  replace hsp := hsp.fr e2 (tkn0 (by decide))
  replace hel := hel.fr FRs e2 (by decide) (by decide)
  replace hw := hw.fr e2 (by decide)
  replace hs := hs.fr e2 (by decide)
  replace hu := hu.fr e2 (by decide)
  replace hco := hco.fr e2 (by decide)
  replace hdk := hdk.fr e2 (by decide)
  replace hse := hse.fr e2 (by decide)
  replace hrd := hrd.fr e2 (by decide)
  replace E := E.trans (e2.wide (by decide))
  refine V_call_v (runI1 dX12_runScript_11 ce_X7_init rfl rfl rfl ml_X12_382 im_X7_init (Nat.le_of_ble_eq_true rfl)) (by omega) (by omega) (by omega) (c_rdInit hrd hm fun H3 g3 ol hrd_ hol hm_ e3 => ?_)
  replace ho := ho.fr e3 (by decide)
  replace hnw := hnw.fr e3 (tkn0 (by decide))
  replace hsp := hsp.fr e3 (tkn0 (by decide))
  replace hel := hel.fr FRs e3 (by decide) (by decide)
  replace hw := hw.fr e3 (by decide)
  replace hs := hs.fr e3 (by decide)
  replace hu := hu.fr e3 (by decide)
  replace hco := hco.fr e3 (by decide)
  replace hdk := hdk.fr e3 (by decide)
  replace hse := hse.fr e3 (by decide)
  replace E := E.trans (e3.wide (by decide))
  replace hrd := hrd_
  replace hm := hm_
  refine V_astore_1 dX12_runScript_14 rfl ?_
  refine V_aload_0 dX12_runScript_15 ?_
  refine V_getf dX12_runScript_16 fl_X12_37 ho.ro rfl ?_
  refine V_iconst (v := 0) dX12_runScript_19 rfl ?_
  obtain ⟨fs1, hfs1⟩ := hs.o
  refine V_call_v (runV1 dX12_runScript_20 ce_J4_setLength_d00df rfl ml_X12_99 im_J4_setLength_d00df se_J4_setLength_d00df hfs1 ⟨_, rfl, rfl⟩ (Nat.le_of_ble_eq_true rfl)) (by omega) (by omega) (by omega) (c_soSet0 hs (by decide) fun H4 hs_ e4 => ?_)
  replace ho := ho.fr e4 (by decide)
  replace hnw := hnw.fr e4 (tkn0 (by decide))
  replace hsp := hsp.fr e4 (tkn0 (by decide))
  replace hel := hel.fr FRs e4 (by decide) (by decide)
  replace hw := hw.fr e4 (by decide)
  replace hs := hs_
  replace hu := hu.fr e4 (by decide)
  replace hco := hco.fr e4 (by decide)
  replace hdk := hdk.fr e4 (by decide)
  replace hse := hse.fr e4 (by decide)
  clear hs_
  replace hrd := hrd.fr e4 (by decide)
  replace hol := hol.fr FRo e4 (by decide) (by decide)
  replace hm := hm.fr e4 (by decide)
  replace E := E.trans (e4.wide (by decide))
  refine V_aload_1 dX12_runScript_23 ?_
  refine V_call_i (runV0 dX12_runScript_24 ce_X7_readScript rfl ml_X12_383 im_X7_readScript se_X7_readScript hrd.ro ⟨_, rfl, rfl⟩ (Nat.le_of_ble_eq_true rfl)) (by omega) (by omega) (by omega) (c_rScrF hrd hol hm rfl (by rw [hr]; exact hfl) fun H5 g5 hrd_ hol_ e5 => ?_)
  replace ho := ho.fr e5 (by decide)
  replace hnw := hnw.fr e5 (tkn0 (by decide))
  replace hsp := hsp.fr e5 (tkn0 (by decide))
  replace hel := hel.fr FRs e5 (by decide) (by decide)
  replace hw := hw.fr e5 (by decide)
  replace hs := hs.fr e5 (by decide)
  replace hu := hu.fr e5 (by decide)
  replace hco := hco.fr e5 (by decide)
  replace hdk := hdk.fr e5 (by decide)
  replace hse := hse.fr e5 (by decide)
  replace E := E.trans (e5.wide (by decide))
  rw [hr] at hrd_ hol_
  replace hrd := hrd_
  replace hol := hol_
  refine V_if_ne (tgt := 49) dX12_runScript_27 (by decide) (fun c_27 => ?_) (fun c_27 => ?_)
  · exact absurd rfl c_27
  · refine V_aload_0 dX12_runScript_30 ?_
    refine V_aload_1 dX12_runScript_31 ?_
    refine V_getf dX12_runScript_32 fl_X12_386 hrd.ro rfl ?_
    refine V_put dX12_runScript_35 fp_X12_runScript_43 ho (by decide) ⟨rfl, rfl⟩ (Nat.le_of_ble_eq_true rfl) rfl fun H6 ho_ e6 z => ?_
    replace ho := ho_
    replace hnw := hnw.fr e6 (tkn0 (by decide))
    replace hsp := hsp.fr e6 (tkn0 (by decide))
    replace hel := hel.fr FRs e6 (by decide) (by decide)
    replace hw := hw.fr e6 (by decide)
    replace hs := hs.fr e6 (by decide)
    replace hu := hu.fr e6 (by decide)
    replace hco := hco.fr e6 (by decide)
    replace hdk := hdk.fr e6 (by decide)
    replace hse := hse.fr e6 (by decide)
    clear ho_
    replace hrd := hrd.fr e6 (by decide)
    replace hol := hol.fr FRo e6 (by decide) (by decide)
    replace E := E.trans (e6.wide (by decide))
    have hR : RG G H6 g5 o (S, sn, tk, ea, wd, [], ou, r.2.1, lf, K) := ⟨nw, sp, el, w, s, u, co, dk, se, ho, htk, hnw, hsp, hel, hw, hs, hu, hco, hdk, hse⟩
    exact V_throwSW (i := 20) (by decide +kernel) tc_IllegalArg ti_IllegalArg tw_IllegalArg tg_IllegalArg rfl dX12_runScript_38 dX12_runScript_41 dX12_runScript_42 dX12_runScript_45 dX12_runScript_48 rfl (by omega) (by omega) (by omega) (Nat.le_of_ble_eq_true rfl) (fun H1_ hz hq => kp H1_ g5 (hR.keep hz hq) (E.trans (Ext.keep hz hq)))

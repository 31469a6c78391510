def docV (S : StC) : Int32 := (byD S.2.2.1 S.2.2.2.2.2.2.1 [] (List.replicate 61 0)).1
def forV (S : StC) : Int32 := (forestJ S.2.1 S.2.2.2.2.1 K0.1).1
def traV (S : StC) : Int32 := (byS S.1 S.2.2.2.2.1 S.2.2.2.2.2.1 0 (List.replicate 9 0) (List.replicate 512 0)).1
def neaV (S : StC) (x : Int32) : Int32 := (near S.2.2.2.1 (cMt (theC S.2.2.1 x)) (-1) (-1) K0.2.1 K0.2.2.1 K0.2.2.2).1
set_option maxHeartbeats 1000000 in
set_option maxRecDepth 100000 in
theorem c_fDoc {G : GT} {X : String → Heap → Prop} {H : Heap} {g : Nat → Nat} {o : Nat} {R : RgC} (hR : RG G H g o R) (h12 : R.1.2.2.1.length ≤ 12) {F : Int32 → Heap → Prop} (kk : ∀ (H1 : Heap) (g1 : Nat → Nat), RG G H1 g1 o (R) → Ext G tsA H g H1 g1 → F (docV R.1) H1) : Call G kX12_bestDocket 9 12 732 [.ref o] H (qi F) X := by
  obtain ⟨S, sn, tk, ea, wd, sc, ou, le, lf, K⟩ := R
  have E : Ext G tsA H g H g := Ext.rf
  replace h12 : S.2.2.1.length ≤ 12 := h12
  obtain ⟨bal, ten, cs, ps, n, ch, td, nx⟩ := S
  refine startL (L0 := [some (.ref o)]) rfl rfl pl_X12_bestDocket (Nat.le_of_ble_eq_true rfl) ?_
  obtain ⟨nw, sp, el, w, s, u, co, dk, se, ho, htk, hnw, hsp, hel, hw, hs, hu, hco, hdk, hse⟩ := hR
  obtain ⟨fl, ba, fd, bf, d1, d2, d3⟩ := hdk
  have hbl : bf.length = 61 := d3.2
  have h12b : (nI cs.length).toNatClampNeg ≤ 12 := by rw [nI_nat (by have : cs.length ≤ 12 := h12; omega)]; exact h12
  refine V_aload_0 dX12_bestDocket_0 ?_
  refine V_getf dX12_bestDocket_1 fl_X12_60 ho.ro rfl ?_
  refine V_aload_0 dX12_bestDocket_4 ?_
  refine V_getf dX12_bestDocket_5 fl_X12_10 ho.ro rfl ?_
  refine V_call_i (runV1 dX12_bestDocket_8 ce_X3_byDays rfl ml_X12_347 im_X3_byDays se_X3_byDays d1.1 ⟨_, rfl, rfl⟩ (Nat.le_of_ble_eq_true rfl)) (by omega) (by omega) (by omega) (c_byD (Or.inl rfl) h12b d2 d3 hnw d1 fun H1 g1 b1 b2 e1 => ?_)
  have hdk_ : DkO G H1 g1 dk := ⟨fl, ba, _, _, d1.fr e1 (by decide), b1, b2⟩
  clear d1 d2 d3 b1 b2
  replace ho := ho.fr e1 (by decide)
  replace hnw := hnw.fr e1 (tkn0 (by decide))
  replace hsp := hsp.fr e1 (tkn0 (by decide))
  replace hel := hel.fr FRs e1 (by decide) (by decide)
  replace hw := hw.fr e1 (by decide)
  replace hs := hs.fr e1 (by decide)
  replace hu := hu.fr e1 (by decide)
  replace hco := hco.fr e1 (by decide)
  replace hse := hse.fr e1 (by decide)
  have hdk := hdk_
  replace E := E.trans (e1.wide (by decide))
  have hR : RG G H1 g1 o ((bal, ten, cs, ps, n, ch, td, nx), sn, tk, ea, wd, sc, ou, le, lf, K) := ⟨nw, sp, el, w, s, u, co, dk, se, ho, htk, hnw, hsp, hel, hw, hs, hu, hco, hdk, hse⟩
  exact V_reti dX12_bestDocket_11 rfl rfl (by have h := kk H1 g1 hR E; rw [docV, byD_i (m := bf) (fd2 := fd) List.length_replicate hbl] at h; exact h)
set_option maxHeartbeats 1000000 in
set_option maxRecDepth 100000 in
theorem c_fTra {G : GT} {X : String → Heap → Prop} {H : Heap} {g : Nat → Nat} {o : Nat} {R : RgC} (hR : RG G H g o R) {F : Int32 → Heap → Prop} (kk : ∀ (H1 : Heap) (g1 : Nat → Nat), RG G H1 g1 o (R) → Ext G tsA H g H1 g1 → F (traV R.1) H1) : Call G kX12_fewestTransfers 4 0 0 [.ref o] H (qi F) X := by
  obtain ⟨S, sn, tk, ea, wd, sc, ou, le, lf, K⟩ := R
  have E : Ext G tsA H g H g := Ext.rf
  obtain ⟨bal, ten, cs, ps, n, ch, td, nx⟩ := S
  refine startL (L0 := [some (.ref o)]) rfl rfl pl_X12_fewestTransfers (Nat.le_of_ble_eq_true rfl) ?_
  obtain ⟨nw, sp, el, w, s, u, co, dk, se, ho, htk, hnw, hsp, hel, hw, hs, hu, hco, hdk, hse⟩ := hR
  obtain ⟨ac, mp, cnt, al, pl, d1, d2, d3, d4⟩ := hse
  have hal : al.length = 9 := d2.2
  have hpl : pl.length = 512 := d3.2
  refine V_aload_0 dX12_fewestTransfers_0 ?_
  refine V_getf dX12_fewestTransfers_1 fl_X12_67 ho.ro rfl ?_
  refine V_aload_0 dX12_fewestTransfers_4 ?_
  refine V_getf dX12_fewestTransfers_5 fl_X12_10 ho.ro rfl ?_
  refine V_call_i (runV1 dX12_fewestTransfers_8 ce_X8_bySets rfl ml_X12_353 im_X8_bySets se_X8_bySets d1.1.ro ⟨_, rfl, rfl⟩ (Nat.le_of_ble_eq_true rfl)) (by omega) (by omega) (by omega) (c_byS (Or.inl rfl) d1 d2 d3 hnw fun H1 g1 b1 b2 b3 e1 => ?_)
  have hse_ : SeO G H1 g1 se := ⟨ac, mp, _, _, _, b1, b2, b3, (byS_i (cnt2 := cnt) (al := al) (am := al) (pm := pl) rfl rfl rfl).2.trans d4⟩
  clear d1 d2 d3 b1 b2 b3
  replace ho := ho.fr e1 (by decide)
  replace hnw := hnw.fr e1 (tkn0 (by decide))
  replace hsp := hsp.fr e1 (tkn0 (by decide))
  replace hel := hel.fr FRs e1 (by decide) (by decide)
  replace hw := hw.fr e1 (by decide)
  replace hs := hs.fr e1 (by decide)
  replace hu := hu.fr e1 (by decide)
  replace hco := hco.fr e1 (by decide)
  replace hdk := hdk.fr e1 (by decide)
  have hse := hse_
  replace E := E.trans (e1.wide (by decide))
  have hR : RG G H1 g1 o ((bal, ten, cs, ps, n, ch, td, nx), sn, tk, ea, wd, sc, ou, le, lf, K) := ⟨nw, sp, el, w, s, u, co, dk, se, ho, htk, hnw, hsp, hel, hw, hs, hu, hco, hdk, hse⟩
  exact V_reti dX12_fewestTransfers_11 rfl rfl (by have h := kk H1 g1 hR E; rw [traV, (byS_i (cnt2 := cnt) (am := al) (pm := pl) (List.length_replicate.trans hal.symm) (List.length_replicate.trans hpl.symm) (d4.symm.trans rfl |>.symm |> fun z => (show gI (List.replicate 512 0) 0 = 0 from rfl).trans d4.symm)).1] at h; exact h)
set_option maxHeartbeats 1000000 in
set_option maxRecDepth 100000 in
theorem c_fFor {G : GT} {X : String → Heap → Prop} {H : Heap} {g : Nat → Nat} {o : Nat} {R : RgC} (hR : RG G H g o R) {F : Int32 → Heap → Prop} (kk : ∀ (K2 : ScC) (H1 : Heap) (g1 : Nat → Nat), RG G H1 g1 o (setK R K2) → Ext G tsA H g H1 g1 → F (forV R.1) H1) : Call G kX12_forestTension 4 0 0 [.ref o] H (qi F) X := by
  obtain ⟨S, sn, tk, ea, wd, sc, ou, le, lf, K⟩ := R
  have E : Ext G tsA H g H g := Ext.rf
  obtain ⟨bal, ten, cs, ps, n, ch, td, nx⟩ := S
  refine startL (L0 := [some (.ref o)]) rfl rfl pl_X12_forestTension (Nat.le_of_ble_eq_true rfl) ?_
  obtain ⟨nw, sp, el, w, s, u, co, dk, se, ho, htk, hnw, hsp, hel, hw, hs, hu, hco, hdk, hse⟩ := hR
  obtain ⟨th, p, p2, p3, ru, qf, qs, qt, a1, a2, a3, a4, a5, a6, a7⟩ := hco
  have hal : K.1.length = 8 := a4.2
  refine V_aload_0 dX12_forestTension_0 ?_
  refine V_getf dX12_forestTension_1 fl_X12_53 ho.ro rfl ?_
  refine V_getf dX12_forestTension_4 fl_X12_208 a1.1 rfl ?_
  refine V_aload_0 dX12_forestTension_7 ?_
  refine V_getf dX12_forestTension_8 fl_X12_10 ho.ro rfl ?_
  refine V_call_i (runV1 dX12_forestTension_11 ce_X10_forestByJoining rfl ml_X12_220 im_X10_forestByJoining se_X10_forestByJoining a2.1 ⟨_, rfl, rfl⟩ (Nat.le_of_ble_eq_true rfl)) (by omega) (by omega) (by omega) (c_forestJ (Or.inl rfl) a4 hnw a2 fun H1 g1 b1 e1 => ?_)
  have hco_ : Crt G H1 g1 co ((forestJ ten n K.1).2, K.2) := ⟨th, p, p2, p3, ru, qf, qs, qt, a1.fr e1 (by decide), a2.fr e1 (by decide), a3.fr e1 (by decide), b1, a5.fr e1 (by decide), a6.fr e1 (by decide), a7.fr e1 (by decide)⟩
  clear a1 a2 a3 a4 a5 a6 a7 b1
  replace ho := ho.fr e1 (by decide)
  replace hnw := hnw.fr e1 (tkn0 (by decide))
  replace hsp := hsp.fr e1 (tkn0 (by decide))
  replace hel := hel.fr FRs e1 (by decide) (by decide)
  replace hw := hw.fr e1 (by decide)
  replace hs := hs.fr e1 (by decide)
  replace hu := hu.fr e1 (by decide)
  replace hdk := hdk.fr e1 (by decide)
  replace hse := hse.fr e1 (by decide)
  have hco := hco_
  replace E := E.trans (e1.wide (by decide))
  have hR : RG G H1 g1 o ((bal, ten, cs, ps, n, ch, td, nx), sn, tk, ea, wd, sc, ou, le, lf, ((forestJ ten n K.1).2, K.2)) := ⟨nw, sp, el, w, s, u, co, dk, se, ho, htk, hnw, hsp, hel, hw, hs, hu, hco, hdk, hse⟩
  exact V_reti dX12_forestTension_14 rfl rfl (by have h := kk _ H1 g1 hR E; have hv : forV (bal, ten, cs, ps, n, ch, td, nx) = (forestJ ten n K.1).1 := congrArg Prod.fst (forestJ_i (l := K0.1) List.length_replicate hal); change F (forV (bal, ten, cs, ps, n, ch, td, nx)) H1 at h; rw [hv] at h; exact h)
set_option maxHeartbeats 1000000 in
set_option maxRecDepth 100000 in
theorem c_fNea {G : GT} {X : String → Heap → Prop} {H : Heap} {g : Nat → Nat} {o : Nat} {R : RgC} {x : Int32} (hR : RG G H g o R) (hmt : hasC R.1.2.2.1 x → (cMt (theC R.1.2.2.1 x)).length ≤ 8) (hpr : ∀ i : Int32, (gP R.1.2.2.2.1 i).1.length ≤ 8) {F : Int32 → Heap → Prop} (kk : hasC R.1.2.2.1 x → ∀ (K2 : ScC) (H1 : Heap) (g1 : Nat → Nat), RG G H1 g1 o (setK R K2) → Ext G tsA H g H1 g1 → ¬ neaV R.1 x = -1 → F (neaV R.1 x) H1) (kx : (¬ hasC R.1.2.2.1 x → ∀ H1 : Heap, H.size ≤ H1.size → (∀ q : Nat, q < H.size → H1[q]? = H[q]?) → X "java/util/NoSuchElementException" H1)) (kx2 : hasC R.1.2.2.1 x → ∀ K2 : ScC, neaV R.1 x = -1 → ∀ (H1 : Heap) (g1 : Nat → Nat), RG G H1 g1 o (setK R K2) → Ext G tsA H g H1 g1 → X "java/lang/UnsupportedOperationException" H1) : Call G kX12_nearestPrecedent 8 2 20 [.ref o, .int x] H (qi F) X := by
  have E : Ext G tsA H g H g := Ext.rf
  obtain ⟨S, sn, tk, ea, wd, sc, ou, le, lf, K⟩ := R
  refine startL (L0 := [some (.ref o), some (.int x), none]) rfl rfl pl_X12_nearestPrecedent (Nat.le_of_ble_eq_true rfl) ?_
  have hR0 := hR
  obtain ⟨nw, sp, el, w, s, u, co, dk, se, ho, htk, hnw, hsp, hel, hw, hs, hu, hco, hdk, hse⟩ := hR
  have hS := hnw
  obtain ⟨bal, ten, cs, ps, n, ch, td, nx⟩ := S
  obtain ⟨hbl, htl, b, k0, u0, v0, hno, hbal, hten, hcs, hps⟩ := id hnw
  have hlc := hcs.len
  have hlp := hps.len
  obtain ⟨th, p, p2, p3, ru, qf, qs, qt, a1, a2, a3, a4, a5, a6, a7⟩ := hco
  have k1 : K.2.1.length = 8 := a5.2
  have k2 : K.2.2.1.length = 8 := a6.2
  have k3 : K.2.2.2.length = 81 := a7.2
  refine V_aload_0 dX12_nearestPrecedent_0 ?_
  refine V_getf dX12_nearestPrecedent_1 fl_X12_53 ho.ro rfl ?_
  refine V_aload_0 dX12_nearestPrecedent_4 ?_
  refine V_getf dX12_nearestPrecedent_5 fl_X12_10 ho.ro rfl ?_
  refine V_aload_0 dX12_nearestPrecedent_8 ?_
  refine V_iload_1 dX12_nearestPrecedent_9 ?_
  obtain ⟨fo, hfo⟩ := hR0.o
  refine V_call_a (runV1 dX12_nearestPrecedent_10 ce_X12_existingCase rfl ml_X12_253 im_X12_existingCase se_X12_existingCase hfo ⟨_, rfl, rfl⟩ (Nat.le_of_ble_eq_true rfl)) (by omega) (by omega) (by omega) (c_exC hR0 (fun hh r hrx => ?_) (fun hn H1 hz hq => VX_out rfl (kx hn H1 hz hq)))
  obtain ⟨mr, hr, hrm⟩ := id hrx.md
  refine V_getf dX12_nearestPrecedent_13 fl_X12_276 hr.1 rfl ?_
  refine V_iconst (v := (-1)) dX12_nearestPrecedent_16 rfl ?_
  refine V_iconst (v := (-1)) dX12_nearestPrecedent_17 rfl ?_
  refine V_call_i (runV4 dX12_nearestPrecedent_18 ce_X2_nearestOf rfl ml_X12_315 im_X2_nearestOf se_X2_nearestOf a1.1 ⟨_, rfl, rfl⟩ (Nat.le_of_ble_eq_true rfl)) (by omega) (by omega) (by omega) (c_near (Or.inl rfl) a5 a6 a7 hnw a1 a3 hrm fun H1 g1 b1 b2 b3 e1 => ?_)
  have hco_ : Crt G H1 g1 co (K.1, (near ps (cMt (theC cs x)) (-1) (-1) K.2.1 K.2.2.1 K.2.2.2).2) := ⟨th, p, p2, p3, ru, qf, qs, qt, a1.fr e1 (by decide), a2.fr e1 (by decide), a3.fr e1 (by decide), a4.fr e1 (by decide), b1, b2, b3⟩
  clear a1 a2 a3 a4 a5 a6 a7 b1 b2 b3
  replace ho := ho.fr e1 (by decide)
  replace hnw := hnw.fr e1 (tkn0 (by decide))
  replace hsp := hsp.fr e1 (tkn0 (by decide))
  replace hel := hel.fr FRs e1 (by decide) (by decide)
  replace hw := hw.fr e1 (by decide)
  replace hs := hs.fr e1 (by decide)
  replace hu := hu.fr e1 (by decide)
  replace hdk := hdk.fr e1 (by decide)
  replace hse := hse.fr e1 (by decide)
  have hco := hco_
  replace E := E.trans (e1.wide (by decide))
  have hR : RG G H1 g1 o ((bal, ten, cs, ps, n, ch, td, nx), sn, tk, ea, wd, sc, ou, le, lf, (K.1, (near ps (cMt (theC cs x)) (-1) (-1) K.2.1 K.2.2.1 K.2.2.2).2)) := ⟨nw, sp, el, w, s, u, co, dk, se, ho, htk, hnw, hsp, hel, hw, hs, hu, hco, hdk, hse⟩
  have hv : neaV (bal, ten, cs, ps, n, ch, td, nx) x = (near ps (cMt (theC cs x)) (-1) (-1) K.2.1 K.2.2.1 K.2.2.2).1 := near_i (hmt hh) hpr (List.length_replicate.trans k1.symm) (List.length_replicate.trans k2.symm) (List.length_replicate.trans k3.symm)
  have kk := kk hh _ H1 g1 hR E
  have kx2 := kx2 hh (K.1, (near ps (cMt (theC cs x)) (-1) (-1) K.2.1 K.2.2.1 K.2.2.2).2)
  generalize hN : (near ps (cMt (theC cs x)) (-1) (-1) K.2.1 K.2.2.1 K.2.2.2) = N at *
  change ¬ neaV (bal, ten, cs, ps, n, ch, td, nx) x = -1 → F (neaV (bal, ten, cs, ps, n, ch, td, nx) x) H1 at kk
  change neaV (bal, ten, cs, ps, n, ch, td, nx) x = -1 → _ at kx2
  rw [hv] at kk kx2
  refine V_istore_2 dX12_nearestPrecedent_21 rfl ?_
  refine V_iload_2 dX12_nearestPrecedent_22 ?_
  refine V_iconst (v := (-1)) dX12_nearestPrecedent_23 rfl ?_
  refine V_icmp_ne (tgt := 38) dX12_nearestPrecedent_24 (by decide) (fun c_24 => ?_) (fun c_24 => ?_)
  · refine V_iload_2 dX12_nearestPrecedent_38 ?_
    exact V_reti dX12_nearestPrecedent_39 rfl rfl (kk c_24)
  · exact V_throwSW (i := 33) (by decide +kernel) tc_Unsupp ti_Unsupp tw_Unsupp tg_Unsupp rfl dX12_nearestPrecedent_27 dX12_nearestPrecedent_30 dX12_nearestPrecedent_31 dX12_nearestPrecedent_34 dX12_nearestPrecedent_37 rfl (by omega) (by omega) (by omega) (Nat.le_of_ble_eq_true rfl) (fun H1_ hz hq => kx2 c_24 H1_ g1 (hR.keep hz hq) (E.trans (Ext.keep hz hq)))

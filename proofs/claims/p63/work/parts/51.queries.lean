def hasC (cs : List CaseC) (id : Int32) : Prop := ¬ posOf cs id < 0 ∧ ¬ nI cs.length ≤ posOf cs id
def theC (cs : List CaseC) (id : Int32) : CaseC := gC cs (posOf cs id)
set_option maxHeartbeats 1000000 in
set_option maxRecDepth 100000 in
theorem c_fBut {G : GT} {X : String → Heap → Prop} {H : Heap} {g : Nat → Nat} {o : Nat} {R : RgC} (hR : RG G H g o R) {F : Int32 → Heap → Prop} (kk : F (R.1.2.2.2.2.1) H) : Call G kX12_buttonCount 0 0 0 [.ref o] H (qi F) X := by
  obtain ⟨S, sn, tk, ea, wd, sc, ou, le, lf, K⟩ := R
  refine startL (L0 := [some (.ref o)]) rfl rfl pl_X12_buttonCount (Nat.le_of_ble_eq_true rfl) ?_
  have hR0 := hR
  obtain ⟨nw, sp, el, w, s, u, co, dk, se, ho, htk, hnw, hsp, hel, hw, hs, hu, hco, hdk, hse⟩ := hR
  have hS := hnw
  obtain ⟨bal, ten, cs, ps, n, ch, td, nx⟩ := S
  obtain ⟨hbl, htl, b, k0, u0, v0, hno, hbal, hten, hcs, hps⟩ := id hnw
  have hlc := hcs.len
  have hlp := hps.len
  refine V_aload_0 dX12_buttonCount_0 ?_
  refine V_getf dX12_buttonCount_1 fl_X12_10 ho.ro rfl ?_
  refine V_getf dX12_buttonCount_4 fl_X12_185 hno.ro rfl ?_
  exact V_reti dX12_buttonCount_7 rfl rfl kk
set_option maxHeartbeats 1000000 in
set_option maxRecDepth 100000 in
theorem c_fChe {G : GT} {X : String → Heap → Prop} {H : Heap} {g : Nat → Nat} {o : Nat} {R : RgC} (hR : RG G H g o R) {F : Int32 → Heap → Prop} (kk : F (R.1.2.2.2.2.2.1) H) : Call G kX12_chest 0 0 0 [.ref o] H (qi F) X := by
  obtain ⟨S, sn, tk, ea, wd, sc, ou, le, lf, K⟩ := R
  refine startL (L0 := [some (.ref o)]) rfl rfl pl_X12_chest (Nat.le_of_ble_eq_true rfl) ?_
  have hR0 := hR
  obtain ⟨nw, sp, el, w, s, u, co, dk, se, ho, htk, hnw, hsp, hel, hw, hs, hu, hco, hdk, hse⟩ := hR
  have hS := hnw
  obtain ⟨bal, ten, cs, ps, n, ch, td, nx⟩ := S
  obtain ⟨hbl, htl, b, k0, u0, v0, hno, hbal, hten, hcs, hps⟩ := id hnw
  have hlc := hcs.len
  have hlp := hps.len
  refine V_aload_0 dX12_chest_0 ?_
  refine V_getf dX12_chest_1 fl_X12_10 ho.ro rfl ?_
  refine V_getf dX12_chest_4 fl_X12_195 hno.ro rfl ?_
  exact V_reti dX12_chest_7 rfl rfl kk
set_option maxHeartbeats 1000000 in
set_option maxRecDepth 100000 in
theorem c_fDay {G : GT} {X : String → Heap → Prop} {H : Heap} {g : Nat → Nat} {o : Nat} {R : RgC} (hR : RG G H g o R) {F : Int32 → Heap → Prop} (kk : F (R.1.2.2.2.2.2.2.1) H) : Call G kX12_day 0 0 0 [.ref o] H (qi F) X := by
  obtain ⟨S, sn, tk, ea, wd, sc, ou, le, lf, K⟩ := R
  refine startL (L0 := [some (.ref o)]) rfl rfl pl_X12_day (Nat.le_of_ble_eq_true rfl) ?_
  have hR0 := hR
  obtain ⟨nw, sp, el, w, s, u, co, dk, se, ho, htk, hnw, hsp, hel, hw, hs, hu, hco, hdk, hse⟩ := hR
  have hS := hnw
  obtain ⟨bal, ten, cs, ps, n, ch, td, nx⟩ := S
  obtain ⟨hbl, htl, b, k0, u0, v0, hno, hbal, hten, hcs, hps⟩ := id hnw
  have hlc := hcs.len
  have hlp := hps.len
  refine V_aload_0 dX12_day_0 ?_
  refine V_getf dX12_day_1 fl_X12_10 ho.ro rfl ?_
  refine V_getf dX12_day_4 fl_X12_182 hno.ro rfl ?_
  exact V_reti dX12_day_7 rfl rfl kk
set_option maxHeartbeats 1000000 in
set_option maxRecDepth 100000 in
theorem c_fCas {G : GT} {X : String → Heap → Prop} {H : Heap} {g : Nat → Nat} {o : Nat} {R : RgC} (hR : RG G H g o R) {F : Int32 → Heap → Prop} (kk : F (nI R.1.2.2.1.length) H) : Call G kX12_caseCount 2 0 0 [.ref o] H (qi F) X := by
  obtain ⟨S, sn, tk, ea, wd, sc, ou, le, lf, K⟩ := R
  refine startL (L0 := [some (.ref o)]) rfl rfl pl_X12_caseCount (Nat.le_of_ble_eq_true rfl) ?_
  have hR0 := hR
  obtain ⟨nw, sp, el, w, s, u, co, dk, se, ho, htk, hnw, hsp, hel, hw, hs, hu, hco, hdk, hse⟩ := hR
  have hS := hnw
  obtain ⟨bal, ten, cs, ps, n, ch, td, nx⟩ := S
  obtain ⟨hbl, htl, b, k0, u0, v0, hno, hbal, hten, hcs, hps⟩ := id hnw
  have hlc := hcs.len
  have hlp := hps.len
  refine V_aload_0 dX12_caseCount_0 ?_
  refine V_getf dX12_caseCount_1 fl_X12_10 ho.ro rfl ?_
  refine V_getf dX12_caseCount_4 fl_X12_240 hno.ro rfl ?_
  obtain ⟨f0, hf0⟩ := hcs.ro
  refine V_call_i (runV0 dX12_caseCount_7 ce_Jx4a65c_size_8abf5 rfl ml_X12_128 im_Jx4a65c_size_8abf5 se_Jx4a65c_size_8abf5 hf0 ⟨_, rfl, rfl⟩ (Nat.le_of_ble_eq_true rfl)) (by omega) (by omega) (by omega) (c_clsize hcs ?_)
  exact V_reti dX12_caseCount_10 rfl rfl kk
set_option maxHeartbeats 1000000 in
set_option maxRecDepth 100000 in
theorem c_fPre {G : GT} {X : String → Heap → Prop} {H : Heap} {g : Nat → Nat} {o : Nat} {R : RgC} (hR : RG G H g o R) {F : Int32 → Heap → Prop} (kk : F (nI R.1.2.2.2.1.length) H) : Call G kX12_precedentCount 2 0 0 [.ref o] H (qi F) X := by
  obtain ⟨S, sn, tk, ea, wd, sc, ou, le, lf, K⟩ := R
  refine startL (L0 := [some (.ref o)]) rfl rfl pl_X12_precedentCount (Nat.le_of_ble_eq_true rfl) ?_
  have hR0 := hR
  obtain ⟨nw, sp, el, w, s, u, co, dk, se, ho, htk, hnw, hsp, hel, hw, hs, hu, hco, hdk, hse⟩ := hR
  have hS := hnw
  obtain ⟨bal, ten, cs, ps, n, ch, td, nx⟩ := S
  obtain ⟨hbl, htl, b, k0, u0, v0, hno, hbal, hten, hcs, hps⟩ := id hnw
  have hlc := hcs.len
  have hlp := hps.len
  refine V_aload_0 dX12_precedentCount_0 ?_
  refine V_getf dX12_precedentCount_1 fl_X12_10 ho.ro rfl ?_
  refine V_getf dX12_precedentCount_4 fl_X12_321 hno.ro rfl ?_
  obtain ⟨f0, hf0⟩ := hps.ro
  refine V_call_i (runV0 dX12_precedentCount_7 ce_Jx4a65c_size_8abf5 rfl ml_X12_128 im_Jx4a65c_size_8abf5 se_Jx4a65c_size_8abf5 hf0 ⟨_, rfl, rfl⟩ (Nat.le_of_ble_eq_true rfl)) (by omega) (by omega) (by omega) (c_plsize hps ?_)
  exact V_reti dX12_precedentCount_10 rfl rfl kk
set_option maxHeartbeats 1000000 in
set_option maxRecDepth 100000 in
theorem c_exC {G : GT} {X : String → Heap → Prop} {H : Heap} {g : Nat → Nat} {o : Nat} {R : RgC} {x : Int32} (hR : RG G H g o R) {F : Nat → Heap → Prop} (kk : hasC R.1.2.2.1 x → ∀ r : Nat, isCase G H g r (theC R.1.2.2.1 x) → F r H) (kx : (¬ hasC R.1.2.2.1 x → ∀ H1 : Heap, H.size ≤ H1.size → (∀ q : Nat, q < H.size → H1[q]? = H[q]?) → X "java/util/NoSuchElementException" H1)) : Call G kX12_existingCase 6 1 6 [.ref o, .int x] H (qa F) X := by
  obtain ⟨S, sn, tk, ea, wd, sc, ou, le, lf, K⟩ := R
  refine startL (L0 := [some (.ref o), some (.int x), none]) rfl rfl pl_X12_existingCase (Nat.le_of_ble_eq_true rfl) ?_
  have hR0 := hR
  obtain ⟨nw, sp, el, w, s, u, co, dk, se, ho, htk, hnw, hsp, hel, hw, hs, hu, hco, hdk, hse⟩ := hR
  have hS := hnw
  obtain ⟨bal, ten, cs, ps, n, ch, td, nx⟩ := S
  obtain ⟨hbl, htl, b, k0, u0, v0, hno, hbal, hten, hcs, hps⟩ := id hnw
  have hlc := hcs.len
  have hlp := hps.len
  refine V_aload_0 dX12_existingCase_0 ?_
  refine V_getf dX12_existingCase_1 fl_X12_10 ho.ro rfl ?_
  refine V_iload_1 dX12_existingCase_4 ?_
  refine V_call_i (runV1 dX12_existingCase_5 ce_X9_positionOf rfl ml_X12_308 im_X9_positionOf se_X9_positionOf hno.ro ⟨_, rfl, rfl⟩ (Nat.le_of_ble_eq_true rfl)) (by omega) (by omega) (by omega) (c_posOf hS ?_)
  refine V_istore_2 dX12_existingCase_8 rfl ?_
  refine V_iload_2 dX12_existingCase_9 ?_
  refine V_if_lt (tgt := 27) dX12_existingCase_10 (by decide) (fun c_10 => ?_) (fun c_10 => ?_)
  · exact V_throwNW (i := 13) (by decide +kernel) tc_NoSuch ti_NoSuch tw_NoSuch tg_NoSuch rfl dX12_existingCase_27 dX12_existingCase_30 dX12_existingCase_31 dX12_existingCase_34 dX12_existingCase_37 rfl (by omega) (by omega) (by omega) (Nat.le_of_ble_eq_true rfl) (fun H1 hz hq => kx (fun z => z.1 c_10) H1 hz hq)
  · refine V_iload_2 dX12_existingCase_13 ?_
    refine V_aload_0 dX12_existingCase_14 ?_
    refine V_getf dX12_existingCase_15 fl_X12_10 ho.ro rfl ?_
    refine V_getf dX12_existingCase_18 fl_X12_240 hno.ro rfl ?_
    obtain ⟨f0, hf0⟩ := hcs.ro
    refine V_call_i (runV0 dX12_existingCase_21 ce_Jx4a65c_size_8abf5 rfl ml_X12_128 im_Jx4a65c_size_8abf5 se_Jx4a65c_size_8abf5 hf0 ⟨_, rfl, rfl⟩ (Nat.le_of_ble_eq_true rfl)) (by omega) (by omega) (by omega) (c_clsize hcs ?_)
    refine V_icmp_lt (tgt := 38) dX12_existingCase_24 (by decide) (fun c_24 => ?_) (fun c_24 => ?_)
    · have hh : hasC cs x := ⟨c_10, Int32.not_le.mpr c_24⟩
      refine V_aload_0 dX12_existingCase_38 ?_
      refine V_getf dX12_existingCase_39 fl_X12_10 ho.ro rfl ?_
      refine V_getf dX12_existingCase_42 fl_X12_240 hno.ro rfl ?_
      refine V_iload_2 dX12_existingCase_45 ?_
      obtain ⟨f0, hf0⟩ := hcs.ro
      refine V_call_a (runV1 dX12_existingCase_46 ce_Jx4a65c_get_915e3 rfl ml_X12_245 im_Jx4a65c_get_915e3 se_Jx4a65c_get_915e3 hf0 ⟨_, rfl, rfl⟩ (Nat.le_of_ble_eq_true rfl)) (by omega) (by omega) (by omega) (c_clget hcs hh.1 hh.2 fun r hrx => ?_)
      obtain ⟨mr, hr, hrm⟩ := id hrx.md
      refine V_castS (ci := 5) dX12_existingCase_49 rfl ck_X12_248 hr.1 ?_
      exact V_reta dX12_existingCase_52 rfl (Or.inl ⟨_, rfl⟩) (kk hh r hrx)
    · exact V_throwNW (i := 13) (by decide +kernel) tc_NoSuch ti_NoSuch tw_NoSuch tg_NoSuch rfl dX12_existingCase_27 dX12_existingCase_30 dX12_existingCase_31 dX12_existingCase_34 dX12_existingCase_37 rfl (by omega) (by omega) (by omega) (Nat.le_of_ble_eq_true rfl) (fun H1 hz hq => kx (fun z => z.2 (Int32.not_lt.mp c_24)) H1 hz hq)
set_option maxHeartbeats 1000000 in
set_option maxRecDepth 100000 in
theorem c_exP {G : GT} {X : String → Heap → Prop} {H : Heap} {g : Nat → Nat} {o : Nat} {R : RgC} {x : Int32} (hR : RG G H g o R) {F : Nat → Heap → Prop} (kk : (¬ x < 0 ∧ ¬ nI R.1.2.2.2.1.length ≤ x) → ∀ r m : Nat, Rz G H g r 9 [.ref m, .int (gP R.1.2.2.2.1 x).2] → Sz G H g m (gP R.1.2.2.2.1 x).1 → F r H) (kx : (¬ (¬ x < 0 ∧ ¬ nI R.1.2.2.2.1.length ≤ x) → ∀ H1 : Heap, H.size ≤ H1.size → (∀ q : Nat, q < H.size → H1[q]? = H[q]?) → X "java/lang/IndexOutOfBoundsException" H1)) : Call G kX12_existingPrecedent 6 1 6 [.ref o, .int x] H (qa F) X := by
  obtain ⟨S, sn, tk, ea, wd, sc, ou, le, lf, K⟩ := R
  refine startL (L0 := [some (.ref o), some (.int x)]) rfl rfl pl_X12_existingPrecedent (Nat.le_of_ble_eq_true rfl) ?_
  have hR0 := hR
  obtain ⟨nw, sp, el, w, s, u, co, dk, se, ho, htk, hnw, hsp, hel, hw, hs, hu, hco, hdk, hse⟩ := hR
  have hS := hnw
  obtain ⟨bal, ten, cs, ps, n, ch, td, nx⟩ := S
  obtain ⟨hbl, htl, b, k0, u0, v0, hno, hbal, hten, hcs, hps⟩ := id hnw
  have hlc := hcs.len
  have hlp := hps.len
  refine V_iload_1 dX12_existingPrecedent_0 ?_
  refine V_if_lt (tgt := 18) dX12_existingPrecedent_1 (by decide) (fun c_1 => ?_) (fun c_1 => ?_)
  · exact V_throwSW (i := 31) (by decide +kernel) tc_IndexOut ti_IndexOut tw_IndexOut tg_IndexOut rfl dX12_existingPrecedent_18 dX12_existingPrecedent_21 dX12_existingPrecedent_22 dX12_existingPrecedent_25 dX12_existingPrecedent_28 rfl (by omega) (by omega) (by omega) (Nat.le_of_ble_eq_true rfl) (fun H1 hz hq => kx (fun z => z.1 c_1) H1 hz hq)
  · refine V_iload_1 dX12_existingPrecedent_4 ?_
    refine V_aload_0 dX12_existingPrecedent_5 ?_
    refine V_getf dX12_existingPrecedent_6 fl_X12_10 ho.ro rfl ?_
    refine V_getf dX12_existingPrecedent_9 fl_X12_321 hno.ro rfl ?_
    obtain ⟨f0, hf0⟩ := hps.ro
    refine V_call_i (runV0 dX12_existingPrecedent_12 ce_Jx4a65c_size_8abf5 rfl ml_X12_128 im_Jx4a65c_size_8abf5 se_Jx4a65c_size_8abf5 hf0 ⟨_, rfl, rfl⟩ (Nat.le_of_ble_eq_true rfl)) (by omega) (by omega) (by omega) (c_plsize hps ?_)
    refine V_icmp_lt (tgt := 29) dX12_existingPrecedent_15 (by decide) (fun c_15 => ?_) (fun c_15 => ?_)
    · refine V_aload_0 dX12_existingPrecedent_29 ?_
      refine V_getf dX12_existingPrecedent_30 fl_X12_10 ho.ro rfl ?_
      refine V_getf dX12_existingPrecedent_33 fl_X12_321 hno.ro rfl ?_
      refine V_iload_1 dX12_existingPrecedent_36 ?_
      obtain ⟨f0, hf0⟩ := hps.ro
      refine V_call_a (runV1 dX12_existingPrecedent_37 ce_Jx4a65c_get_915e3 rfl ml_X12_245 im_Jx4a65c_get_915e3 se_Jx4a65c_get_915e3 hf0 ⟨_, rfl, rfl⟩ (Nat.le_of_ble_eq_true rfl)) (by omega) (by omega) (by omega) (c_plget hps c_1 (Int32.not_le.mpr c_15) fun r mr hr hrm => ?_)
      refine V_castS (ci := 9) dX12_existingPrecedent_40 rfl ck_X12_329 hr.1 ?_
      exact V_reta dX12_existingPrecedent_43 rfl (Or.inl ⟨_, rfl⟩) (kk ⟨c_1, Int32.not_le.mpr c_15⟩ r mr hr hrm)
    · exact V_throwSW (i := 31) (by decide +kernel) tc_IndexOut ti_IndexOut tw_IndexOut tg_IndexOut rfl dX12_existingPrecedent_18 dX12_existingPrecedent_21 dX12_existingPrecedent_22 dX12_existingPrecedent_25 dX12_existingPrecedent_28 rfl (by omega) (by omega) (by omega) (Nat.le_of_ble_eq_true rfl) (fun H1 hz hq => kx (fun z => z.2 (Int32.not_lt.mp c_15)) H1 hz hq)
set_option maxHeartbeats 1000000 in
set_option maxRecDepth 100000 in
theorem c_fPla {G : GT} {X : String → Heap → Prop} {H : Heap} {g : Nat → Nat} {o : Nat} {R : RgC} {x : Int32} (hR : RG G H g o R) {F : Int32 → Heap → Prop} (kk : hasC R.1.2.2.1 x → F (cPl (theC R.1.2.2.1 x)) H) (kx : (¬ hasC R.1.2.2.1 x → ∀ H1 : Heap, H.size ≤ H1.size → (∀ q : Nat, q < H.size → H1[q]? = H[q]?) → X "java/util/NoSuchElementException" H1)) : Call G kX12_plaintiff 7 1 6 [.ref o, .int x] H (qi F) X := by
  obtain ⟨S, sn, tk, ea, wd, sc, ou, le, lf, K⟩ := R
  refine startL (L0 := [some (.ref o), some (.int x)]) rfl rfl pl_X12_plaintiff (Nat.le_of_ble_eq_true rfl) ?_
  have hR0 := hR
  obtain ⟨nw, sp, el, w, s, u, co, dk, se, ho, htk, hnw, hsp, hel, hw, hs, hu, hco, hdk, hse⟩ := hR
  have hS := hnw
  obtain ⟨bal, ten, cs, ps, n, ch, td, nx⟩ := S
  obtain ⟨hbl, htl, b, k0, u0, v0, hno, hbal, hten, hcs, hps⟩ := id hnw
  have hlc := hcs.len
  have hlp := hps.len
  refine V_aload_0 dX12_plaintiff_0 ?_
  refine V_iload_1 dX12_plaintiff_1 ?_
  obtain ⟨fo, hfo⟩ := hR0.o
  refine V_call_a (runV1 dX12_plaintiff_2 ce_X12_existingCase rfl ml_X12_253 im_X12_existingCase se_X12_existingCase hfo ⟨_, rfl, rfl⟩ (Nat.le_of_ble_eq_true rfl)) (by omega) (by omega) (by omega) (c_exC hR0 (fun hh r hrx => ?_) (fun hn H1 hz hq => VX_out rfl (kx hn H1 hz hq)))
  obtain ⟨mr, hr, hrm⟩ := id hrx.md
  refine V_getf dX12_plaintiff_5 fl_X12_257 hr.1 rfl ?_
  exact V_reti dX12_plaintiff_8 rfl rfl (kk hh)
set_option maxHeartbeats 1000000 in
set_option maxRecDepth 100000 in
theorem c_fDef {G : GT} {X : String → Heap → Prop} {H : Heap} {g : Nat → Nat} {o : Nat} {R : RgC} {x : Int32} (hR : RG G H g o R) {F : Int32 → Heap → Prop} (kk : hasC R.1.2.2.1 x → F (cDf (theC R.1.2.2.1 x)) H) (kx : (¬ hasC R.1.2.2.1 x → ∀ H1 : Heap, H.size ≤ H1.size → (∀ q : Nat, q < H.size → H1[q]? = H[q]?) → X "java/util/NoSuchElementException" H1)) : Call G kX12_defendant 7 1 6 [.ref o, .int x] H (qi F) X := by
  obtain ⟨S, sn, tk, ea, wd, sc, ou, le, lf, K⟩ := R
  refine startL (L0 := [some (.ref o), some (.int x)]) rfl rfl pl_X12_defendant (Nat.le_of_ble_eq_true rfl) ?_
  have hR0 := hR
  obtain ⟨nw, sp, el, w, s, u, co, dk, se, ho, htk, hnw, hsp, hel, hw, hs, hu, hco, hdk, hse⟩ := hR
  have hS := hnw
  obtain ⟨bal, ten, cs, ps, n, ch, td, nx⟩ := S
  obtain ⟨hbl, htl, b, k0, u0, v0, hno, hbal, hten, hcs, hps⟩ := id hnw
  have hlc := hcs.len
  have hlp := hps.len
  refine V_aload_0 dX12_defendant_0 ?_
  refine V_iload_1 dX12_defendant_1 ?_
  obtain ⟨fo, hfo⟩ := hR0.o
  refine V_call_a (runV1 dX12_defendant_2 ce_X12_existingCase rfl ml_X12_253 im_X12_existingCase se_X12_existingCase hfo ⟨_, rfl, rfl⟩ (Nat.le_of_ble_eq_true rfl)) (by omega) (by omega) (by omega) (c_exC hR0 (fun hh r hrx => ?_) (fun hn H1 hz hq => VX_out rfl (kx hn H1 hz hq)))
  obtain ⟨mr, hr, hrm⟩ := id hrx.md
  refine V_getf dX12_defendant_5 fl_X12_260 hr.1 rfl ?_
  exact V_reti dX12_defendant_8 rfl rfl (kk hh)
set_option maxHeartbeats 1000000 in
set_option maxRecDepth 100000 in
theorem c_fClm {G : GT} {X : String → Heap → Prop} {H : Heap} {g : Nat → Nat} {o : Nat} {R : RgC} {x : Int32} (hR : RG G H g o R) {F : Int32 → Heap → Prop} (kk : hasC R.1.2.2.1 x → F (cCl (theC R.1.2.2.1 x)) H) (kx : (¬ hasC R.1.2.2.1 x → ∀ H1 : Heap, H.size ≤ H1.size → (∀ q : Nat, q < H.size → H1[q]? = H[q]?) → X "java/util/NoSuchElementException" H1)) : Call G kX12_claim 7 1 6 [.ref o, .int x] H (qi F) X := by
  obtain ⟨S, sn, tk, ea, wd, sc, ou, le, lf, K⟩ := R
  refine startL (L0 := [some (.ref o), some (.int x)]) rfl rfl pl_X12_claim (Nat.le_of_ble_eq_true rfl) ?_
  have hR0 := hR
  obtain ⟨nw, sp, el, w, s, u, co, dk, se, ho, htk, hnw, hsp, hel, hw, hs, hu, hco, hdk, hse⟩ := hR
  have hS := hnw
  obtain ⟨bal, ten, cs, ps, n, ch, td, nx⟩ := S
  obtain ⟨hbl, htl, b, k0, u0, v0, hno, hbal, hten, hcs, hps⟩ := id hnw
  have hlc := hcs.len
  have hlp := hps.len
  refine V_aload_0 dX12_claim_0 ?_
  refine V_iload_1 dX12_claim_1 ?_
  obtain ⟨fo, hfo⟩ := hR0.o
  refine V_call_a (runV1 dX12_claim_2 ce_X12_existingCase rfl ml_X12_253 im_X12_existingCase se_X12_existingCase hfo ⟨_, rfl, rfl⟩ (Nat.le_of_ble_eq_true rfl)) (by omega) (by omega) (by omega) (c_exC hR0 (fun hh r hrx => ?_) (fun hn H1 hz hq => VX_out rfl (kx hn H1 hz hq)))
  obtain ⟨mr, hr, hrm⟩ := id hrx.md
  refine V_getf dX12_claim_5 fl_X12_263 hr.1 rfl ?_
  exact V_reti dX12_claim_8 rfl rfl (kk hh)
set_option maxHeartbeats 1000000 in
set_option maxRecDepth 100000 in
theorem c_fDur {G : GT} {X : String → Heap → Prop} {H : Heap} {g : Nat → Nat} {o : Nat} {R : RgC} {x : Int32} (hR : RG G H g o R) {F : Int32 → Heap → Prop} (kk : hasC R.1.2.2.1 x → F (cDu (theC R.1.2.2.1 x)) H) (kx : (¬ hasC R.1.2.2.1 x → ∀ H1 : Heap, H.size ≤ H1.size → (∀ q : Nat, q < H.size → H1[q]? = H[q]?) → X "java/util/NoSuchElementException" H1)) : Call G kX12_duration 7 1 6 [.ref o, .int x] H (qi F) X := by
  obtain ⟨S, sn, tk, ea, wd, sc, ou, le, lf, K⟩ := R
  refine startL (L0 := [some (.ref o), some (.int x)]) rfl rfl pl_X12_duration (Nat.le_of_ble_eq_true rfl) ?_
  have hR0 := hR
  obtain ⟨nw, sp, el, w, s, u, co, dk, se, ho, htk, hnw, hsp, hel, hw, hs, hu, hco, hdk, hse⟩ := hR
  have hS := hnw
  obtain ⟨bal, ten, cs, ps, n, ch, td, nx⟩ := S
  obtain ⟨hbl, htl, b, k0, u0, v0, hno, hbal, hten, hcs, hps⟩ := id hnw
  have hlc := hcs.len
  have hlp := hps.len
  refine V_aload_0 dX12_duration_0 ?_
  refine V_iload_1 dX12_duration_1 ?_
  obtain ⟨fo, hfo⟩ := hR0.o
  refine V_call_a (runV1 dX12_duration_2 ce_X12_existingCase rfl ml_X12_253 im_X12_existingCase se_X12_existingCase hfo ⟨_, rfl, rfl⟩ (Nat.le_of_ble_eq_true rfl)) (by omega) (by omega) (by omega) (c_exC hR0 (fun hh r hrx => ?_) (fun hn H1 hz hq => VX_out rfl (kx hn H1 hz hq)))
  obtain ⟨mr, hr, hrm⟩ := id hrx.md
  refine V_getf dX12_duration_5 fl_X12_266 hr.1 rfl ?_
  exact V_reti dX12_duration_8 rfl rfl (kk hh)
set_option maxHeartbeats 1000000 in
set_option maxRecDepth 100000 in
theorem c_fDea {G : GT} {X : String → Heap → Prop} {H : Heap} {g : Nat → Nat} {o : Nat} {R : RgC} {x : Int32} (hR : RG G H g o R) {F : Int32 → Heap → Prop} (kk : hasC R.1.2.2.1 x → F (cDl (theC R.1.2.2.1 x)) H) (kx : (¬ hasC R.1.2.2.1 x → ∀ H1 : Heap, H.size ≤ H1.size → (∀ q : Nat, q < H.size → H1[q]? = H[q]?) → X "java/util/NoSuchElementException" H1)) : Call G kX12_deadline 7 1 6 [.ref o, .int x] H (qi F) X := by
  obtain ⟨S, sn, tk, ea, wd, sc, ou, le, lf, K⟩ := R
  refine startL (L0 := [some (.ref o), some (.int x)]) rfl rfl pl_X12_deadline (Nat.le_of_ble_eq_true rfl) ?_
  have hR0 := hR
  obtain ⟨nw, sp, el, w, s, u, co, dk, se, ho, htk, hnw, hsp, hel, hw, hs, hu, hco, hdk, hse⟩ := hR
  have hS := hnw
  obtain ⟨bal, ten, cs, ps, n, ch, td, nx⟩ := S
  obtain ⟨hbl, htl, b, k0, u0, v0, hno, hbal, hten, hcs, hps⟩ := id hnw
  have hlc := hcs.len
  have hlp := hps.len
  refine V_aload_0 dX12_deadline_0 ?_
  refine V_iload_1 dX12_deadline_1 ?_
  obtain ⟨fo, hfo⟩ := hR0.o
  refine V_call_a (runV1 dX12_deadline_2 ce_X12_existingCase rfl ml_X12_253 im_X12_existingCase se_X12_existingCase hfo ⟨_, rfl, rfl⟩ (Nat.le_of_ble_eq_true rfl)) (by omega) (by omega) (by omega) (c_exC hR0 (fun hh r hrx => ?_) (fun hn H1 hz hq => VX_out rfl (kx hn H1 hz hq)))
  obtain ⟨mr, hr, hrm⟩ := id hrx.md
  refine V_getf dX12_deadline_5 fl_X12_269 hr.1 rfl ?_
  exact V_reti dX12_deadline_8 rfl rfl (kk hh)
set_option maxHeartbeats 1000000 in
set_option maxRecDepth 100000 in
theorem c_fSta {G : GT} {X : String → Heap → Prop} {H : Heap} {g : Nat → Nat} {o : Nat} {R : RgC} {x : Int32} (hR : RG G H g o R) {F : Int32 → Heap → Prop} (kk : hasC R.1.2.2.1 x → F (cSd (theC R.1.2.2.1 x)) H) (kx : (¬ hasC R.1.2.2.1 x → ∀ H1 : Heap, H.size ≤ H1.size → (∀ q : Nat, q < H.size → H1[q]? = H[q]?) → X "java/util/NoSuchElementException" H1)) : Call G kX12_state 7 1 6 [.ref o, .int x] H (qi F) X := by
  obtain ⟨S, sn, tk, ea, wd, sc, ou, le, lf, K⟩ := R
  refine startL (L0 := [some (.ref o), some (.int x)]) rfl rfl pl_X12_state (Nat.le_of_ble_eq_true rfl) ?_
  have hR0 := hR
  obtain ⟨nw, sp, el, w, s, u, co, dk, se, ho, htk, hnw, hsp, hel, hw, hs, hu, hco, hdk, hse⟩ := hR
  have hS := hnw
  obtain ⟨bal, ten, cs, ps, n, ch, td, nx⟩ := S
  obtain ⟨hbl, htl, b, k0, u0, v0, hno, hbal, hten, hcs, hps⟩ := id hnw
  have hlc := hcs.len
  have hlp := hps.len
  refine V_aload_0 dX12_state_0 ?_
  refine V_iload_1 dX12_state_1 ?_
  obtain ⟨fo, hfo⟩ := hR0.o
  refine V_call_a (runV1 dX12_state_2 ce_X12_existingCase rfl ml_X12_253 im_X12_existingCase se_X12_existingCase hfo ⟨_, rfl, rfl⟩ (Nat.le_of_ble_eq_true rfl)) (by omega) (by omega) (by omega) (c_exC hR0 (fun hh r hrx => ?_) (fun hn H1 hz hq => VX_out rfl (kx hn H1 hz hq)))
  obtain ⟨mr, hr, hrm⟩ := id hrx.md
  refine V_getf dX12_state_5 fl_X12_272 hr.1 rfl ?_
  exact V_retz dX12_state_8 rfl hrx.nr.1.1 rfl (kk hh)
set_option maxHeartbeats 1000000 in
set_option maxRecDepth 100000 in
theorem c_fMLn {G : GT} {X : String → Heap → Prop} {H : Heap} {g : Nat → Nat} {o : Nat} {R : RgC} {x : Int32} (hR : RG G H g o R) {F : Int32 → Heap → Prop} (kk : hasC R.1.2.2.1 x → F (nI (cMt (theC R.1.2.2.1 x)).length) H) (kx : (¬ hasC R.1.2.2.1 x → ∀ H1 : Heap, H.size ≤ H1.size → (∀ q : Nat, q < H.size → H1[q]? = H[q]?) → X "java/util/NoSuchElementException" H1)) : Call G kX12_matterLength 7 1 6 [.ref o, .int x] H (qi F) X := by
  obtain ⟨S, sn, tk, ea, wd, sc, ou, le, lf, K⟩ := R
  refine startL (L0 := [some (.ref o), some (.int x)]) rfl rfl pl_X12_matterLength (Nat.le_of_ble_eq_true rfl) ?_
  have hR0 := hR
  obtain ⟨nw, sp, el, w, s, u, co, dk, se, ho, htk, hnw, hsp, hel, hw, hs, hu, hco, hdk, hse⟩ := hR
  have hS := hnw
  obtain ⟨bal, ten, cs, ps, n, ch, td, nx⟩ := S
  obtain ⟨hbl, htl, b, k0, u0, v0, hno, hbal, hten, hcs, hps⟩ := id hnw
  have hlc := hcs.len
  have hlp := hps.len
  refine V_aload_0 dX12_matterLength_0 ?_
  refine V_iload_1 dX12_matterLength_1 ?_
  obtain ⟨fo, hfo⟩ := hR0.o
  refine V_call_a (runV1 dX12_matterLength_2 ce_X12_existingCase rfl ml_X12_253 im_X12_existingCase se_X12_existingCase hfo ⟨_, rfl, rfl⟩ (Nat.le_of_ble_eq_true rfl)) (by omega) (by omega) (by omega) (c_exC hR0 (fun hh r hrx => ?_) (fun hn H1 hz hq => VX_out rfl (kx hn H1 hz hq)))
  obtain ⟨mr, hr, hrm⟩ := id hrx.md
  refine V_getf dX12_matterLength_5 fl_X12_276 hr.1 rfl ?_
  obtain ⟨fst, hst⟩ := hrm.str.o
  refine V_call_i (runV0 dX12_matterLength_8 ce_J0_length_8abf5 rfl ml_X12_280 im_J0_length_8abf5 se_J0_length_8abf5 hst ⟨_, rfl, rfl⟩ (Nat.le_of_ble_eq_true rfl)) (by omega) (by omega) (by omega) (c_slen hrm.str ?_)
  exact V_reti dX12_matterLength_11 rfl rfl (kk hh)
set_option maxHeartbeats 1000000 in
set_option maxRecDepth 100000 in
theorem c_fMLt {G : GT} {X : String → Heap → Prop} {H : Heap} {g : Nat → Nat} {o : Nat} {R : RgC} {x y : Int32} (hR : RG G H g o R) (hno2 : hasC R.1.2.2.1 x → y < 0 ∨ ¬ y < nI (cMt (theC R.1.2.2.1 x)).length) {F : Int32 → Heap → Prop} (kx1 : (¬ hasC R.1.2.2.1 x → ∀ H1 : Heap, H.size ≤ H1.size → (∀ q : Nat, q < H.size → H1[q]? = H[q]?) → X "java/util/NoSuchElementException" H1)) (kx2 : (hasC R.1.2.2.1 x → ∀ H1 : Heap, H.size ≤ H1.size → (∀ q : Nat, q < H.size → H1[q]? = H[q]?) → X "java/lang/IndexOutOfBoundsException" H1)) : Call G kX12_matterLetter 7 2 12 [.ref o, .int x, .int y] H (qi F) X := by
  obtain ⟨S, sn, tk, ea, wd, sc, ou, le, lf, K⟩ := R
  refine startL (L0 := [some (.ref o), some (.int x), some (.int y), none]) rfl rfl pl_X12_matterLetter (Nat.le_of_ble_eq_true rfl) ?_
  have hR0 := hR
  obtain ⟨nw, sp, el, w, s, u, co, dk, se, ho, htk, hnw, hsp, hel, hw, hs, hu, hco, hdk, hse⟩ := hR
  have hS := hnw
  obtain ⟨bal, ten, cs, ps, n, ch, td, nx⟩ := S
  obtain ⟨hbl, htl, b, k0, u0, v0, hno, hbal, hten, hcs, hps⟩ := id hnw
  have hlc := hcs.len
  have hlp := hps.len
  have kx := kx1
  refine V_aload_0 dX12_matterLetter_0 ?_
  refine V_iload_1 dX12_matterLetter_1 ?_
  obtain ⟨fo, hfo⟩ := hR0.o
  refine V_call_a (runV1 dX12_matterLetter_2 ce_X12_existingCase rfl ml_X12_253 im_X12_existingCase se_X12_existingCase hfo ⟨_, rfl, rfl⟩ (Nat.le_of_ble_eq_true rfl)) (by omega) (by omega) (by omega) (c_exC hR0 (fun hh r hrx => ?_) (fun hn H1 hz hq => VX_out rfl (kx hn H1 hz hq)))
  obtain ⟨mr, hr, hrm⟩ := id hrx.md
  refine V_getf dX12_matterLetter_5 fl_X12_276 hr.1 rfl ?_
  refine V_astore_3 dX12_matterLetter_8 rfl ?_
  refine V_iload_2 dX12_matterLetter_9 ?_
  obtain ⟨fst, hst⟩ := hrm.str.o
  refine V_if_lt (tgt := 21) dX12_matterLetter_10 (by decide) (fun c_10 => ?_) (fun c_10 => ?_)
  · exact V_throwS (i := 32) (by decide +kernel) tc_IndexOut ti_IndexOut tw_IndexOut tg_IndexOut rfl dX12_matterLetter_21 dX12_matterLetter_24 dX12_matterLetter_25 dX12_matterLetter_27 dX12_matterLetter_30 rfl (by omega) (by omega) (by omega) (Nat.le_of_ble_eq_true rfl) (fun H1 hz hq => kx2 hh H1 hz hq)
  · refine V_iload_2 dX12_matterLetter_13 ?_
    refine V_aload_3 dX12_matterLetter_14 ?_
    refine V_call_i (runV0 dX12_matterLetter_15 ce_J0_length_8abf5 rfl ml_X12_280 im_J0_length_8abf5 se_J0_length_8abf5 hst ⟨_, rfl, rfl⟩ (Nat.le_of_ble_eq_true rfl)) (by omega) (by omega) (by omega) (c_slen hrm.str ?_)
    refine V_icmp_lt (tgt := 31) dX12_matterLetter_18 (by decide) (fun c_18 => ?_) (fun c_18 => ?_)
    · exact absurd c_18 ((hno2 hh).resolve_left c_10)
    · exact V_throwS (i := 32) (by decide +kernel) tc_IndexOut ti_IndexOut tw_IndexOut tg_IndexOut rfl dX12_matterLetter_21 dX12_matterLetter_24 dX12_matterLetter_25 dX12_matterLetter_27 dX12_matterLetter_30 rfl (by omega) (by omega) (by omega) (Nat.le_of_ble_eq_true rfl) (fun H1 hz hq => kx2 hh H1 hz hq)
set_option maxHeartbeats 1000000 in
set_option maxRecDepth 100000 in
theorem c_deC {G : GT} {X : String → Heap → Prop} {H : Heap} {g : Nat → Nat} {o : Nat} {R : RgC} {x : Int32} (hR : RG G H g o R) {F : Nat → Heap → Prop} (kk : hasC R.1.2.2.1 x → ¬ cSd (theC R.1.2.2.1 x) = 102 → ∀ r : Nat, isCase G H g r (theC R.1.2.2.1 x) → F r H) (kx1 : (¬ hasC R.1.2.2.1 x → ∀ H1 : Heap, H.size ≤ H1.size → (∀ q : Nat, q < H.size → H1[q]? = H[q]?) → X "java/util/NoSuchElementException" H1)) (kx2 : hasC R.1.2.2.1 x → (cSd (theC R.1.2.2.1 x) = 102 → ∀ H1 : Heap, H.size ≤ H1.size → (∀ q : Nat, q < H.size → H1[q]? = H[q]?) → X "java/lang/IllegalStateException" H1)) : Call G kX12_decidedCase 7 2 12 [.ref o, .int x] H (qa F) X := by
  obtain ⟨S, sn, tk, ea, wd, sc, ou, le, lf, K⟩ := R
  refine startL (L0 := [some (.ref o), some (.int x), none]) rfl rfl pl_X12_decidedCase (Nat.le_of_ble_eq_true rfl) ?_
  have hR0 := hR
  obtain ⟨nw, sp, el, w, s, u, co, dk, se, ho, htk, hnw, hsp, hel, hw, hs, hu, hco, hdk, hse⟩ := hR
  have hS := hnw
  obtain ⟨bal, ten, cs, ps, n, ch, td, nx⟩ := S
  obtain ⟨hbl, htl, b, k0, u0, v0, hno, hbal, hten, hcs, hps⟩ := id hnw
  have hlc := hcs.len
  have hlp := hps.len
  have kx := kx1
  refine V_aload_0 dX12_decidedCase_0 ?_
  refine V_iload_1 dX12_decidedCase_1 ?_
  obtain ⟨fo, hfo⟩ := hR0.o
  refine V_call_a (runV1 dX12_decidedCase_2 ce_X12_existingCase rfl ml_X12_253 im_X12_existingCase se_X12_existingCase hfo ⟨_, rfl, rfl⟩ (Nat.le_of_ble_eq_true rfl)) (by omega) (by omega) (by omega) (c_exC hR0 (fun hh r hrx => ?_) (fun hn H1 hz hq => VX_out rfl (kx hn H1 hz hq)))
  obtain ⟨mr, hr, hrm⟩ := id hrx.md
  refine V_astore_2 dX12_decidedCase_5 rfl ?_
  refine V_aload_2 dX12_decidedCase_6 ?_
  refine V_getf dX12_decidedCase_7 fl_X12_272 hr.1 rfl ?_
  refine V_bipush (v := 102) dX12_decidedCase_10 (by decide) ?_
  refine V_icmp_ne (tgt := 26) dX12_decidedCase_12 (by decide) (fun c_12 => ?_) (fun c_12 => ?_)
  · refine V_aload_2 dX12_decidedCase_26 ?_
    exact V_reta dX12_decidedCase_27 rfl (Or.inl ⟨_, rfl⟩) (kk hh c_12 r hrx)
  · exact V_throwSW (i := 14) (by decide +kernel) tc_IllegalState ti_IllegalState tw_IllegalState tg_IllegalState rfl dX12_decidedCase_15 dX12_decidedCase_18 dX12_decidedCase_19 dX12_decidedCase_22 dX12_decidedCase_25 rfl (by omega) (by omega) (by omega) (Nat.le_of_ble_eq_true rfl) (fun H1 hz hq => kx2 hh c_12 H1 hz hq)
set_option maxHeartbeats 1000000 in
set_option maxRecDepth 100000 in
theorem c_fPct {G : GT} {X : String → Heap → Prop} {H : Heap} {g : Nat → Nat} {o : Nat} {R : RgC} {x : Int32} (hR : RG G H g o R) {F : Int32 → Heap → Prop} (kk : hasC R.1.2.2.1 x → ¬ cSd (theC R.1.2.2.1 x) = 102 → F (cPc (theC R.1.2.2.1 x)) H) (kx1 : (¬ hasC R.1.2.2.1 x → ∀ H1 : Heap, H.size ≤ H1.size → (∀ q : Nat, q < H.size → H1[q]? = H[q]?) → X "java/util/NoSuchElementException" H1)) (kx2 : hasC R.1.2.2.1 x → (cSd (theC R.1.2.2.1 x) = 102 → ∀ H1 : Heap, H.size ≤ H1.size → (∀ q : Nat, q < H.size → H1[q]? = H[q]?) → X "java/lang/IllegalStateException" H1)) : Call G kX12_percentage 8 2 12 [.ref o, .int x] H (qi F) X := by
  obtain ⟨S, sn, tk, ea, wd, sc, ou, le, lf, K⟩ := R
  refine startL (L0 := [some (.ref o), some (.int x)]) rfl rfl pl_X12_percentage (Nat.le_of_ble_eq_true rfl) ?_
  have hR0 := hR
  obtain ⟨nw, sp, el, w, s, u, co, dk, se, ho, htk, hnw, hsp, hel, hw, hs, hu, hco, hdk, hse⟩ := hR
  have hS := hnw
  obtain ⟨bal, ten, cs, ps, n, ch, td, nx⟩ := S
  obtain ⟨hbl, htl, b, k0, u0, v0, hno, hbal, hten, hcs, hps⟩ := id hnw
  have hlc := hcs.len
  have hlp := hps.len
  refine V_aload_0 dX12_percentage_0 ?_
  refine V_iload_1 dX12_percentage_1 ?_
  obtain ⟨fo, hfo⟩ := hR0.o
  refine V_call_a (runV1 dX12_percentage_2 ce_X12_decidedCase rfl ml_X12_287 im_X12_decidedCase se_X12_decidedCase hfo ⟨_, rfl, rfl⟩ (Nat.le_of_ble_eq_true rfl)) (by omega) (by omega) (by omega) (c_deC hR0 (fun hh hd r hrx => ?_) (fun hn H1 hz hq => VX_out rfl (kx1 hn H1 hz hq)) (fun hh hd H1 hz hq => VX_out rfl (kx2 hh hd H1 hz hq)))
  obtain ⟨mr, hr, hrm⟩ := id hrx.md
  refine V_getf dX12_percentage_5 fl_X12_290 hr.1 rfl ?_
  exact V_reti dX12_percentage_8 rfl rfl (kk hh hd)
set_option maxHeartbeats 1000000 in
set_option maxRecDepth 100000 in
theorem c_fAwd {G : GT} {X : String → Heap → Prop} {H : Heap} {g : Nat → Nat} {o : Nat} {R : RgC} {x : Int32} (hR : RG G H g o R) {F : Int32 → Heap → Prop} (kk : hasC R.1.2.2.1 x → ¬ cSd (theC R.1.2.2.1 x) = 102 → F (cAw (theC R.1.2.2.1 x)) H) (kx1 : (¬ hasC R.1.2.2.1 x → ∀ H1 : Heap, H.size ≤ H1.size → (∀ q : Nat, q < H.size → H1[q]? = H[q]?) → X "java/util/NoSuchElementException" H1)) (kx2 : hasC R.1.2.2.1 x → (cSd (theC R.1.2.2.1 x) = 102 → ∀ H1 : Heap, H.size ≤ H1.size → (∀ q : Nat, q < H.size → H1[q]? = H[q]?) → X "java/lang/IllegalStateException" H1)) : Call G kX12_award 8 2 12 [.ref o, .int x] H (qi F) X := by
  obtain ⟨S, sn, tk, ea, wd, sc, ou, le, lf, K⟩ := R
  refine startL (L0 := [some (.ref o), some (.int x)]) rfl rfl pl_X12_award (Nat.le_of_ble_eq_true rfl) ?_
  have hR0 := hR
  obtain ⟨nw, sp, el, w, s, u, co, dk, se, ho, htk, hnw, hsp, hel, hw, hs, hu, hco, hdk, hse⟩ := hR
  have hS := hnw
  obtain ⟨bal, ten, cs, ps, n, ch, td, nx⟩ := S
  obtain ⟨hbl, htl, b, k0, u0, v0, hno, hbal, hten, hcs, hps⟩ := id hnw
  have hlc := hcs.len
  have hlp := hps.len
  refine V_aload_0 dX12_award_0 ?_
  refine V_iload_1 dX12_award_1 ?_
  obtain ⟨fo, hfo⟩ := hR0.o
  refine V_call_a (runV1 dX12_award_2 ce_X12_decidedCase rfl ml_X12_287 im_X12_decidedCase se_X12_decidedCase hfo ⟨_, rfl, rfl⟩ (Nat.le_of_ble_eq_true rfl)) (by omega) (by omega) (by omega) (c_deC hR0 (fun hh hd r hrx => ?_) (fun hn H1 hz hq => VX_out rfl (kx1 hn H1 hz hq)) (fun hh hd H1 hz hq => VX_out rfl (kx2 hh hd H1 hz hq)))
  obtain ⟨mr, hr, hrm⟩ := id hrx.md
  refine V_getf dX12_award_5 fl_X12_293 hr.1 rfl ?_
  exact V_reti dX12_award_8 rfl rfl (kk hh hd)
set_option maxHeartbeats 1000000 in
set_option maxRecDepth 100000 in
theorem c_fCst {G : GT} {X : String → Heap → Prop} {H : Heap} {g : Nat → Nat} {o : Nat} {R : RgC} {x : Int32} (hR : RG G H g o R) {F : Int32 → Heap → Prop} (kk : hasC R.1.2.2.1 x → ¬ cSd (theC R.1.2.2.1 x) = 102 → F (cCo (theC R.1.2.2.1 x)) H) (kx1 : (¬ hasC R.1.2.2.1 x → ∀ H1 : Heap, H.size ≤ H1.size → (∀ q : Nat, q < H.size → H1[q]? = H[q]?) → X "java/util/NoSuchElementException" H1)) (kx2 : hasC R.1.2.2.1 x → (cSd (theC R.1.2.2.1 x) = 102 → ∀ H1 : Heap, H.size ≤ H1.size → (∀ q : Nat, q < H.size → H1[q]? = H[q]?) → X "java/lang/IllegalStateException" H1)) : Call G kX12_cost 8 2 12 [.ref o, .int x] H (qi F) X := by
  obtain ⟨S, sn, tk, ea, wd, sc, ou, le, lf, K⟩ := R
  refine startL (L0 := [some (.ref o), some (.int x)]) rfl rfl pl_X12_cost (Nat.le_of_ble_eq_true rfl) ?_
  have hR0 := hR
  obtain ⟨nw, sp, el, w, s, u, co, dk, se, ho, htk, hnw, hsp, hel, hw, hs, hu, hco, hdk, hse⟩ := hR
  have hS := hnw
  obtain ⟨bal, ten, cs, ps, n, ch, td, nx⟩ := S
  obtain ⟨hbl, htl, b, k0, u0, v0, hno, hbal, hten, hcs, hps⟩ := id hnw
  have hlc := hcs.len
  have hlp := hps.len
  refine V_aload_0 dX12_cost_0 ?_
  refine V_iload_1 dX12_cost_1 ?_
  obtain ⟨fo, hfo⟩ := hR0.o
  refine V_call_a (runV1 dX12_cost_2 ce_X12_decidedCase rfl ml_X12_287 im_X12_decidedCase se_X12_decidedCase hfo ⟨_, rfl, rfl⟩ (Nat.le_of_ble_eq_true rfl)) (by omega) (by omega) (by omega) (c_deC hR0 (fun hh hd r hrx => ?_) (fun hn H1 hz hq => VX_out rfl (kx1 hn H1 hz hq)) (fun hh hd H1 hz hq => VX_out rfl (kx2 hh hd H1 hz hq)))
  obtain ⟨mr, hr, hrm⟩ := id hrx.md
  refine V_getf dX12_cost_5 fl_X12_296 hr.1 rfl ?_
  exact V_reti dX12_cost_8 rfl rfl (kk hh hd)
set_option maxHeartbeats 1000000 in
set_option maxRecDepth 100000 in
theorem c_fCAt {G : GT} {X : String → Heap → Prop} {H : Heap} {g : Nat → Nat} {o : Nat} {R : RgC} {x : Int32} (hR : RG G H g o R) {F : Int32 → Heap → Prop} (kk : (¬ x < 0 ∧ ¬ nI R.1.2.2.1.length ≤ x) → F (cId (gC R.1.2.2.1 x)) H) (kx : (¬ (¬ x < 0 ∧ ¬ nI R.1.2.2.1.length ≤ x) → ∀ H1 : Heap, H.size ≤ H1.size → (∀ q : Nat, q < H.size → H1[q]? = H[q]?) → X "java/lang/IndexOutOfBoundsException" H1)) : Call G kX12_caseAt 6 1 6 [.ref o, .int x] H (qi F) X := by
  obtain ⟨S, sn, tk, ea, wd, sc, ou, le, lf, K⟩ := R
  refine startL (L0 := [some (.ref o), some (.int x)]) rfl rfl pl_X12_caseAt (Nat.le_of_ble_eq_true rfl) ?_
  have hR0 := hR
  obtain ⟨nw, sp, el, w, s, u, co, dk, se, ho, htk, hnw, hsp, hel, hw, hs, hu, hco, hdk, hse⟩ := hR
  have hS := hnw
  obtain ⟨bal, ten, cs, ps, n, ch, td, nx⟩ := S
  obtain ⟨hbl, htl, b, k0, u0, v0, hno, hbal, hten, hcs, hps⟩ := id hnw
  have hlc := hcs.len
  have hlp := hps.len
  refine V_iload_1 dX12_caseAt_0 ?_
  refine V_if_lt (tgt := 18) dX12_caseAt_1 (by decide) (fun c_1 => ?_) (fun c_1 => ?_)
  · exact V_throwS (i := 32) (by decide +kernel) tc_IndexOut ti_IndexOut tw_IndexOut tg_IndexOut rfl dX12_caseAt_18 dX12_caseAt_21 dX12_caseAt_22 dX12_caseAt_24 dX12_caseAt_27 rfl (by omega) (by omega) (by omega) (Nat.le_of_ble_eq_true rfl) (fun H1 hz hq => kx (fun z => z.1 c_1) H1 hz hq)
  · refine V_iload_1 dX12_caseAt_4 ?_
    refine V_aload_0 dX12_caseAt_5 ?_
    refine V_getf dX12_caseAt_6 fl_X12_10 ho.ro rfl ?_
    refine V_getf dX12_caseAt_9 fl_X12_240 hno.ro rfl ?_
    obtain ⟨f0, hf0⟩ := hcs.ro
    refine V_call_i (runV0 dX12_caseAt_12 ce_Jx4a65c_size_8abf5 rfl ml_X12_128 im_Jx4a65c_size_8abf5 se_Jx4a65c_size_8abf5 hf0 ⟨_, rfl, rfl⟩ (Nat.le_of_ble_eq_true rfl)) (by omega) (by omega) (by omega) (c_clsize hcs ?_)
    refine V_icmp_lt (tgt := 28) dX12_caseAt_15 (by decide) (fun c_15 => ?_) (fun c_15 => ?_)
    · refine V_aload_0 dX12_caseAt_28 ?_
      refine V_getf dX12_caseAt_29 fl_X12_10 ho.ro rfl ?_
      refine V_getf dX12_caseAt_32 fl_X12_240 hno.ro rfl ?_
      refine V_iload_1 dX12_caseAt_35 ?_
      obtain ⟨f0, hf0⟩ := hcs.ro
      refine V_call_a (runV1 dX12_caseAt_36 ce_Jx4a65c_get_915e3 rfl ml_X12_245 im_Jx4a65c_get_915e3 se_Jx4a65c_get_915e3 hf0 ⟨_, rfl, rfl⟩ (Nat.le_of_ble_eq_true rfl)) (by omega) (by omega) (by omega) (c_clget hcs c_1 (Int32.not_le.mpr c_15) fun r hrx => ?_)
      obtain ⟨mr, hr, hrm⟩ := id hrx.md
      refine V_castS (ci := 5) dX12_caseAt_39 rfl ck_X12_248 hr.1 ?_
      refine V_getf dX12_caseAt_42 fl_X12_250 hr.1 rfl ?_
      exact V_reti dX12_caseAt_45 rfl rfl (kk ⟨c_1, Int32.not_le.mpr c_15⟩)
    · exact V_throwS (i := 32) (by decide +kernel) tc_IndexOut ti_IndexOut tw_IndexOut tg_IndexOut rfl dX12_caseAt_18 dX12_caseAt_21 dX12_caseAt_22 dX12_caseAt_24 dX12_caseAt_27 rfl (by omega) (by omega) (by omega) (Nat.le_of_ble_eq_true rfl) (fun H1 hz hq => kx (fun z => z.2 (Int32.not_lt.mp c_15)) H1 hz hq)
set_option maxHeartbeats 1000000 in
set_option maxRecDepth 100000 in
theorem c_fPPc {G : GT} {X : String → Heap → Prop} {H : Heap} {g : Nat → Nat} {o : Nat} {R : RgC} {x : Int32} (hR : RG G H g o R) {F : Int32 → Heap → Prop} (kk : (¬ x < 0 ∧ ¬ nI R.1.2.2.2.1.length ≤ x) → F (gP R.1.2.2.2.1 x).2 H) (kx : (¬ (¬ x < 0 ∧ ¬ nI R.1.2.2.2.1.length ≤ x) → ∀ H1 : Heap, H.size ≤ H1.size → (∀ q : Nat, q < H.size → H1[q]? = H[q]?) → X "java/lang/IndexOutOfBoundsException" H1)) : Call G kX12_precedentPercentage 7 1 6 [.ref o, .int x] H (qi F) X := by
  obtain ⟨S, sn, tk, ea, wd, sc, ou, le, lf, K⟩ := R
  refine startL (L0 := [some (.ref o), some (.int x)]) rfl rfl pl_X12_precedentPercentage (Nat.le_of_ble_eq_true rfl) ?_
  have hR0 := hR
  obtain ⟨nw, sp, el, w, s, u, co, dk, se, ho, htk, hnw, hsp, hel, hw, hs, hu, hco, hdk, hse⟩ := hR
  have hS := hnw
  obtain ⟨bal, ten, cs, ps, n, ch, td, nx⟩ := S
  obtain ⟨hbl, htl, b, k0, u0, v0, hno, hbal, hten, hcs, hps⟩ := id hnw
  have hlc := hcs.len
  have hlp := hps.len
  refine V_aload_0 dX12_precedentPercentage_0 ?_
  refine V_iload_1 dX12_precedentPercentage_1 ?_
  obtain ⟨fo, hfo⟩ := hR0.o
  refine V_call_a (runV1 dX12_precedentPercentage_2 ce_X12_existingPrecedent rfl ml_X12_324 im_X12_existingPrecedent se_X12_existingPrecedent hfo ⟨_, rfl, rfl⟩ (Nat.le_of_ble_eq_true rfl)) (by omega) (by omega) (by omega) (c_exP hR0 (fun hh r mr hr hrm => ?_) (fun hn H1 hz hq => VX_out rfl (kx hn H1 hz hq)))
  refine V_getf dX12_precedentPercentage_5 fl_X12_328 hr.1 rfl ?_
  exact V_reti dX12_precedentPercentage_8 rfl rfl (kk hh)
set_option maxHeartbeats 1000000 in
set_option maxRecDepth 100000 in
theorem c_fOut {G : GT} {X : String → Heap → Prop} {H : Heap} {g : Nat → Nat} {o : Nat} {R : RgC} {x : Int32} (hR : RG G H g o R) {F : Int32 → Heap → Prop} (kk : ∀ j : Nat, j < (rgU R).length → x = nI j → F ((rgU R).getD j 0) H) (kx : (¬ (¬ x < 0 ∧ ¬ nI (rgU R).length ≤ x) → ∀ H1 : Heap, H.size ≤ H1.size → (∀ q : Nat, q < H.size → H1[q]? = H[q]?) → X "java/lang/IndexOutOfBoundsException" H1)) : Call G kX12_outputAt 6 1 6 [.ref o, .int x] H (qi F) X := by
  obtain ⟨S, sn, tk, ea, wd, sc, ou, le, lf, K⟩ := R
  refine startL (L0 := [some (.ref o), some (.int x)]) rfl rfl pl_X12_outputAt (Nat.le_of_ble_eq_true rfl) ?_
  have hR0 := hR
  obtain ⟨nw, sp, el, w, s, u, co, dk, se, ho, htk, hnw, hsp, hel, hw, hs, hu, hco, hdk, hse⟩ := hR
  refine V_iload_1 dX12_outputAt_0 ?_
  refine V_if_lt (tgt := 15) dX12_outputAt_1 (by decide) (fun c_1 => ?_) (fun c_1 => ?_)
  · exact V_throwSW (i := 29) (by decide +kernel) tc_IndexOut ti_IndexOut tw_IndexOut tg_IndexOut rfl dX12_outputAt_15 dX12_outputAt_18 dX12_outputAt_19 dX12_outputAt_22 dX12_outputAt_25 rfl (by omega) (by omega) (by omega) (Nat.le_of_ble_eq_true rfl) (fun H1 hz hq => kx (fun z => z.1 c_1) H1 hz hq)
  · refine V_iload_1 dX12_outputAt_4 ?_
    refine V_aload_0 dX12_outputAt_5 ?_
    refine V_getf dX12_outputAt_6 fl_X12_40 ho.ro rfl ?_
    obtain ⟨fu, hfu⟩ := hu.o
    have hlu := hu.len
    refine V_call_i (runV0 dX12_outputAt_9 ce_J4_length_8abf5 rfl ml_X12_173 im_J4_length_8abf5 se_J4_length_8abf5 hfu ⟨_, rfl, rfl⟩ (Nat.le_of_ble_eq_true rfl)) (by omega) (by omega) (by omega) (c_soLen hu ?_)
    refine V_icmp_lt (tgt := 26) dX12_outputAt_12 (by decide) (fun c_12 => ?_) (fun c_12 => ?_)
    · obtain ⟨j, hj, rfl⟩ := nI_of c_1
      have hjl : j < ou.length := nI_ltN hj (by omega) c_12
      refine V_aload_0 dX12_outputAt_26 ?_
      refine V_getf dX12_outputAt_27 fl_X12_40 ho.ro rfl ?_
      refine V_iload_1 dX12_outputAt_30 ?_
      refine V_call_i (runV1 dX12_outputAt_31 ce_J4_charAt_5068e rfl ml_X12_375 im_J4_charAt_5068e se_J4_charAt_5068e hfu ⟨_, rfl, rfl⟩ (Nat.le_of_ble_eq_true rfl)) (by omega) (by omega) (by omega) (c_soChar hu hjl ?_)
      exact V_retz dX12_outputAt_34 rfl (chr_n (asc_at hu.asc j)) rfl (kk j hjl rfl)
    · exact V_throwSW (i := 29) (by decide +kernel) tc_IndexOut ti_IndexOut tw_IndexOut tg_IndexOut rfl dX12_outputAt_15 dX12_outputAt_18 dX12_outputAt_19 dX12_outputAt_22 dX12_outputAt_25 rfl (by omega) (by omega) (by omega) (Nat.le_of_ble_eq_true rfl) (fun H1 hz hq => kx (fun z => z.2 (Int32.not_lt.mp c_12)) H1 hz hq)

def bbL (bal ten : List Int32) (n x : Int32) : Nat → Int32 → Option Int32
  | 0, _ => none
  | k + 1, i => if n ≤ i then none else if buttonsBefore bal ten n i = x then some i else bbL bal ten n x k (i + 1)
def bbV (S : StC) (x : Int32) : Option Int32 := bbL S.1 S.2.1 S.2.2.2.2.1 x S.2.2.2.2.1.toNatClampNeg 0
def ccL (cs : List CaseC) (x : Int32) : Nat → Int32 → Option Int32
  | 0, _ => none
  | k + 1, i => if nI cs.length ≤ i then none else if casesBefore cs (gC cs i) = x then some (cId (gC cs i)) else ccL cs x k (i + 1)
def ccV (S : StC) (x : Int32) : Option Int32 := ccL S.2.2.1 x (nI S.2.2.1.length).toNatClampNeg 0
def suL (cs : List CaseC) : Nat → Int32 → Int32 → Int32
  | 0, s, _ => s
  | k + 1, s, i => if nI cs.length ≤ i then s else suL cs k (s + cCl (gC cs i)) (i + 1)
def ruL (cs : List CaseC) : Nat → Int32 → Int32 → Int32
  | 0, s, _ => s
  | k + 1, s, i => if nI cs.length ≤ i then s else if cSd (gC cs i) = 114 then ruL cs k (s + 1) (i + 1) else ruL cs k s (i + 1)
def meaV (S : StC) : UInt64 := FP.ddiv (FP.i2d (suL S.2.2.1 (nI S.2.2.1.length).toNatClampNeg 0 0)) (FP.i2d (nI S.2.2.1.length))
def shaV (S : StC) : UInt32 := FP.fdiv (FP.i2f (ruL S.2.2.1 (nI S.2.2.1.length).toNatClampNeg 0 0)) (FP.i2f (nI S.2.2.1.length))
set_option maxHeartbeats 1000000 in
set_option maxRecDepth 100000 in
theorem c_bbL {G : GT} {X : String → Heap → Prop} {H : Heap} {g : Nat → Nat} {o : Nat} {R : RgC} (hR : RG G H g o R) {x : Int32} {F : Int32 → Heap → Prop} {cc ss : Nat} : ∀ (k : Nat) (i : Int32), R.1.2.2.2.2.1.toInt ≤ i.toInt + ((k : Nat) : Int) → (∀ v, bbL R.1.1 R.1.2.1 R.1.2.2.2.2.1 x k i = some v → F v H) → (bbL R.1.1 R.1.2.1 R.1.2.2.2.2.1 x k i = none → ∀ H1 : Heap, H.size ≤ H1.size → (∀ q : Nat, q < H.size → H1[q]? = H[q]?) → X "java/util/NoSuchElementException" H1) → V G kX12_buttonByBalance 6 (cc + 1) (ss + 6) (qi F) X 2 [some (.ref o), some (.int x), some (.int i)] [] H := by
  obtain ⟨S, sn, tk, ea, wd, sc, ou, le, lf, K⟩ := R
  have hR0 := hR
  obtain ⟨nw, sp, el, w, s, u, co, dk, se, ho, htk, hnw, hsp, hel, hw, hs, hu, hco, hdk, hse⟩ := hR
  have hS := hnw
  obtain ⟨bal, ten, cs, ps, n, ch, td, nx⟩ := S
  obtain ⟨hbl, htl, b, k0, u0, v0, hno, hbal, hten, hcs, hps⟩ := id hnw
  have hlc := hcs.len
  have hlp := hps.len
  intro k
  induction k with
  | zero =>
    intro i hm kk kx
    simp only at hm kk kx
    refine V_iload_2 dX12_buttonByBalance_2 ?_
    refine V_aload_0 dX12_buttonByBalance_3 ?_
    refine V_getf dX12_buttonByBalance_4 fl_X12_10 ho.ro rfl ?_
    refine V_getf dX12_buttonByBalance_7 fl_X12_185 hno.ro rfl ?_
    refine V_icmp_ge (tgt := 33) dX12_buttonByBalance_10 (by decide) (fun c_10 => ?_) (fun c_10 => ?_)
    · exact V_throwN (i := 30) (by decide +kernel) tc_NoSuch ti_NoSuch tw_NoSuch tg_NoSuch rfl dX12_buttonByBalance_33 dX12_buttonByBalance_36 dX12_buttonByBalance_37 dX12_buttonByBalance_39 dX12_buttonByBalance_42 rfl (by omega) (by omega) (by omega) (Nat.le_of_ble_eq_true rfl) (fun H1 hz hq => kx rfl H1 hz hq)
    · exact absurd (loop_end hm) c_10
  | succ k ih =>
    intro i hm kk kx
    simp only at hm kk kx
    refine V_iload_2 dX12_buttonByBalance_2 ?_
    refine V_aload_0 dX12_buttonByBalance_3 ?_
    refine V_getf dX12_buttonByBalance_4 fl_X12_10 ho.ro rfl ?_
    refine V_getf dX12_buttonByBalance_7 fl_X12_185 hno.ro rfl ?_
    refine V_icmp_ge (tgt := 33) dX12_buttonByBalance_10 (by decide) (fun c_10 => ?_) (fun c_10 => ?_)
    · exact V_throwN (i := 30) (by decide +kernel) tc_NoSuch ti_NoSuch tw_NoSuch tg_NoSuch rfl dX12_buttonByBalance_33 dX12_buttonByBalance_36 dX12_buttonByBalance_37 dX12_buttonByBalance_39 dX12_buttonByBalance_42 rfl (by omega) (by omega) (by omega) (Nat.le_of_ble_eq_true rfl) (fun H1 hz hq => kx (by rw [bbL, if_pos c_10]) H1 hz hq)
    · refine V_aload_0 dX12_buttonByBalance_13 ?_
      refine V_getf dX12_buttonByBalance_14 fl_X12_10 ho.ro rfl ?_
      refine V_iload_2 dX12_buttonByBalance_17 ?_
      refine V_call_i (runV1 dX12_buttonByBalance_18 ce_X9_buttonsBefore rfl ml_X12_229 im_X9_buttonsBefore se_X9_buttonsBefore hno.ro ⟨_, rfl, rfl⟩ (Nat.le_of_ble_eq_true rfl)) (by omega) (by omega) (by omega) (c_buttonsBefore hnw ?_)
      refine V_iload_1 dX12_buttonByBalance_21 ?_
      refine V_icmp_ne (tgt := 27) dX12_buttonByBalance_22 (by decide) (fun c_22 => ?_) (fun c_22 => ?_)
      · refine V_iinc_2 (v := 1) dX12_buttonByBalance_27 rfl rfl ?_
        refine V_goto (tgt := 2) dX12_buttonByBalance_30 (by decide) ?_
        exact ih _ (loop_step c_10 hm) (by rw [bbL, if_neg c_10, if_neg c_22] at kk; exact kk) (by rw [bbL, if_neg c_10, if_neg c_22] at kx; exact kx)
      · refine V_iload_2 dX12_buttonByBalance_25 ?_
        exact V_reti dX12_buttonByBalance_26 rfl rfl (kk _ (by rw [bbL, if_neg c_10, if_pos c_22]))
set_option maxHeartbeats 1000000 in
set_option maxRecDepth 100000 in
theorem c_fByB {G : GT} {X : String → Heap → Prop} {H : Heap} {g : Nat → Nat} {o : Nat} {R : RgC} {x : Int32} (hR : RG G H g o R) {F : Int32 → Heap → Prop} (kk : ∀ v, bbV R.1 x = some v → F v H) (kx : bbV R.1 x = none → ∀ H1 : Heap, H.size ≤ H1.size → (∀ q : Nat, q < H.size → H1[q]? = H[q]?) → X "java/util/NoSuchElementException" H1) : Call G kX12_buttonByBalance 6 1 6 [.ref o, .int x] H (qi F) X := by
  obtain ⟨S, sn, tk, ea, wd, sc, ou, le, lf, K⟩ := R
  refine startL (L0 := [some (.ref o), some (.int x), none]) rfl rfl pl_X12_buttonByBalance (Nat.le_of_ble_eq_true rfl) ?_
  have hR0 := hR
  obtain ⟨nw, sp, el, w, s, u, co, dk, se, ho, htk, hnw, hsp, hel, hw, hs, hu, hco, hdk, hse⟩ := hR
  have hS := hnw
  obtain ⟨bal, ten, cs, ps, n, ch, td, nx⟩ := S
  obtain ⟨hbl, htl, b, k0, u0, v0, hno, hbal, hten, hcs, hps⟩ := id hnw
  have hlc := hcs.len
  have hlp := hps.len
  refine V_iconst (v := 0) dX12_buttonByBalance_0 rfl ?_
  refine V_istore_2 dX12_buttonByBalance_1 rfl ?_
  exact c_bbL (cc := 0) (ss := 0) hR0 _ 0 loop_init kk kx
set_option maxHeartbeats 1000000 in
set_option maxRecDepth 100000 in
theorem c_ccL {G : GT} {X : String → Heap → Prop} {H : Heap} {g : Nat → Nat} {o : Nat} {R : RgC} (hR : RG G H g o R) {x : Int32} {F : Int32 → Heap → Prop} {cc ss : Nat} : ∀ (k : Nat) (i : Int32), (nI R.1.2.2.1.length).toInt ≤ i.toInt + ((k : Nat) : Int) → ¬ i < 0 → (∀ v, ccL R.1.2.2.1 x k i = some v → F v H) → (ccL R.1.2.2.1 x k i = none → ∀ H1 : Heap, H.size ≤ H1.size → (∀ q : Nat, q < H.size → H1[q]? = H[q]?) → X "java/util/NoSuchElementException" H1) → V G kX12_caseByClaim 6 (cc + 1) (ss + 6) (qi F) X 2 [some (.ref o), some (.int x), some (.int i), none] [] H := by
  obtain ⟨S, sn, tk, ea, wd, sc, ou, le, lf, K⟩ := R
  have hR0 := hR
  obtain ⟨nw, sp, el, w, s, u, co, dk, se, ho, htk, hnw, hsp, hel, hw, hs, hu, hco, hdk, hse⟩ := hR
  have hS := hnw
  obtain ⟨bal, ten, cs, ps, n, ch, td, nx⟩ := S
  obtain ⟨hbl, htl, b, k0, u0, v0, hno, hbal, hten, hcs, hps⟩ := id hnw
  have hlc := hcs.len
  have hlp := hps.len
  intro k
  induction k with
  | zero =>
    intro i hm hi kk kx
    simp only at hm kk kx
    refine V_iload_2 dX12_caseByClaim_2 ?_
    refine V_aload_0 dX12_caseByClaim_3 ?_
    refine V_getf dX12_caseByClaim_4 fl_X12_10 ho.ro rfl ?_
    refine V_getf dX12_caseByClaim_7 fl_X12_240 hno.ro rfl ?_
    obtain ⟨f0, hf0⟩ := hcs.ro
    refine V_call_i (runV0 dX12_caseByClaim_10 ce_Jx4a65c_size_8abf5 rfl ml_X12_128 im_Jx4a65c_size_8abf5 se_Jx4a65c_size_8abf5 hf0 ⟨_, rfl, rfl⟩ (Nat.le_of_ble_eq_true rfl)) (by omega) (by omega) (by omega) (c_clsize hcs ?_)
    refine V_icmp_ge (tgt := 54) dX12_caseByClaim_13 (by decide) (fun c_13 => ?_) (fun c_13 => ?_)
    · exact V_throwN (i := 30) (by decide +kernel) tc_NoSuch ti_NoSuch tw_NoSuch tg_NoSuch rfl dX12_caseByClaim_54 dX12_caseByClaim_57 dX12_caseByClaim_58 dX12_caseByClaim_60 dX12_caseByClaim_63 rfl (by omega) (by omega) (by omega) (Nat.le_of_ble_eq_true rfl) (fun H1 hz hq => kx rfl H1 hz hq)
    · exact absurd (loop_end hm) c_13
  | succ k ih =>
    intro i hm hi kk kx
    simp only at hm kk kx
    refine V_iload_2 dX12_caseByClaim_2 ?_
    refine V_aload_0 dX12_caseByClaim_3 ?_
    refine V_getf dX12_caseByClaim_4 fl_X12_10 ho.ro rfl ?_
    refine V_getf dX12_caseByClaim_7 fl_X12_240 hno.ro rfl ?_
    obtain ⟨f0, hf0⟩ := hcs.ro
    refine V_call_i (runV0 dX12_caseByClaim_10 ce_Jx4a65c_size_8abf5 rfl ml_X12_128 im_Jx4a65c_size_8abf5 se_Jx4a65c_size_8abf5 hf0 ⟨_, rfl, rfl⟩ (Nat.le_of_ble_eq_true rfl)) (by omega) (by omega) (by omega) (c_clsize hcs ?_)
    refine V_icmp_ge (tgt := 54) dX12_caseByClaim_13 (by decide) (fun c_13 => ?_) (fun c_13 => ?_)
    · exact V_throwN (i := 30) (by decide +kernel) tc_NoSuch ti_NoSuch tw_NoSuch tg_NoSuch rfl dX12_caseByClaim_54 dX12_caseByClaim_57 dX12_caseByClaim_58 dX12_caseByClaim_60 dX12_caseByClaim_63 rfl (by omega) (by omega) (by omega) (Nat.le_of_ble_eq_true rfl) (fun H1 hz hq => kx (by rw [ccL, if_pos c_13]) H1 hz hq)
    · refine V_aload_0 dX12_caseByClaim_16 ?_
      refine V_getf dX12_caseByClaim_17 fl_X12_10 ho.ro rfl ?_
      refine V_getf dX12_caseByClaim_20 fl_X12_240 hno.ro rfl ?_
      refine V_iload_2 dX12_caseByClaim_23 ?_
      obtain ⟨f0, hf0⟩ := hcs.ro
      refine V_call_a (runV1 dX12_caseByClaim_24 ce_Jx4a65c_get_915e3 rfl ml_X12_245 im_Jx4a65c_get_915e3 se_Jx4a65c_get_915e3 hf0 ⟨_, rfl, rfl⟩ (Nat.le_of_ble_eq_true rfl)) (by omega) (by omega) (by omega) (c_clget hcs hi c_13 fun r hrx => ?_)
      obtain ⟨mr, hr, hrm⟩ := id hrx.md
      refine V_castS (ci := 5) dX12_caseByClaim_27 rfl ck_X12_248 hr.1 ?_
      refine V_astore_3 dX12_caseByClaim_30 rfl ?_
      refine V_aload_0 dX12_caseByClaim_31 ?_
      refine V_getf dX12_caseByClaim_32 fl_X12_10 ho.ro rfl ?_
      refine V_aload_3 dX12_caseByClaim_35 ?_
      refine V_call_i (runV1 dX12_caseByClaim_36 ce_X9_casesBefore rfl ml_X12_299 im_X9_casesBefore se_X9_casesBefore hno.ro ⟨_, rfl, rfl⟩ (Nat.le_of_ble_eq_true rfl)) (by omega) (by omega) (by omega) (c_casesBefore hnw hr ?_)
      refine V_iload_1 dX12_caseByClaim_39 ?_
      refine V_icmp_ne (tgt := 48) dX12_caseByClaim_40 (by decide) (fun c_40 => ?_) (fun c_40 => ?_)
      · refine V_iinc_2 (v := 1) dX12_caseByClaim_48 rfl rfl ?_
        refine V_goto (tgt := 2) dX12_caseByClaim_51 (by decide) ?_
        refine V_drop 3 rfl ?_
        exact ih _ (loop_step c_13 hm) (nn_step c_13 hi) (by rw [ccL, if_neg c_13, if_neg c_40] at kk; exact kk) (by rw [ccL, if_neg c_13, if_neg c_40] at kx; exact kx)
      · refine V_aload_3 dX12_caseByClaim_43 ?_
        refine V_getf dX12_caseByClaim_44 fl_X12_250 hr.1 rfl ?_
        exact V_reti dX12_caseByClaim_47 rfl rfl (kk _ (by rw [ccL, if_neg c_13, if_pos c_40]))
set_option maxHeartbeats 1000000 in
set_option maxRecDepth 100000 in
theorem c_fByC {G : GT} {X : String → Heap → Prop} {H : Heap} {g : Nat → Nat} {o : Nat} {R : RgC} {x : Int32} (hR : RG G H g o R) {F : Int32 → Heap → Prop} (kk : ∀ v, ccV R.1 x = some v → F v H) (kx : ccV R.1 x = none → ∀ H1 : Heap, H.size ≤ H1.size → (∀ q : Nat, q < H.size → H1[q]? = H[q]?) → X "java/util/NoSuchElementException" H1) : Call G kX12_caseByClaim 6 1 6 [.ref o, .int x] H (qi F) X := by
  obtain ⟨S, sn, tk, ea, wd, sc, ou, le, lf, K⟩ := R
  refine startL (L0 := [some (.ref o), some (.int x), none, none]) rfl rfl pl_X12_caseByClaim (Nat.le_of_ble_eq_true rfl) ?_
  have hR0 := hR
  obtain ⟨nw, sp, el, w, s, u, co, dk, se, ho, htk, hnw, hsp, hel, hw, hs, hu, hco, hdk, hse⟩ := hR
  have hS := hnw
  obtain ⟨bal, ten, cs, ps, n, ch, td, nx⟩ := S
  obtain ⟨hbl, htl, b, k0, u0, v0, hno, hbal, hten, hcs, hps⟩ := id hnw
  have hlc := hcs.len
  have hlp := hps.len
  refine V_iconst (v := 0) dX12_caseByClaim_0 rfl ?_
  refine V_istore_2 dX12_caseByClaim_1 rfl ?_
  exact c_ccL (cc := 0) (ss := 0) hR0 _ 0 loop_init (by decide) kk kx
set_option maxHeartbeats 1000000 in
set_option maxRecDepth 100000 in
theorem c_suL {G : GT} {X : String → Heap → Prop} {H : Heap} {g : Nat → Nat} {o : Nat} {R : RgC} (hR : RG G H g o R) {F : UInt64 → Heap → Prop} {cc ss : Nat} : ∀ (k : Nat) (s i : Int32), (nI R.1.2.2.1.length).toInt ≤ i.toInt + ((k : Nat) : Int) → ¬ i < 0 → vf_n64 (FP.ddiv (FP.i2d (suL R.1.2.2.1 k s i)) (FP.i2d (nI R.1.2.2.1.length))) → F (FP.ddiv (FP.i2d (suL R.1.2.2.1 k s i)) (FP.i2d (nI R.1.2.2.1.length))) H → V G kX12_meanClaim 6 cc (ss + 6) (qd F) X 30 [some (.ref o), some (.int (nI R.1.2.2.1.length)), some (.int s), some (.int i)] [] H := by
  obtain ⟨S, sn, tk, ea, wd, sc, ou, le, lf, K⟩ := R
  have hR0 := hR
  obtain ⟨nw, sp, el, w, s, u, co, dk, se, ho, htk, hnw, hsp, hel, hw, hs, hu, hco, hdk, hse⟩ := hR
  have hS := hnw
  obtain ⟨bal, ten, cs, ps, n, ch, td, nx⟩ := S
  obtain ⟨hbl, htl, b, k0, u0, v0, hno, hbal, hten, hcs, hps⟩ := id hnw
  have hlc := hcs.len
  have hlp := hps.len
  intro k
  induction k with
  | zero =>
    intro s i hm hi hne kk
    simp only at hm hne kk
    refine V_iload_3 dX12_meanClaim_30 ?_
    refine V_iload_1 dX12_meanClaim_31 ?_
    refine V_icmp_ge (tgt := 61) dX12_meanClaim_32 (by decide) (fun c_32 => ?_) (fun c_32 => ?_)
    · have kk := kk
      have hne := hne
      rw [suL] at kk hne
      refine V_iload_2 dX12_meanClaim_61 ?_
      refine V_i2d dX12_meanClaim_62 ?_
      refine V_iload_1 dX12_meanClaim_63 ?_
      refine V_i2d dX12_meanClaim_64 ?_
      refine V_ddiv dX12_meanClaim_65 hne ?_
      exact V_dret dX12_meanClaim_66 rfl ⟨_, rfl, kk⟩
    · exact absurd (loop_end hm) c_32
  | succ k ih =>
    intro s i hm hi hne kk
    simp only at hm hne kk
    refine V_iload_3 dX12_meanClaim_30 ?_
    refine V_iload_1 dX12_meanClaim_31 ?_
    refine V_icmp_ge (tgt := 61) dX12_meanClaim_32 (by decide) (fun c_32 => ?_) (fun c_32 => ?_)
    · have kk := kk
      have hne := hne
      rw [suL, if_pos c_32] at kk hne
      refine V_iload_2 dX12_meanClaim_61 ?_
      refine V_i2d dX12_meanClaim_62 ?_
      refine V_iload_1 dX12_meanClaim_63 ?_
      refine V_i2d dX12_meanClaim_64 ?_
      refine V_ddiv dX12_meanClaim_65 hne ?_
      exact V_dret dX12_meanClaim_66 rfl ⟨_, rfl, kk⟩
    · refine V_iload_2 dX12_meanClaim_35 ?_
      refine V_aload_0 dX12_meanClaim_36 ?_
      refine V_getf dX12_meanClaim_37 fl_X12_10 ho.ro rfl ?_
      refine V_getf dX12_meanClaim_40 fl_X12_240 hno.ro rfl ?_
      refine V_iload_3 dX12_meanClaim_43 ?_
      obtain ⟨f0, hf0⟩ := hcs.ro
      refine V_call_a (runV1 dX12_meanClaim_44 ce_Jx4a65c_get_915e3 rfl ml_X12_245 im_Jx4a65c_get_915e3 se_Jx4a65c_get_915e3 hf0 ⟨_, rfl, rfl⟩ (Nat.le_of_ble_eq_true rfl)) (by omega) (by omega) (by omega) (c_clget hcs hi c_32 fun r hrx => ?_)
      obtain ⟨mr, hr, hrm⟩ := id hrx.md
      refine V_castS (ci := 5) dX12_meanClaim_47 rfl ck_X12_248 hr.1 ?_
      refine V_getf dX12_meanClaim_50 fl_X12_263 hr.1 rfl ?_
      refine V_iadd dX12_meanClaim_53 ?_
      refine V_istore_2 dX12_meanClaim_54 rfl ?_
      refine V_iinc_3 (v := 1) dX12_meanClaim_55 rfl rfl ?_
      refine V_goto (tgt := 30) dX12_meanClaim_58 (by decide) ?_
      exact ih _ _ (loop_step c_32 hm) (nn_step c_32 hi) (by rw [suL, if_neg c_32] at hne; exact hne) (by rw [suL, if_neg c_32] at kk; exact kk)
set_option maxHeartbeats 1000000 in
set_option maxRecDepth 100000 in
theorem c_fMea {G : GT} {X : String → Heap → Prop} {H : Heap} {g : Nat → Nat} {o : Nat} {R : RgC} (hR : RG G H g o R) {F : UInt64 → Heap → Prop} (hne : ¬ nI R.1.2.2.1.length = 0 → vf_n64 (meaV R.1)) (kk : ¬ nI R.1.2.2.1.length = 0 → F (meaV R.1) H) (kx : nI R.1.2.2.1.length = 0 → ∀ H1 : Heap, H.size ≤ H1.size → (∀ q : Nat, q < H.size → H1[q]? = H[q]?) → X "java/lang/ArithmeticException" H1) : Call G kX12_meanClaim 6 1 6 [.ref o] H (qd F) X := by
  obtain ⟨S, sn, tk, ea, wd, sc, ou, le, lf, K⟩ := R
  refine startL (L0 := [some (.ref o), none, none, none]) rfl rfl pl_X12_meanClaim (Nat.le_of_ble_eq_true rfl) ?_
  have hR0 := hR
  obtain ⟨nw, sp, el, w, s, u, co, dk, se, ho, htk, hnw, hsp, hel, hw, hs, hu, hco, hdk, hse⟩ := hR
  have hS := hnw
  obtain ⟨bal, ten, cs, ps, n, ch, td, nx⟩ := S
  obtain ⟨hbl, htl, b, k0, u0, v0, hno, hbal, hten, hcs, hps⟩ := id hnw
  have hlc := hcs.len
  have hlp := hps.len
  refine V_aload_0 dX12_meanClaim_0 ?_
  refine V_getf dX12_meanClaim_1 fl_X12_10 ho.ro rfl ?_
  refine V_getf dX12_meanClaim_4 fl_X12_240 hno.ro rfl ?_
  obtain ⟨f0, hf0⟩ := hcs.ro
  refine V_call_i (runV0 dX12_meanClaim_7 ce_Jx4a65c_size_8abf5 rfl ml_X12_128 im_Jx4a65c_size_8abf5 se_Jx4a65c_size_8abf5 hf0 ⟨_, rfl, rfl⟩ (Nat.le_of_ble_eq_true rfl)) (by omega) (by omega) (by omega) (c_clsize hcs ?_)
  refine V_istore_1 dX12_meanClaim_10 rfl ?_
  refine V_iload_1 dX12_meanClaim_11 ?_
  refine V_if_ne (tgt := 26) dX12_meanClaim_12 (by decide) (fun c_12 => ?_) (fun c_12 => ?_)
  · refine V_iconst (v := 0) dX12_meanClaim_26 rfl ?_
    refine V_istore_2 dX12_meanClaim_27 rfl ?_
    refine V_iconst (v := 0) dX12_meanClaim_28 rfl ?_
    refine V_istore_3 dX12_meanClaim_29 rfl ?_
    exact c_suL (ss := 0) hR0 _ 0 0 loop_init (by decide) (hne c_12) (kk c_12)
  · exact V_throwSW (i := 26) (by decide +kernel) tc_Arith ti_Arith tw_Arith tg_Arith rfl dX12_meanClaim_15 dX12_meanClaim_18 dX12_meanClaim_19 dX12_meanClaim_22 dX12_meanClaim_25 rfl (by omega) (by omega) (by omega) (Nat.le_of_ble_eq_true rfl) (fun H1 hz hq => kx c_12 H1 hz hq)
set_option maxHeartbeats 1000000 in
set_option maxRecDepth 100000 in
theorem c_ruL {G : GT} {X : String → Heap → Prop} {H : Heap} {g : Nat → Nat} {o : Nat} {R : RgC} (hR : RG G H g o R) {F : UInt32 → Heap → Prop} {cc ss : Nat} : ∀ (k : Nat) (s i : Int32), (nI R.1.2.2.1.length).toInt ≤ i.toInt + ((k : Nat) : Int) → ¬ i < 0 → vf_n32 (FP.fdiv (FP.i2f (ruL R.1.2.2.1 k s i)) (FP.i2f (nI R.1.2.2.1.length))) → F (FP.fdiv (FP.i2f (ruL R.1.2.2.1 k s i)) (FP.i2f (nI R.1.2.2.1.length))) H → V G kX12_ruledShare 6 cc (ss + 6) (qf F) X 30 [some (.ref o), some (.int (nI R.1.2.2.1.length)), some (.int s), some (.int i)] [] H := by
  obtain ⟨S, sn, tk, ea, wd, sc, ou, le, lf, K⟩ := R
  have hR0 := hR
  obtain ⟨nw, sp, el, w, s, u, co, dk, se, ho, htk, hnw, hsp, hel, hw, hs, hu, hco, hdk, hse⟩ := hR
  have hS := hnw
  obtain ⟨bal, ten, cs, ps, n, ch, td, nx⟩ := S
  obtain ⟨hbl, htl, b, k0, u0, v0, hno, hbal, hten, hcs, hps⟩ := id hnw
  have hlc := hcs.len
  have hlp := hps.len
  intro k
  induction k with
  | zero =>
    intro s i hm hi hne kk
    simp only at hm hne kk
    refine V_iload_3 dX12_ruledShare_30 ?_
    refine V_iload_1 dX12_ruledShare_31 ?_
    refine V_icmp_ge (tgt := 66) dX12_ruledShare_32 (by decide) (fun c_32 => ?_) (fun c_32 => ?_)
    · have kk := kk
      have hne := hne
      rw [ruL] at kk hne
      refine V_iload_2 dX12_ruledShare_66 ?_
      refine V_i2f dX12_ruledShare_67 ?_
      refine V_iload_1 dX12_ruledShare_68 ?_
      refine V_i2f dX12_ruledShare_69 ?_
      refine V_fdiv dX12_ruledShare_70 hne ?_
      exact V_fret dX12_ruledShare_71 rfl ⟨_, rfl, kk⟩
    · exact absurd (loop_end hm) c_32
  | succ k ih =>
    intro s i hm hi hne kk
    simp only at hm hne kk
    refine V_iload_3 dX12_ruledShare_30 ?_
    refine V_iload_1 dX12_ruledShare_31 ?_
    refine V_icmp_ge (tgt := 66) dX12_ruledShare_32 (by decide) (fun c_32 => ?_) (fun c_32 => ?_)
    · have kk := kk
      have hne := hne
      rw [ruL, if_pos c_32] at kk hne
      refine V_iload_2 dX12_ruledShare_66 ?_
      refine V_i2f dX12_ruledShare_67 ?_
      refine V_iload_1 dX12_ruledShare_68 ?_
      refine V_i2f dX12_ruledShare_69 ?_
      refine V_fdiv dX12_ruledShare_70 hne ?_
      exact V_fret dX12_ruledShare_71 rfl ⟨_, rfl, kk⟩
    · refine V_aload_0 dX12_ruledShare_35 ?_
      refine V_getf dX12_ruledShare_36 fl_X12_10 ho.ro rfl ?_
      refine V_getf dX12_ruledShare_39 fl_X12_240 hno.ro rfl ?_
      refine V_iload_3 dX12_ruledShare_42 ?_
      obtain ⟨f0, hf0⟩ := hcs.ro
      refine V_call_a (runV1 dX12_ruledShare_43 ce_Jx4a65c_get_915e3 rfl ml_X12_245 im_Jx4a65c_get_915e3 se_Jx4a65c_get_915e3 hf0 ⟨_, rfl, rfl⟩ (Nat.le_of_ble_eq_true rfl)) (by omega) (by omega) (by omega) (c_clget hcs hi c_32 fun r hrx => ?_)
      obtain ⟨mr, hr, hrm⟩ := id hrx.md
      refine V_castS (ci := 5) dX12_ruledShare_46 rfl ck_X12_248 hr.1 ?_
      refine V_getf dX12_ruledShare_49 fl_X12_272 hr.1 rfl ?_
      refine V_bipush (v := 114) dX12_ruledShare_52 (by decide) ?_
      refine V_icmp_ne (tgt := 60) dX12_ruledShare_54 (by decide) (fun c_54 => ?_) (fun c_54 => ?_)
      · refine V_iinc_3 (v := 1) dX12_ruledShare_60 rfl rfl ?_
        refine V_goto (tgt := 30) dX12_ruledShare_63 (by decide) ?_
        exact ih _ _ (loop_step c_32 hm) (nn_step c_32 hi) (by rw [ruL, if_neg c_32, if_neg c_54] at hne; exact hne) (by rw [ruL, if_neg c_32, if_neg c_54] at kk; exact kk)
      · refine V_iinc_2 (v := 1) dX12_ruledShare_57 rfl rfl ?_
        refine V_iinc_3 (v := 1) dX12_ruledShare_60 rfl rfl ?_
        refine V_goto (tgt := 30) dX12_ruledShare_63 (by decide) ?_
        exact ih _ _ (loop_step c_32 hm) (nn_step c_32 hi) (by rw [ruL, if_neg c_32, if_pos c_54] at hne; exact hne) (by rw [ruL, if_neg c_32, if_pos c_54] at kk; exact kk)
set_option maxHeartbeats 1000000 in
set_option maxRecDepth 100000 in
theorem c_fSha {G : GT} {X : String → Heap → Prop} {H : Heap} {g : Nat → Nat} {o : Nat} {R : RgC} (hR : RG G H g o R) {F : UInt32 → Heap → Prop} (hne : ¬ nI R.1.2.2.1.length = 0 → vf_n32 (shaV R.1)) (kk : ¬ nI R.1.2.2.1.length = 0 → F (shaV R.1) H) (kx : nI R.1.2.2.1.length = 0 → ∀ H1 : Heap, H.size ≤ H1.size → (∀ q : Nat, q < H.size → H1[q]? = H[q]?) → X "java/lang/ArithmeticException" H1) : Call G kX12_ruledShare 6 1 6 [.ref o] H (qf F) X := by
  obtain ⟨S, sn, tk, ea, wd, sc, ou, le, lf, K⟩ := R
  refine startL (L0 := [some (.ref o), none, none, none]) rfl rfl pl_X12_ruledShare (Nat.le_of_ble_eq_true rfl) ?_
  have hR0 := hR
  obtain ⟨nw, sp, el, w, s, u, co, dk, se, ho, htk, hnw, hsp, hel, hw, hs, hu, hco, hdk, hse⟩ := hR
  have hS := hnw
  obtain ⟨bal, ten, cs, ps, n, ch, td, nx⟩ := S
  obtain ⟨hbl, htl, b, k0, u0, v0, hno, hbal, hten, hcs, hps⟩ := id hnw
  have hlc := hcs.len
  have hlp := hps.len
  refine V_aload_0 dX12_ruledShare_0 ?_
  refine V_getf dX12_ruledShare_1 fl_X12_10 ho.ro rfl ?_
  refine V_getf dX12_ruledShare_4 fl_X12_240 hno.ro rfl ?_
  obtain ⟨f0, hf0⟩ := hcs.ro
  refine V_call_i (runV0 dX12_ruledShare_7 ce_Jx4a65c_size_8abf5 rfl ml_X12_128 im_Jx4a65c_size_8abf5 se_Jx4a65c_size_8abf5 hf0 ⟨_, rfl, rfl⟩ (Nat.le_of_ble_eq_true rfl)) (by omega) (by omega) (by omega) (c_clsize hcs ?_)
  refine V_istore_1 dX12_ruledShare_10 rfl ?_
  refine V_iload_1 dX12_ruledShare_11 ?_
  refine V_if_ne (tgt := 26) dX12_ruledShare_12 (by decide) (fun c_12 => ?_) (fun c_12 => ?_)
  · refine V_iconst (v := 0) dX12_ruledShare_26 rfl ?_
    refine V_istore_2 dX12_ruledShare_27 rfl ?_
    refine V_iconst (v := 0) dX12_ruledShare_28 rfl ?_
    refine V_istore_3 dX12_ruledShare_29 rfl ?_
    exact c_ruL (ss := 0) hR0 _ 0 0 loop_init (by decide) (hne c_12) (kk c_12)
  · exact V_throwSW (i := 26) (by decide +kernel) tc_Arith ti_Arith tw_Arith tg_Arith rfl dX12_ruledShare_15 dX12_ruledShare_18 dX12_ruledShare_19 dX12_ruledShare_22 dX12_ruledShare_25 rfl (by omega) (by omega) (by omega) (Nat.le_of_ble_eq_true rfl) (fun H1 hz hq => kx c_12 H1 hz hq)
set_option maxHeartbeats 1000000 in
set_option maxRecDepth 100000 in
theorem c_rBut {G : GT} {X : String → Heap → Prop} {H : Heap} {g : Nat → Nat} {o : Nat} {R : RgC} {x : Int32} (hR : RG G H g o R) {F : Heap → Prop} (kk : hasB R.1.2.2.2.2.1 x = true → F H) (kx : hasB R.1.2.2.2.2.1 x = false → ∀ H1 : Heap, H.size ≤ H1.size → (∀ q : Nat, q < H.size → H1[q]? = H[q]?) → X "java/lang/IndexOutOfBoundsException" H1) : Call G kX12_requireButton 6 1 6 [.ref o, .int x] H (qv F) X := by
  obtain ⟨S, sn, tk, ea, wd, sc, ou, le, lf, K⟩ := R
  refine startL (L0 := [some (.ref o), some (.int x)]) rfl rfl pl_X12_requireButton (Nat.le_of_ble_eq_true rfl) ?_
  have hR0 := hR
  obtain ⟨nw, sp, el, w, s, u, co, dk, se, ho, htk, hnw, hsp, hel, hw, hs, hu, hco, hdk, hse⟩ := hR
  have hS := hnw
  obtain ⟨bal, ten, cs, ps, n, ch, td, nx⟩ := S
  obtain ⟨hbl, htl, b, k0, u0, v0, hno, hbal, hten, hcs, hps⟩ := id hnw
  have hlc := hcs.len
  have hlp := hps.len
  refine V_aload_0 dX12_requireButton_0 ?_
  refine V_getf dX12_requireButton_1 fl_X12_10 ho.ro rfl ?_
  refine V_iload_1 dX12_requireButton_4 ?_
  refine V_call_i (runV1 dX12_requireButton_5 ce_X9_hasButton rfl ml_X12_234 im_X9_hasButton se_X9_hasButton hno.ro ⟨_, rfl, rfl⟩ (Nat.le_of_ble_eq_true rfl)) (by omega) (by omega) (by omega) (c_hasButton hnw x ?_)
  refine V_if_ne (tgt := 21) dX12_requireButton_8 (by decide) (fun c_8 => ?_) (fun c_8 => ?_)
  · exact V_retv dX12_requireButton_21 rfl (kk (b2i_n.mp c_8))
  · exact V_throwS (i := 6) (by decide +kernel) tc_IndexOut ti_IndexOut tw_IndexOut tg_IndexOut rfl dX12_requireButton_11 dX12_requireButton_14 dX12_requireButton_15 dX12_requireButton_17 dX12_requireButton_20 rfl (by omega) (by omega) (by omega) (Nat.le_of_ble_eq_true rfl) (fun H1 hz hq => kx (b2i_0.mp c_8) H1 hz hq)
set_option maxHeartbeats 1000000 in
set_option maxRecDepth 100000 in
theorem c_rPair {G : GT} {X : String → Heap → Prop} {H : Heap} {g : Nat → Nat} {o : Nat} {R : RgC} {x y : Int32} (hR : RG G H g o R) {F : Heap → Prop} (kk : hasB R.1.2.2.2.2.1 x = true → hasB R.1.2.2.2.2.1 y = true → ¬ x = y → F H) (kx1 : ¬ (hasB R.1.2.2.2.2.1 x = true ∧ hasB R.1.2.2.2.2.1 y = true) → ∀ H1 : Heap, H.size ≤ H1.size → (∀ q : Nat, q < H.size → H1[q]? = H[q]?) → X "java/lang/IndexOutOfBoundsException" H1) (kx2 : hasB R.1.2.2.2.2.1 x = true → hasB R.1.2.2.2.2.1 y = true → x = y → ∀ H1 : Heap, H.size ≤ H1.size → (∀ q : Nat, q < H.size → H1[q]? = H[q]?) → X "java/lang/IllegalArgumentException" H1) : Call G kX12_requirePair 7 3 18 [.ref o, .int x, .int y] H (qv F) X := by
  obtain ⟨S, sn, tk, ea, wd, sc, ou, le, lf, K⟩ := R
  refine startL (L0 := [some (.ref o), some (.int x), some (.int y)]) rfl rfl pl_X12_requirePair (Nat.le_of_ble_eq_true rfl) ?_
  have hR0 := hR
  obtain ⟨nw, sp, el, w, s, u, co, dk, se, ho, htk, hnw, hsp, hel, hw, hs, hu, hco, hdk, hse⟩ := hR
  have hS := hnw
  obtain ⟨bal, ten, cs, ps, n, ch, td, nx⟩ := S
  obtain ⟨hbl, htl, b, k0, u0, v0, hno, hbal, hten, hcs, hps⟩ := id hnw
  have hlc := hcs.len
  have hlp := hps.len
  refine V_aload_0 dX12_requirePair_0 ?_
  refine V_iload_1 dX12_requirePair_1 ?_
  obtain ⟨fo, hfo⟩ := hR0.o
  refine V_call_v (runV1 dX12_requirePair_2 ce_X12_requireButton rfl ml_X12_188 im_X12_requireButton se_X12_requireButton hfo ⟨_, rfl, rfl⟩ (Nat.le_of_ble_eq_true rfl)) (by omega) (by omega) (by omega) (c_rBut hR0 (fun hx => ?_) (fun hn H1 hz hq => VX_out rfl (kx1 (fun z => by rw [hn] at z; exact absurd z.1 (by decide)) H1 hz hq)))
  refine V_aload_0 dX12_requirePair_5 ?_
  refine V_iload_2 dX12_requirePair_6 ?_
  obtain ⟨fo, hfo⟩ := hR0.o
  refine V_call_v (runV1 dX12_requirePair_7 ce_X12_requireButton rfl ml_X12_188 im_X12_requireButton se_X12_requireButton hfo ⟨_, rfl, rfl⟩ (Nat.le_of_ble_eq_true rfl)) (by omega) (by omega) (by omega) (c_rBut hR0 (fun hy => ?_) (fun hn H1 hz hq => VX_out rfl (kx1 (fun z => by rw [hn] at z; exact absurd z.2 (by decide)) H1 hz hq)))
  refine V_iload_1 dX12_requirePair_10 ?_
  refine V_iload_2 dX12_requirePair_11 ?_
  refine V_icmp_ne (tgt := 25) dX12_requirePair_12 (by decide) (fun c_12 => ?_) (fun c_12 => ?_)
  · exact V_retv dX12_requirePair_25 rfl (kk hx hy c_12)
  · have kx := kx2
    exact V_throwS (i := 38) (by decide +kernel) tc_IllegalArg ti_IllegalArg tw_IllegalArg tg_IllegalArg rfl dX12_requirePair_15 dX12_requirePair_18 dX12_requirePair_19 dX12_requirePair_21 dX12_requirePair_24 rfl (by omega) (by omega) (by omega) (Nat.le_of_ble_eq_true rfl) (fun H1 hz hq => kx hx hy c_12 H1 hz hq)
set_option maxHeartbeats 1000000 in
set_option maxRecDepth 100000 in
theorem c_fBal {G : GT} {X : String → Heap → Prop} {H : Heap} {g : Nat → Nat} {o : Nat} {R : RgC} {x : Int32} (hR : RG G H g o R) {F : Int32 → Heap → Prop} (kk : hasB R.1.2.2.2.2.1 x = true → F (rd R.1.1 8 x) H) (kx : hasB R.1.2.2.2.2.1 x = false → ∀ H1 : Heap, H.size ≤ H1.size → (∀ q : Nat, q < H.size → H1[q]? = H[q]?) → X "java/lang/IndexOutOfBoundsException" H1) : Call G kX12_balance 7 1 6 [.ref o, .int x] H (qi F) X := by
  obtain ⟨S, sn, tk, ea, wd, sc, ou, le, lf, K⟩ := R
  refine startL (L0 := [some (.ref o), some (.int x)]) rfl rfl pl_X12_balance (Nat.le_of_ble_eq_true rfl) ?_
  have hR0 := hR
  obtain ⟨nw, sp, el, w, s, u, co, dk, se, ho, htk, hnw, hsp, hel, hw, hs, hu, hco, hdk, hse⟩ := hR
  have hS := hnw
  obtain ⟨bal, ten, cs, ps, n, ch, td, nx⟩ := S
  obtain ⟨hbl, htl, b, k0, u0, v0, hno, hbal, hten, hcs, hps⟩ := id hnw
  have hlc := hcs.len
  have hlp := hps.len
  refine V_aload_0 dX12_balance_0 ?_
  refine V_iload_1 dX12_balance_1 ?_
  obtain ⟨fo, hfo⟩ := hR0.o
  refine V_call_v (runV1 dX12_balance_2 ce_X12_requireButton rfl ml_X12_188 im_X12_requireButton se_X12_requireButton hfo ⟨_, rfl, rfl⟩ (Nat.le_of_ble_eq_true rfl)) (by omega) (by omega) (by omega) (c_rBut hR0 (fun hx => ?_) (fun hn H1 hz hq => VX_out rfl (kx hn H1 hz hq)))
  refine V_aload_0 dX12_balance_5 ?_
  refine V_getf dX12_balance_6 fl_X12_10 ho.ro rfl ?_
  refine V_iload_1 dX12_balance_9 ?_
  refine V_call_i (runV1 dX12_balance_10 ce_X9_balanceOf rfl ml_X12_191 im_X9_balanceOf se_X9_balanceOf hno.ro ⟨_, rfl, rfl⟩ (Nat.le_of_ble_eq_true rfl)) (by omega) (by omega) (by omega) (c_balanceOf hnw x ?_)
  exact V_reti dX12_balance_13 rfl rfl (kk hx)
set_option maxHeartbeats 1000000 in
set_option maxRecDepth 100000 in
theorem c_fTen {G : GT} {X : String → Heap → Prop} {H : Heap} {g : Nat → Nat} {o : Nat} {R : RgC} {x y : Int32} (hR : RG G H g o R) {F : Int32 → Heap → Prop} (kk : hasB R.1.2.2.2.2.1 x = true → hasB R.1.2.2.2.2.1 y = true → ¬ rd R.1.2.1 64 (x * 8 + y) = 0 → F (rd R.1.2.1 64 (x * 8 + y)) H) (kx1 : ¬ (hasB R.1.2.2.2.2.1 x = true ∧ hasB R.1.2.2.2.2.1 y = true) → ∀ H1 : Heap, H.size ≤ H1.size → (∀ q : Nat, q < H.size → H1[q]? = H[q]?) → X "java/lang/IndexOutOfBoundsException" H1) (kx2 : hasB R.1.2.2.2.2.1 x = true → hasB R.1.2.2.2.2.1 y = true → rd R.1.2.1 64 (x * 8 + y) = 0 → ∀ H1 : Heap, H.size ≤ H1.size → (∀ q : Nat, q < H.size → H1[q]? = H[q]?) → X "java/util/NoSuchElementException" H1) : Call G kX12_tension 7 3 18 [.ref o, .int x, .int y] H (qi F) X := by
  obtain ⟨S, sn, tk, ea, wd, sc, ou, le, lf, K⟩ := R
  refine startL (L0 := [some (.ref o), some (.int x), some (.int y), none]) rfl rfl pl_X12_tension (Nat.le_of_ble_eq_true rfl) ?_
  have hR0 := hR
  obtain ⟨nw, sp, el, w, s, u, co, dk, se, ho, htk, hnw, hsp, hel, hw, hs, hu, hco, hdk, hse⟩ := hR
  have hS := hnw
  obtain ⟨bal, ten, cs, ps, n, ch, td, nx⟩ := S
  obtain ⟨hbl, htl, b, k0, u0, v0, hno, hbal, hten, hcs, hps⟩ := id hnw
  have hlc := hcs.len
  have hlp := hps.len
  refine V_aload_0 dX12_tension_0 ?_
  refine V_iload_1 dX12_tension_1 ?_
  obtain ⟨fo, hfo⟩ := hR0.o
  refine V_call_v (runV1 dX12_tension_2 ce_X12_requireButton rfl ml_X12_188 im_X12_requireButton se_X12_requireButton hfo ⟨_, rfl, rfl⟩ (Nat.le_of_ble_eq_true rfl)) (by omega) (by omega) (by omega) (c_rBut hR0 (fun hx => ?_) (fun hn H1 hz hq => VX_out rfl (kx1 (fun z => by rw [hn] at z; exact absurd z.1 (by decide)) H1 hz hq)))
  refine V_aload_0 dX12_tension_5 ?_
  refine V_iload_2 dX12_tension_6 ?_
  obtain ⟨fo, hfo⟩ := hR0.o
  refine V_call_v (runV1 dX12_tension_7 ce_X12_requireButton rfl ml_X12_188 im_X12_requireButton se_X12_requireButton hfo ⟨_, rfl, rfl⟩ (Nat.le_of_ble_eq_true rfl)) (by omega) (by omega) (by omega) (c_rBut hR0 (fun hy => ?_) (fun hn H1 hz hq => VX_out rfl (kx1 (fun z => by rw [hn] at z; exact absurd z.2 (by decide)) H1 hz hq)))
  refine V_aload_0 dX12_tension_10 ?_
  refine V_getf dX12_tension_11 fl_X12_10 ho.ro rfl ?_
  refine V_iload_1 dX12_tension_14 ?_
  refine V_iload_2 dX12_tension_15 ?_
  refine V_call_i (runV2 dX12_tension_16 ce_X9_tensionBetween rfl ml_X12_198 im_X9_tensionBetween se_X9_tensionBetween hno.ro ⟨_, rfl, rfl⟩ (Nat.le_of_ble_eq_true rfl)) (by omega) (by omega) (by omega) (c_tensionBetween hnw x y ?_)
  refine V_istore_3 dX12_tension_19 rfl ?_
  refine V_iload_3 dX12_tension_20 ?_
  refine V_if_ne (tgt := 34) dX12_tension_21 (by decide) (fun c_21 => ?_) (fun c_21 => ?_)
  · refine V_iload_3 dX12_tension_34 ?_
    exact V_reti dX12_tension_35 rfl rfl (kk hx hy c_21)
  · have kx := kx2
    exact V_throwN (i := 37) (by decide +kernel) tc_NoSuch ti_NoSuch tw_NoSuch tg_NoSuch rfl dX12_tension_24 dX12_tension_27 dX12_tension_28 dX12_tension_30 dX12_tension_33 rfl (by omega) (by omega) (by omega) (Nat.le_of_ble_eq_true rfl) (fun H1 hz hq => kx hx hy c_21 H1 hz hq)
set_option maxHeartbeats 1000000 in
set_option maxRecDepth 100000 in
theorem c_fStr {G : GT} {X : String → Heap → Prop} {H : Heap} {g : Nat → Nat} {o : Nat} {R : RgC} {x y : Int32} (hR : RG G H g o R) (hno2 : ¬ (hasB R.1.2.2.2.2.1 x = true ∧ hasB R.1.2.2.2.2.1 y = true ∧ ¬ x = y)) {F : Int32 → Heap → Prop} (kx1 : ¬ (hasB R.1.2.2.2.2.1 x = true ∧ hasB R.1.2.2.2.2.1 y = true) → ∀ H1 : Heap, H.size ≤ H1.size → (∀ q : Nat, q < H.size → H1[q]? = H[q]?) → X "java/lang/IndexOutOfBoundsException" H1) (kx2 : hasB R.1.2.2.2.2.1 x = true → hasB R.1.2.2.2.2.1 y = true → x = y → ∀ H1 : Heap, H.size ≤ H1.size → (∀ q : Nat, q < H.size → H1[q]? = H[q]?) → X "java/lang/IllegalArgumentException" H1) : Call G kX12_strain 8 3 18 [.ref o, .int x, .int y] H (qi F) X := by
  obtain ⟨S, sn, tk, ea, wd, sc, ou, le, lf, K⟩ := R
  refine startL (L0 := [some (.ref o), some (.int x), some (.int y)]) rfl rfl pl_X12_strain (Nat.le_of_ble_eq_true rfl) ?_
  have hR0 := hR
  obtain ⟨nw, sp, el, w, s, u, co, dk, se, ho, htk, hnw, hsp, hel, hw, hs, hu, hco, hdk, hse⟩ := hR
  have hS := hnw
  obtain ⟨bal, ten, cs, ps, n, ch, td, nx⟩ := S
  obtain ⟨hbl, htl, b, k0, u0, v0, hno, hbal, hten, hcs, hps⟩ := id hnw
  have hlc := hcs.len
  have hlp := hps.len
  refine V_aload_0 dX12_strain_0 ?_
  refine V_iload_1 dX12_strain_1 ?_
  refine V_iload_2 dX12_strain_2 ?_
  obtain ⟨fo, hfo⟩ := hR0.o
  refine V_call_v (runV2 dX12_strain_3 ce_X12_requirePair rfl ml_X12_204 im_X12_requirePair se_X12_requirePair hfo ⟨_, rfl, rfl⟩ (Nat.le_of_ble_eq_true rfl)) (by omega) (by omega) (by omega) (c_rPair hR0 (fun h1 h2 h3 => absurd ⟨h1, h2, h3⟩ hno2) (fun hn H1 hz hq => VX_out rfl (kx1 hn H1 hz hq)) (fun h1 h2 h3 H1 hz hq => VX_out rfl (kx2 h1 h2 h3 H1 hz hq)))
set_option maxHeartbeats 1000000 in
set_option maxRecDepth 100000 in
theorem c_fStT {G : GT} {X : String → Heap → Prop} {H : Heap} {g : Nat → Nat} {o : Nat} {R : RgC} {x y : Int32} (hR : RG G H g o R) (hno2 : ¬ (hasB R.1.2.2.2.2.1 x = true ∧ hasB R.1.2.2.2.2.1 y = true ∧ ¬ x = y)) {F : Int32 → Heap → Prop} (kx1 : ¬ (hasB R.1.2.2.2.2.1 x = true ∧ hasB R.1.2.2.2.2.1 y = true) → ∀ H1 : Heap, H.size ≤ H1.size → (∀ q : Nat, q < H.size → H1[q]? = H[q]?) → X "java/lang/IndexOutOfBoundsException" H1) (kx2 : hasB R.1.2.2.2.2.1 x = true → hasB R.1.2.2.2.2.1 y = true → x = y → ∀ H1 : Heap, H.size ≤ H1.size → (∀ q : Nat, q < H.size → H1[q]? = H[q]?) → X "java/lang/IllegalArgumentException" H1) : Call G kX12_strainByTable 8 3 18 [.ref o, .int x, .int y] H (qi F) X := by
  obtain ⟨S, sn, tk, ea, wd, sc, ou, le, lf, K⟩ := R
  refine startL (L0 := [some (.ref o), some (.int x), some (.int y)]) rfl rfl pl_X12_strainByTable (Nat.le_of_ble_eq_true rfl) ?_
  have hR0 := hR
  obtain ⟨nw, sp, el, w, s, u, co, dk, se, ho, htk, hnw, hsp, hel, hw, hs, hu, hco, hdk, hse⟩ := hR
  have hS := hnw
  obtain ⟨bal, ten, cs, ps, n, ch, td, nx⟩ := S
  obtain ⟨hbl, htl, b, k0, u0, v0, hno, hbal, hten, hcs, hps⟩ := id hnw
  have hlc := hcs.len
  have hlp := hps.len
  refine V_aload_0 dX12_strainByTable_0 ?_
  refine V_iload_1 dX12_strainByTable_1 ?_
  refine V_iload_2 dX12_strainByTable_2 ?_
  obtain ⟨fo, hfo⟩ := hR0.o
  refine V_call_v (runV2 dX12_strainByTable_3 ce_X12_requirePair rfl ml_X12_204 im_X12_requirePair se_X12_requirePair hfo ⟨_, rfl, rfl⟩ (Nat.le_of_ble_eq_true rfl)) (by omega) (by omega) (by omega) (c_rPair hR0 (fun h1 h2 h3 => absurd ⟨h1, h2, h3⟩ hno2) (fun hn H1 hz hq => VX_out rfl (kx1 hn H1 hz hq)) (fun h1 h2 h3 H1 hz hq => VX_out rfl (kx2 h1 h2 h3 H1 hz hq)))
set_option maxHeartbeats 1000000 in
set_option maxRecDepth 100000 in
theorem c_fDst {G : GT} {X : String → Heap → Prop} {H : Heap} {g : Nat → Nat} {o : Nat} {R : RgC} {x y : Int32} (hR : RG G H g o R) (hno2 : hasC R.1.2.2.1 x → ¬ (¬ y < 0 ∧ ¬ nI R.1.2.2.2.1.length ≤ y)) {F : Int32 → Heap → Prop} (kx1 : ¬ hasC R.1.2.2.1 x → ∀ H1 : Heap, H.size ≤ H1.size → (∀ q : Nat, q < H.size → H1[q]? = H[q]?) → X "java/util/NoSuchElementException" H1) (kx2 : hasC R.1.2.2.1 x → ∀ H1 : Heap, H.size ≤ H1.size → (∀ q : Nat, q < H.size → H1[q]? = H[q]?) → X "java/lang/IndexOutOfBoundsException" H1) : Call G kX12_distance 8 2 12 [.ref o, .int x, .int y] H (qi F) X := by
  obtain ⟨S, sn, tk, ea, wd, sc, ou, le, lf, K⟩ := R
  refine startL (L0 := [some (.ref o), some (.int x), some (.int y), none]) rfl rfl pl_X12_distance (Nat.le_of_ble_eq_true rfl) ?_
  have hR0 := hR
  obtain ⟨nw, sp, el, w, s, u, co, dk, se, ho, htk, hnw, hsp, hel, hw, hs, hu, hco, hdk, hse⟩ := hR
  have hS := hnw
  obtain ⟨bal, ten, cs, ps, n, ch, td, nx⟩ := S
  obtain ⟨hbl, htl, b, k0, u0, v0, hno, hbal, hten, hcs, hps⟩ := id hnw
  have hlc := hcs.len
  have hlp := hps.len
  obtain ⟨th, p, p2, p3, ru, qf, qs, qt, a1, a2, a3, a4, a5, a6, a7⟩ := id hco
  refine V_aload_0 dX12_distance_0 ?_
  refine V_iload_1 dX12_distance_1 ?_
  obtain ⟨fo, hfo⟩ := hR0.o
  refine V_call_a (runV1 dX12_distance_2 ce_X12_existingCase rfl ml_X12_253 im_X12_existingCase se_X12_existingCase hfo ⟨_, rfl, rfl⟩ (Nat.le_of_ble_eq_true rfl)) (by omega) (by omega) (by omega) (c_exC hR0 (fun hh r hrx => ?_) (fun hn H1 hz hq => VX_out rfl (kx1 hn H1 hz hq)))
  obtain ⟨mr, hr, hrm⟩ := id hrx.md
  refine V_getf dX12_distance_5 fl_X12_276 hr.1 rfl ?_
  refine V_astore_3 dX12_distance_8 rfl ?_
  refine V_aload_0 dX12_distance_9 ?_
  refine V_getf dX12_distance_10 fl_X12_53 ho.ro rfl ?_
  refine V_getf dX12_distance_13 fl_X12_331 a1.1 rfl ?_
  refine V_aload_3 dX12_distance_16 ?_
  refine V_aload_0 dX12_distance_17 ?_
  refine V_iload_2 dX12_distance_18 ?_
  refine V_call_a (runV1 dX12_distance_19 ce_X12_existingPrecedent rfl ml_X12_324 im_X12_existingPrecedent se_X12_existingPrecedent hfo ⟨_, rfl, rfl⟩ (Nat.le_of_ble_eq_true rfl)) (by omega) (by omega) (by omega) (c_exP hR0 (fun h2 => absurd h2 (hno2 hh)) (fun hn H1 hz hq => VX_out rfl (kx2 hh H1 hz hq)))
set_option maxHeartbeats 1000000 in
set_option maxRecDepth 100000 in
theorem c_fDsE {G : GT} {X : String → Heap → Prop} {H : Heap} {g : Nat → Nat} {o : Nat} {R : RgC} {x y : Int32} (hR : RG G H g o R) (hno2 : hasC R.1.2.2.1 x → ¬ (¬ y < 0 ∧ ¬ nI R.1.2.2.2.1.length ≤ y)) {F : Int32 → Heap → Prop} (kx1 : ¬ hasC R.1.2.2.1 x → ∀ H1 : Heap, H.size ≤ H1.size → (∀ q : Nat, q < H.size → H1[q]? = H[q]?) → X "java/util/NoSuchElementException" H1) (kx2 : hasC R.1.2.2.1 x → ∀ H1 : Heap, H.size ≤ H1.size → (∀ q : Nat, q < H.size → H1[q]? = H[q]?) → X "java/lang/IndexOutOfBoundsException" H1) : Call G kX12_distanceByEnds 8 2 12 [.ref o, .int x, .int y] H (qi F) X := by
  obtain ⟨S, sn, tk, ea, wd, sc, ou, le, lf, K⟩ := R
  refine startL (L0 := [some (.ref o), some (.int x), some (.int y), none]) rfl rfl pl_X12_distanceByEnds (Nat.le_of_ble_eq_true rfl) ?_
  have hR0 := hR
  obtain ⟨nw, sp, el, w, s, u, co, dk, se, ho, htk, hnw, hsp, hel, hw, hs, hu, hco, hdk, hse⟩ := hR
  have hS := hnw
  obtain ⟨bal, ten, cs, ps, n, ch, td, nx⟩ := S
  obtain ⟨hbl, htl, b, k0, u0, v0, hno, hbal, hten, hcs, hps⟩ := id hnw
  have hlc := hcs.len
  have hlp := hps.len
  obtain ⟨th, p, p2, p3, ru, qf, qs, qt, a1, a2, a3, a4, a5, a6, a7⟩ := id hco
  refine V_aload_0 dX12_distanceByEnds_0 ?_
  refine V_iload_1 dX12_distanceByEnds_1 ?_
  obtain ⟨fo, hfo⟩ := hR0.o
  refine V_call_a (runV1 dX12_distanceByEnds_2 ce_X12_existingCase rfl ml_X12_253 im_X12_existingCase se_X12_existingCase hfo ⟨_, rfl, rfl⟩ (Nat.le_of_ble_eq_true rfl)) (by omega) (by omega) (by omega) (c_exC hR0 (fun hh r hrx => ?_) (fun hn H1 hz hq => VX_out rfl (kx1 hn H1 hz hq)))
  obtain ⟨mr, hr, hrm⟩ := id hrx.md
  refine V_getf dX12_distanceByEnds_5 fl_X12_276 hr.1 rfl ?_
  refine V_astore_3 dX12_distanceByEnds_8 rfl ?_
  refine V_aload_0 dX12_distanceByEnds_9 ?_
  refine V_getf dX12_distanceByEnds_10 fl_X12_53 ho.ro rfl ?_
  refine V_getf dX12_distanceByEnds_13 fl_X12_331 a1.1 rfl ?_
  refine V_aload_3 dX12_distanceByEnds_16 ?_
  refine V_aload_0 dX12_distanceByEnds_17 ?_
  refine V_iload_2 dX12_distanceByEnds_18 ?_
  refine V_call_a (runV1 dX12_distanceByEnds_19 ce_X12_existingPrecedent rfl ml_X12_324 im_X12_existingPrecedent se_X12_existingPrecedent hfo ⟨_, rfl, rfl⟩ (Nat.le_of_ble_eq_true rfl)) (by omega) (by omega) (by omega) (c_exP hR0 (fun h2 => absurd h2 (hno2 hh)) (fun hn H1 hz hq => VX_out rfl (kx2 hh H1 hz hq)))

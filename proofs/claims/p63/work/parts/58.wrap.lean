def hasb (cs : List CaseC) (x : Int32) : Bool := decide (¬ posOf cs x < 0 ∧ ¬ nI cs.length ≤ posOf cs x)
theorem hasb_t {cs : List CaseC} {x : Int32} (h : hasC cs x) : hasb cs x = true := decide_eq_true (p := ¬ posOf cs x < 0 ∧ ¬ nI cs.length ≤ posOf cs x) h
theorem hasb_f {cs : List CaseC} {x : Int32} (h : ¬ hasC cs x) : ¬ hasb cs x = true := fun z => h (of_decide_eq_true (p := ¬ posOf cs x < 0 ∧ ¬ nI cs.length ≤ posOf cs x) z)
theorem startLH {G : GT} {K : MT} {d c s : Nat} {Q : Option Value → Heap → Prop} {X : String → Heap → Prop} {H : Heap} {as : List Value} {L0 : List (Option Value)} {h0 : Nat × Nat × Nat × Nat} {hr : List (Nat × Nat × Nat × Nat)} (hL : entL K.2.2.1 as = L0) (hh : K.2.2.2.2 = h0 :: hr) (hy : plainName K.1.cls = true) (he : (lg_sl as).length ≤ K.2.2.1) (k : V G K d c s Q X 0 L0 [] H) : Call G K d c s as H Q X := startH hh hy he (hL ▸ k)
def vCf (f : CaseC → Int32) (S : StC) (x : Int32) : Int32 := if hasb S.2.2.1 x then f (theC S.2.2.1 x) else -1001
def vDf (f : CaseC → Int32) (S : StC) (x : Int32) : Int32 := if hasb S.2.2.1 x then (if cSd (theC S.2.2.1 x) = 102 then -1002 else f (theC S.2.2.1 x)) else -1001
def vCAt (S : StC) (x : Int32) : Int32 := if ¬ x < 0 ∧ ¬ nI S.2.2.1.length ≤ x then cId (gC S.2.2.1 x) else -1001
def vPPc (S : StC) (x : Int32) : Int32 := if ¬ x < 0 ∧ ¬ nI S.2.2.2.1.length ≤ x then (gP S.2.2.2.1 x).2 else -1001
def vBal (S : StC) (x : Int32) : Int32 := if hasB S.2.2.2.2.1 x = true then rd S.1 8 x else 1000000
def vByB (S : StC) (x : Int32) : Int32 := (bbV S x).getD (-1001)
def vByC (S : StC) (x : Int32) : Int32 := (ccV S x).getD (-1001)
def vOut (u : List Int32) (x : Int32) : Int32 := if ¬ x < 0 ∧ ¬ nI u.length ≤ x then u.getD x.toNatClampNeg 0 else -1001
def vMea (S : StC) : UInt64 := if nI S.2.2.1.length = 0 then 13875388141788987392 else meaV S
def vSha (S : StC) : UInt32 := if nI S.2.2.1.length = 0 then 3296346112 else shaV S
def vNea (S : StC) (x : Int32) : Int32 := if hasb S.2.2.1 x then (if neaV S x = -1 then -1002 else neaV S x) else -1001
theorem RG.uLen {G : GT} {H : Heap} {g : Nat → Nat} {o : Nat} {R : RgC} (h : RG G H g o R) : (rgU R).length ≤ 142 := by
  obtain ⟨S, sn, tk, ea, wd, sc, ou, le, lf, K⟩ := R
  obtain ⟨nw, sp, el, w, s, u, co, dk, se, ho, htk, hnw, hsp, hel, hw, hs, hu, hco, hdk, hse⟩ := h
  exact hu.len
def vErr (R : RgC) : Int32 := if R.2.2.2.2.2.2.2.1 = -1 then -1001 else R.2.2.2.2.2.2.2.1
def vFai (R : RgC) : Int32 := if R.2.2.2.2.2.2.2.2.1 = -1 then -1001 else R.2.2.2.2.2.2.2.2.1
set_option maxHeartbeats 1000000 in
set_option maxRecDepth 100000 in
theorem c_lPla {G : GT} {X : String → Heap → Prop} {H : Heap} {g : Nat → Nat} {o : Nat} {R : RgC} {x : Int32} (hR : RG G H g o R) {F : Int32 → Heap → Prop} (kk : ∀ (H1 : Heap) (g1 : Nat → Nat), RG G H1 g1 o R → Ext G tsA H g H1 g1 → F (vCf cPl R.1 x) H1) : Call G kL_plaintiff 8 1 6 [.ref o, .int x] H (qi F) X := by
  refine startLH (L0 := [some (.ref o), some (.int x), none]) rfl rfl pl_L_plaintiff (Nat.le_of_ble_eq_true rfl) ?_
  obtain ⟨fo, hfo⟩ := hR.o
  refine V_aload_0 dL_plaintiff_0 ?_
  refine V_iload_1 dL_plaintiff_1 ?_
  refine V_call_i (runV1 dL_plaintiff_2 ce_X12_plaintiff rfl ml_L_73 im_X12_plaintiff se_X12_plaintiff hfo ⟨_, rfl, rfl⟩ (Nat.le_of_ble_eq_true rfl)) (by omega) (by omega) (by omega) (c_fPla hR (fun hh => ?_) (fun hn H1 hz hq => ?_))
  · exact V_reti dL_plaintiff_5 rfl rfl (by have h := kk H g hR Ext.rf; rw [vCf, if_pos (hasb_t hh)] at h; exact h)
  · refine VX_catch [] (0, 5, 6, 27) [] rfl (fun z hz => absurd hz List.not_mem_nil) (by decide) (by decide) ckL_27 cas_27 (fun eq => ?_)
    refine V_astore_2 dL_plaintiff_6 rfl ?_
    refine V_sipush (v := (-1001)) dL_plaintiff_7 (by decide) ?_
    exact V_reti dL_plaintiff_10 rfl rfl (by have h := kk H1 g (hR.keep hz hq) (Ext.keep hz hq); rw [vCf, if_neg (hasb_f hn)] at h; exact h)
set_option maxHeartbeats 1000000 in
set_option maxRecDepth 100000 in
theorem c_lDef {G : GT} {X : String → Heap → Prop} {H : Heap} {g : Nat → Nat} {o : Nat} {R : RgC} {x : Int32} (hR : RG G H g o R) {F : Int32 → Heap → Prop} (kk : ∀ (H1 : Heap) (g1 : Nat → Nat), RG G H1 g1 o R → Ext G tsA H g H1 g1 → F (vCf cDf R.1 x) H1) : Call G kL_defendant 8 1 6 [.ref o, .int x] H (qi F) X := by
  refine startLH (L0 := [some (.ref o), some (.int x), none]) rfl rfl pl_L_defendant (Nat.le_of_ble_eq_true rfl) ?_
  obtain ⟨fo, hfo⟩ := hR.o
  refine V_aload_0 dL_defendant_0 ?_
  refine V_iload_1 dL_defendant_1 ?_
  refine V_call_i (runV1 dL_defendant_2 ce_X12_defendant rfl ml_L_76 im_X12_defendant se_X12_defendant hfo ⟨_, rfl, rfl⟩ (Nat.le_of_ble_eq_true rfl)) (by omega) (by omega) (by omega) (c_fDef hR (fun hh => ?_) (fun hn H1 hz hq => ?_))
  · exact V_reti dL_defendant_5 rfl rfl (by have h := kk H g hR Ext.rf; rw [vCf, if_pos (hasb_t hh)] at h; exact h)
  · refine VX_catch [] (0, 5, 6, 27) [] rfl (fun z hz => absurd hz List.not_mem_nil) (by decide) (by decide) ckL_27 cas_27 (fun eq => ?_)
    refine V_astore_2 dL_defendant_6 rfl ?_
    refine V_sipush (v := (-1001)) dL_defendant_7 (by decide) ?_
    exact V_reti dL_defendant_10 rfl rfl (by have h := kk H1 g (hR.keep hz hq) (Ext.keep hz hq); rw [vCf, if_neg (hasb_f hn)] at h; exact h)
set_option maxHeartbeats 1000000 in
set_option maxRecDepth 100000 in
theorem c_lClm {G : GT} {X : String → Heap → Prop} {H : Heap} {g : Nat → Nat} {o : Nat} {R : RgC} {x : Int32} (hR : RG G H g o R) {F : Int32 → Heap → Prop} (kk : ∀ (H1 : Heap) (g1 : Nat → Nat), RG G H1 g1 o R → Ext G tsA H g H1 g1 → F (vCf cCl R.1 x) H1) : Call G kL_claim 8 1 6 [.ref o, .int x] H (qi F) X := by
  refine startLH (L0 := [some (.ref o), some (.int x), none]) rfl rfl pl_L_claim (Nat.le_of_ble_eq_true rfl) ?_
  obtain ⟨fo, hfo⟩ := hR.o
  refine V_aload_0 dL_claim_0 ?_
  refine V_iload_1 dL_claim_1 ?_
  refine V_call_i (runV1 dL_claim_2 ce_X12_claim rfl ml_L_79 im_X12_claim se_X12_claim hfo ⟨_, rfl, rfl⟩ (Nat.le_of_ble_eq_true rfl)) (by omega) (by omega) (by omega) (c_fClm hR (fun hh => ?_) (fun hn H1 hz hq => ?_))
  · exact V_reti dL_claim_5 rfl rfl (by have h := kk H g hR Ext.rf; rw [vCf, if_pos (hasb_t hh)] at h; exact h)
  · refine VX_catch [] (0, 5, 6, 27) [] rfl (fun z hz => absurd hz List.not_mem_nil) (by decide) (by decide) ckL_27 cas_27 (fun eq => ?_)
    refine V_astore_2 dL_claim_6 rfl ?_
    refine V_sipush (v := (-1001)) dL_claim_7 (by decide) ?_
    exact V_reti dL_claim_10 rfl rfl (by have h := kk H1 g (hR.keep hz hq) (Ext.keep hz hq); rw [vCf, if_neg (hasb_f hn)] at h; exact h)
set_option maxHeartbeats 1000000 in
set_option maxRecDepth 100000 in
theorem c_lDur {G : GT} {X : String → Heap → Prop} {H : Heap} {g : Nat → Nat} {o : Nat} {R : RgC} {x : Int32} (hR : RG G H g o R) {F : Int32 → Heap → Prop} (kk : ∀ (H1 : Heap) (g1 : Nat → Nat), RG G H1 g1 o R → Ext G tsA H g H1 g1 → F (vCf cDu R.1 x) H1) : Call G kL_duration 8 1 6 [.ref o, .int x] H (qi F) X := by
  refine startLH (L0 := [some (.ref o), some (.int x), none]) rfl rfl pl_L_duration (Nat.le_of_ble_eq_true rfl) ?_
  obtain ⟨fo, hfo⟩ := hR.o
  refine V_aload_0 dL_duration_0 ?_
  refine V_iload_1 dL_duration_1 ?_
  refine V_call_i (runV1 dL_duration_2 ce_X12_duration rfl ml_L_82 im_X12_duration se_X12_duration hfo ⟨_, rfl, rfl⟩ (Nat.le_of_ble_eq_true rfl)) (by omega) (by omega) (by omega) (c_fDur hR (fun hh => ?_) (fun hn H1 hz hq => ?_))
  · exact V_reti dL_duration_5 rfl rfl (by have h := kk H g hR Ext.rf; rw [vCf, if_pos (hasb_t hh)] at h; exact h)
  · refine VX_catch [] (0, 5, 6, 27) [] rfl (fun z hz => absurd hz List.not_mem_nil) (by decide) (by decide) ckL_27 cas_27 (fun eq => ?_)
    refine V_astore_2 dL_duration_6 rfl ?_
    refine V_sipush (v := (-1001)) dL_duration_7 (by decide) ?_
    exact V_reti dL_duration_10 rfl rfl (by have h := kk H1 g (hR.keep hz hq) (Ext.keep hz hq); rw [vCf, if_neg (hasb_f hn)] at h; exact h)
set_option maxHeartbeats 1000000 in
set_option maxRecDepth 100000 in
theorem c_lDea {G : GT} {X : String → Heap → Prop} {H : Heap} {g : Nat → Nat} {o : Nat} {R : RgC} {x : Int32} (hR : RG G H g o R) {F : Int32 → Heap → Prop} (kk : ∀ (H1 : Heap) (g1 : Nat → Nat), RG G H1 g1 o R → Ext G tsA H g H1 g1 → F (vCf cDl R.1 x) H1) : Call G kL_deadline 8 1 6 [.ref o, .int x] H (qi F) X := by
  refine startLH (L0 := [some (.ref o), some (.int x), none]) rfl rfl pl_L_deadline (Nat.le_of_ble_eq_true rfl) ?_
  obtain ⟨fo, hfo⟩ := hR.o
  refine V_aload_0 dL_deadline_0 ?_
  refine V_iload_1 dL_deadline_1 ?_
  refine V_call_i (runV1 dL_deadline_2 ce_X12_deadline rfl ml_L_85 im_X12_deadline se_X12_deadline hfo ⟨_, rfl, rfl⟩ (Nat.le_of_ble_eq_true rfl)) (by omega) (by omega) (by omega) (c_fDea hR (fun hh => ?_) (fun hn H1 hz hq => ?_))
  · exact V_reti dL_deadline_5 rfl rfl (by have h := kk H g hR Ext.rf; rw [vCf, if_pos (hasb_t hh)] at h; exact h)
  · refine VX_catch [] (0, 5, 6, 27) [] rfl (fun z hz => absurd hz List.not_mem_nil) (by decide) (by decide) ckL_27 cas_27 (fun eq => ?_)
    refine V_astore_2 dL_deadline_6 rfl ?_
    refine V_sipush (v := (-1001)) dL_deadline_7 (by decide) ?_
    exact V_reti dL_deadline_10 rfl rfl (by have h := kk H1 g (hR.keep hz hq) (Ext.keep hz hq); rw [vCf, if_neg (hasb_f hn)] at h; exact h)
set_option maxHeartbeats 1000000 in
set_option maxRecDepth 100000 in
theorem c_lSta {G : GT} {X : String → Heap → Prop} {H : Heap} {g : Nat → Nat} {o : Nat} {R : RgC} {x : Int32} (hR : RG G H g o R) {F : Int32 → Heap → Prop} (kk : ∀ (H1 : Heap) (g1 : Nat → Nat), RG G H1 g1 o R → Ext G tsA H g H1 g1 → F (vCf cSd R.1 x) H1) : Call G kL_state 8 1 6 [.ref o, .int x] H (qi F) X := by
  refine startLH (L0 := [some (.ref o), some (.int x), none]) rfl rfl pl_L_state (Nat.le_of_ble_eq_true rfl) ?_
  obtain ⟨fo, hfo⟩ := hR.o
  refine V_aload_0 dL_state_0 ?_
  refine V_iload_1 dL_state_1 ?_
  refine V_call_i (runV1 dL_state_2 ce_X12_state rfl ml_L_88 im_X12_state se_X12_state hfo ⟨_, rfl, rfl⟩ (Nat.le_of_ble_eq_true rfl)) (by omega) (by omega) (by omega) (c_fSta hR (fun hh => ?_) (fun hn H1 hz hq => ?_))
  · exact V_reti dL_state_5 rfl rfl (by have h := kk H g hR Ext.rf; rw [vCf, if_pos (hasb_t hh)] at h; exact h)
  · refine VX_catch [] (0, 5, 6, 27) [] rfl (fun z hz => absurd hz List.not_mem_nil) (by decide) (by decide) ckL_27 cas_27 (fun eq => ?_)
    refine V_astore_2 dL_state_6 rfl ?_
    refine V_sipush (v := (-1001)) dL_state_7 (by decide) ?_
    exact V_reti dL_state_10 rfl rfl (by have h := kk H1 g (hR.keep hz hq) (Ext.keep hz hq); rw [vCf, if_neg (hasb_f hn)] at h; exact h)
set_option maxHeartbeats 1000000 in
set_option maxRecDepth 100000 in
theorem c_lMLn {G : GT} {X : String → Heap → Prop} {H : Heap} {g : Nat → Nat} {o : Nat} {R : RgC} {x : Int32} (hR : RG G H g o R) {F : Int32 → Heap → Prop} (kk : ∀ (H1 : Heap) (g1 : Nat → Nat), RG G H1 g1 o R → Ext G tsA H g H1 g1 → F (vCf (fun c => nI (cMt c).length) R.1 x) H1) : Call G kL_matterLength 8 1 6 [.ref o, .int x] H (qi F) X := by
  refine startLH (L0 := [some (.ref o), some (.int x), none]) rfl rfl pl_L_matterLength (Nat.le_of_ble_eq_true rfl) ?_
  obtain ⟨fo, hfo⟩ := hR.o
  refine V_aload_0 dL_matterLength_0 ?_
  refine V_iload_1 dL_matterLength_1 ?_
  refine V_call_i (runV1 dL_matterLength_2 ce_X12_matterLength rfl ml_L_92 im_X12_matterLength se_X12_matterLength hfo ⟨_, rfl, rfl⟩ (Nat.le_of_ble_eq_true rfl)) (by omega) (by omega) (by omega) (c_fMLn hR (fun hh => ?_) (fun hn H1 hz hq => ?_))
  · exact V_reti dL_matterLength_5 rfl rfl (by have h := kk H g hR Ext.rf; rw [vCf, if_pos (hasb_t hh)] at h; exact h)
  · refine VX_catch [] (0, 5, 6, 27) [] rfl (fun z hz => absurd hz List.not_mem_nil) (by decide) (by decide) ckL_27 cas_27 (fun eq => ?_)
    refine V_astore_2 dL_matterLength_6 rfl ?_
    refine V_sipush (v := (-1001)) dL_matterLength_7 (by decide) ?_
    exact V_reti dL_matterLength_10 rfl rfl (by have h := kk H1 g (hR.keep hz hq) (Ext.keep hz hq); rw [vCf, if_neg (hasb_f hn)] at h; exact h)
set_option maxHeartbeats 1000000 in
set_option maxRecDepth 100000 in
theorem c_lPct {G : GT} {X : String → Heap → Prop} {H : Heap} {g : Nat → Nat} {o : Nat} {R : RgC} {x : Int32} (hR : RG G H g o R) {F : Int32 → Heap → Prop} (kk : ∀ (H1 : Heap) (g1 : Nat → Nat), RG G H1 g1 o R → Ext G tsA H g H1 g1 → F (vDf cPc R.1 x) H1) : Call G kL_percentage 9 2 12 [.ref o, .int x] H (qi F) X := by
  refine startLH (L0 := [some (.ref o), some (.int x), none]) rfl rfl pl_L_percentage (Nat.le_of_ble_eq_true rfl) ?_
  obtain ⟨fo, hfo⟩ := hR.o
  refine V_aload_0 dL_percentage_0 ?_
  refine V_iload_1 dL_percentage_1 ?_
  refine V_call_i (runV1 dL_percentage_2 ce_X12_percentage rfl ml_L_99 im_X12_percentage se_X12_percentage hfo ⟨_, rfl, rfl⟩ (Nat.le_of_ble_eq_true rfl)) (by omega) (by omega) (by omega) (c_fPct hR (fun hh hd => ?_) (fun hn H1 hz hq => ?_) (fun hh hd H1 hz hq => ?_))
  · exact V_reti dL_percentage_5 rfl rfl (by have h := kk H g hR Ext.rf; rw [vDf, if_pos (hasb_t hh), if_neg hd] at h; exact h)
  · refine VX_catch [] (0, 5, 6, 27) [(0, 5, 11, 13)] rfl (fun z hz => absurd hz List.not_mem_nil) (by decide) (by decide) ckL_27 cas_27 (fun eq => ?_)
    refine V_astore_2 dL_percentage_6 rfl ?_
    refine V_sipush (v := (-1001)) dL_percentage_7 (by decide) ?_
    exact V_reti dL_percentage_10 rfl rfl (by have h := kk H1 g (hR.keep hz hq) (Ext.keep hz hq); rw [vDf, if_neg (hasb_f hn)] at h; exact h)
  · refine VX_catch [(0, 5, 6, 27)] (0, 5, 11, 13) [] rfl (List.forall_mem_cons.mpr ⟨⟨by decide, _, ckL_27, by decide +kernel⟩, (fun z hz => absurd hz List.not_mem_nil)⟩) (by decide) (by decide) ckL_13 cas_13 (fun eq => ?_)
    refine V_astore_2 dL_percentage_11 rfl ?_
    refine V_sipush (v := (-1002)) dL_percentage_12 (by decide) ?_
    exact V_reti dL_percentage_15 rfl rfl (by have h := kk H1 g (hR.keep hz hq) (Ext.keep hz hq); rw [vDf, if_pos (hasb_t hh), if_pos hd] at h; exact h)
set_option maxHeartbeats 1000000 in
set_option maxRecDepth 100000 in
theorem c_lAwd {G : GT} {X : String → Heap → Prop} {H : Heap} {g : Nat → Nat} {o : Nat} {R : RgC} {x : Int32} (hR : RG G H g o R) {F : Int32 → Heap → Prop} (kk : ∀ (H1 : Heap) (g1 : Nat → Nat), RG G H1 g1 o R → Ext G tsA H g H1 g1 → F (vDf cAw R.1 x) H1) : Call G kL_award 9 2 12 [.ref o, .int x] H (qi F) X := by
  refine startLH (L0 := [some (.ref o), some (.int x), none]) rfl rfl pl_L_award (Nat.le_of_ble_eq_true rfl) ?_
  obtain ⟨fo, hfo⟩ := hR.o
  refine V_aload_0 dL_award_0 ?_
  refine V_iload_1 dL_award_1 ?_
  refine V_call_i (runV1 dL_award_2 ce_X12_award rfl ml_L_102 im_X12_award se_X12_award hfo ⟨_, rfl, rfl⟩ (Nat.le_of_ble_eq_true rfl)) (by omega) (by omega) (by omega) (c_fAwd hR (fun hh hd => ?_) (fun hn H1 hz hq => ?_) (fun hh hd H1 hz hq => ?_))
  · exact V_reti dL_award_5 rfl rfl (by have h := kk H g hR Ext.rf; rw [vDf, if_pos (hasb_t hh), if_neg hd] at h; exact h)
  · refine VX_catch [] (0, 5, 6, 27) [(0, 5, 11, 13)] rfl (fun z hz => absurd hz List.not_mem_nil) (by decide) (by decide) ckL_27 cas_27 (fun eq => ?_)
    refine V_astore_2 dL_award_6 rfl ?_
    refine V_sipush (v := (-1001)) dL_award_7 (by decide) ?_
    exact V_reti dL_award_10 rfl rfl (by have h := kk H1 g (hR.keep hz hq) (Ext.keep hz hq); rw [vDf, if_neg (hasb_f hn)] at h; exact h)
  · refine VX_catch [(0, 5, 6, 27)] (0, 5, 11, 13) [] rfl (List.forall_mem_cons.mpr ⟨⟨by decide, _, ckL_27, by decide +kernel⟩, (fun z hz => absurd hz List.not_mem_nil)⟩) (by decide) (by decide) ckL_13 cas_13 (fun eq => ?_)
    refine V_astore_2 dL_award_11 rfl ?_
    refine V_sipush (v := (-1002)) dL_award_12 (by decide) ?_
    exact V_reti dL_award_15 rfl rfl (by have h := kk H1 g (hR.keep hz hq) (Ext.keep hz hq); rw [vDf, if_pos (hasb_t hh), if_pos hd] at h; exact h)
set_option maxHeartbeats 1000000 in
set_option maxRecDepth 100000 in
theorem c_lCst {G : GT} {X : String → Heap → Prop} {H : Heap} {g : Nat → Nat} {o : Nat} {R : RgC} {x : Int32} (hR : RG G H g o R) {F : Int32 → Heap → Prop} (kk : ∀ (H1 : Heap) (g1 : Nat → Nat), RG G H1 g1 o R → Ext G tsA H g H1 g1 → F (vDf cCo R.1 x) H1) : Call G kL_cost 9 2 12 [.ref o, .int x] H (qi F) X := by
  refine startLH (L0 := [some (.ref o), some (.int x), none]) rfl rfl pl_L_cost (Nat.le_of_ble_eq_true rfl) ?_
  obtain ⟨fo, hfo⟩ := hR.o
  refine V_aload_0 dL_cost_0 ?_
  refine V_iload_1 dL_cost_1 ?_
  refine V_call_i (runV1 dL_cost_2 ce_X12_cost rfl ml_L_105 im_X12_cost se_X12_cost hfo ⟨_, rfl, rfl⟩ (Nat.le_of_ble_eq_true rfl)) (by omega) (by omega) (by omega) (c_fCst hR (fun hh hd => ?_) (fun hn H1 hz hq => ?_) (fun hh hd H1 hz hq => ?_))
  · exact V_reti dL_cost_5 rfl rfl (by have h := kk H g hR Ext.rf; rw [vDf, if_pos (hasb_t hh), if_neg hd] at h; exact h)
  · refine VX_catch [] (0, 5, 6, 27) [(0, 5, 11, 13)] rfl (fun z hz => absurd hz List.not_mem_nil) (by decide) (by decide) ckL_27 cas_27 (fun eq => ?_)
    refine V_astore_2 dL_cost_6 rfl ?_
    refine V_sipush (v := (-1001)) dL_cost_7 (by decide) ?_
    exact V_reti dL_cost_10 rfl rfl (by have h := kk H1 g (hR.keep hz hq) (Ext.keep hz hq); rw [vDf, if_neg (hasb_f hn)] at h; exact h)
  · refine VX_catch [(0, 5, 6, 27)] (0, 5, 11, 13) [] rfl (List.forall_mem_cons.mpr ⟨⟨by decide, _, ckL_27, by decide +kernel⟩, (fun z hz => absurd hz List.not_mem_nil)⟩) (by decide) (by decide) ckL_13 cas_13 (fun eq => ?_)
    refine V_astore_2 dL_cost_11 rfl ?_
    refine V_sipush (v := (-1002)) dL_cost_12 (by decide) ?_
    exact V_reti dL_cost_15 rfl rfl (by have h := kk H1 g (hR.keep hz hq) (Ext.keep hz hq); rw [vDf, if_pos (hasb_t hh), if_pos hd] at h; exact h)
set_option maxHeartbeats 1000000 in
set_option maxRecDepth 100000 in
theorem c_lCAt {G : GT} {X : String → Heap → Prop} {H : Heap} {g : Nat → Nat} {o : Nat} {R : RgC} {x : Int32} (hR : RG G H g o R) {F : Int32 → Heap → Prop} (kk : ∀ (H1 : Heap) (g1 : Nat → Nat), RG G H1 g1 o R → Ext G tsA H g H1 g1 → F (vCAt R.1 x) H1) : Call G kL_caseAt 7 1 6 [.ref o, .int x] H (qi F) X := by
  refine startLH (L0 := [some (.ref o), some (.int x), none]) rfl rfl pl_L_caseAt (Nat.le_of_ble_eq_true rfl) ?_
  obtain ⟨fo, hfo⟩ := hR.o
  refine V_aload_0 dL_caseAt_0 ?_
  refine V_iload_1 dL_caseAt_1 ?_
  refine V_call_i (runV1 dL_caseAt_2 ce_X12_caseAt rfl ml_L_70 im_X12_caseAt se_X12_caseAt hfo ⟨_, rfl, rfl⟩ (Nat.le_of_ble_eq_true rfl)) (by omega) (by omega) (by omega) (c_fCAt hR (fun hh => ?_) (fun hn H1 hz hq => ?_))
  · exact V_reti dL_caseAt_5 rfl rfl (by have h := kk H g hR Ext.rf; rw [vCAt, if_pos hh] at h; exact h)
  · refine VX_catch [] (0, 5, 6, 19) [] rfl (fun z hz => absurd hz List.not_mem_nil) (by decide) (by decide) ckL_19 cas_19 (fun eq => ?_)
    refine V_astore_2 dL_caseAt_6 rfl ?_
    refine V_sipush (v := (-1001)) dL_caseAt_7 (by decide) ?_
    exact V_reti dL_caseAt_10 rfl rfl (by have h := kk H1 g (hR.keep hz hq) (Ext.keep hz hq); rw [vCAt, if_neg hn] at h; exact h)
set_option maxHeartbeats 1000000 in
set_option maxRecDepth 100000 in
theorem c_lPPc {G : GT} {X : String → Heap → Prop} {H : Heap} {g : Nat → Nat} {o : Nat} {R : RgC} {x : Int32} (hR : RG G H g o R) {F : Int32 → Heap → Prop} (kk : ∀ (H1 : Heap) (g1 : Nat → Nat), RG G H1 g1 o R → Ext G tsA H g H1 g1 → F (vPPc R.1 x) H1) : Call G kL_percent 8 1 6 [.ref o, .int x] H (qi F) X := by
  refine startLH (L0 := [some (.ref o), some (.int x), none]) rfl rfl pl_L_percent (Nat.le_of_ble_eq_true rfl) ?_
  obtain ⟨fo, hfo⟩ := hR.o
  refine V_aload_0 dL_percent_0 ?_
  refine V_iload_1 dL_percent_1 ?_
  refine V_call_i (runV1 dL_percent_2 ce_X12_precedentPercentage rfl ml_L_111 im_X12_precedentPercentage se_X12_precedentPercentage hfo ⟨_, rfl, rfl⟩ (Nat.le_of_ble_eq_true rfl)) (by omega) (by omega) (by omega) (c_fPPc hR (fun hh => ?_) (fun hn H1 hz hq => ?_))
  · exact V_reti dL_percent_5 rfl rfl (by have h := kk H g hR Ext.rf; rw [vPPc, if_pos hh] at h; exact h)
  · refine VX_catch [] (0, 5, 6, 19) [] rfl (fun z hz => absurd hz List.not_mem_nil) (by decide) (by decide) ckL_19 cas_19 (fun eq => ?_)
    refine V_astore_2 dL_percent_6 rfl ?_
    refine V_sipush (v := (-1001)) dL_percent_7 (by decide) ?_
    exact V_reti dL_percent_10 rfl rfl (by have h := kk H1 g (hR.keep hz hq) (Ext.keep hz hq); rw [vPPc, if_neg hn] at h; exact h)
set_option maxHeartbeats 1000000 in
set_option maxRecDepth 100000 in
theorem c_lBal {G : GT} {X : String → Heap → Prop} {H : Heap} {g : Nat → Nat} {o : Nat} {R : RgC} {x : Int32} (hR : RG G H g o R) {F : Int32 → Heap → Prop} (kk : ∀ (H1 : Heap) (g1 : Nat → Nat), RG G H1 g1 o R → Ext G tsA H g H1 g1 → F (vBal R.1 x) H1) : Call G kL_balance 8 1 6 [.ref o, .int x] H (qi F) X := by
  refine startLH (L0 := [some (.ref o), some (.int x), none]) rfl rfl pl_L_balance (Nat.le_of_ble_eq_true rfl) ?_
  obtain ⟨fo, hfo⟩ := hR.o
  refine V_aload_0 dL_balance_0 ?_
  refine V_iload_1 dL_balance_1 ?_
  refine V_call_i (runV1 dL_balance_2 ce_X12_balance rfl ml_L_166 im_X12_balance se_X12_balance hfo ⟨_, rfl, rfl⟩ (Nat.le_of_ble_eq_true rfl)) (by omega) (by omega) (by omega) (c_fBal hR (fun hh => ?_) (fun hn H1 hz hq => ?_))
  · exact V_reti dL_balance_5 rfl rfl (by have h := kk H g hR Ext.rf; rw [vBal, if_pos hh] at h; exact h)
  · refine VX_catch [] (0, 5, 6, 19) [] rfl (fun z hz => absurd hz List.not_mem_nil) (by decide) (by decide) ckL_19 cas_19 (fun eq => ?_)
    refine V_astore_2 dL_balance_6 rfl ?_
    refine V_ldci dL_balance_7 cn_L_169 ?_
    exact V_reti dL_balance_9 rfl rfl (by have h := kk H1 g (hR.keep hz hq) (Ext.keep hz hq); rw [vBal, if_neg (by rw [hn]; decide)] at h; exact h)
set_option maxHeartbeats 1000000 in
set_option maxRecDepth 100000 in
theorem c_lByB {G : GT} {X : String → Heap → Prop} {H : Heap} {g : Nat → Nat} {o : Nat} {R : RgC} {x : Int32} (hR : RG G H g o R) {F : Int32 → Heap → Prop} (kk : ∀ (H1 : Heap) (g1 : Nat → Nat), RG G H1 g1 o R → Ext G tsA H g H1 g1 → F (vByB R.1 x) H1) : Call G kL_byBalance 7 1 6 [.ref o, .int x] H (qi F) X := by
  refine startLH (L0 := [some (.ref o), some (.int x), none]) rfl rfl pl_L_byBalance (Nat.le_of_ble_eq_true rfl) ?_
  obtain ⟨fo, hfo⟩ := hR.o
  refine V_aload_0 dL_byBalance_0 ?_
  refine V_iload_1 dL_byBalance_1 ?_
  refine V_call_i (runV1 dL_byBalance_2 ce_X12_buttonByBalance rfl ml_L_123 im_X12_buttonByBalance se_X12_buttonByBalance hfo ⟨_, rfl, rfl⟩ (Nat.le_of_ble_eq_true rfl)) (by omega) (by omega) (by omega) (c_fByB hR (fun v hv => ?_) (fun hn H1 hz hq => ?_))
  · exact V_reti dL_byBalance_5 rfl rfl (by have h := kk H g hR Ext.rf; rw [vByB, hv] at h; exact h)
  · refine VX_catch [] (0, 5, 6, 27) [] rfl (fun z hz => absurd hz List.not_mem_nil) (by decide) (by decide) ckL_27 cas_27 (fun eq => ?_)
    refine V_astore_2 dL_byBalance_6 rfl ?_
    refine V_sipush (v := (-1001)) dL_byBalance_7 (by decide) ?_
    exact V_reti dL_byBalance_10 rfl rfl (by have h := kk H1 g (hR.keep hz hq) (Ext.keep hz hq); rw [vByB, hn] at h; exact h)
set_option maxHeartbeats 1000000 in
set_option maxRecDepth 100000 in
theorem c_lByC {G : GT} {X : String → Heap → Prop} {H : Heap} {g : Nat → Nat} {o : Nat} {R : RgC} {x : Int32} (hR : RG G H g o R) {F : Int32 → Heap → Prop} (kk : ∀ (H1 : Heap) (g1 : Nat → Nat), RG G H1 g1 o R → Ext G tsA H g H1 g1 → F (vByC R.1 x) H1) : Call G kL_byClaim 7 1 6 [.ref o, .int x] H (qi F) X := by
  refine startLH (L0 := [some (.ref o), some (.int x), none]) rfl rfl pl_L_byClaim (Nat.le_of_ble_eq_true rfl) ?_
  obtain ⟨fo, hfo⟩ := hR.o
  refine V_aload_0 dL_byClaim_0 ?_
  refine V_iload_1 dL_byClaim_1 ?_
  refine V_call_i (runV1 dL_byClaim_2 ce_X12_caseByClaim rfl ml_L_120 im_X12_caseByClaim se_X12_caseByClaim hfo ⟨_, rfl, rfl⟩ (Nat.le_of_ble_eq_true rfl)) (by omega) (by omega) (by omega) (c_fByC hR (fun v hv => ?_) (fun hn H1 hz hq => ?_))
  · exact V_reti dL_byClaim_5 rfl rfl (by have h := kk H g hR Ext.rf; rw [vByC, hv] at h; exact h)
  · refine VX_catch [] (0, 5, 6, 27) [] rfl (fun z hz => absurd hz List.not_mem_nil) (by decide) (by decide) ckL_27 cas_27 (fun eq => ?_)
    refine V_astore_2 dL_byClaim_6 rfl ?_
    refine V_sipush (v := (-1001)) dL_byClaim_7 (by decide) ?_
    exact V_reti dL_byClaim_10 rfl rfl (by have h := kk H1 g (hR.keep hz hq) (Ext.keep hz hq); rw [vByC, hn] at h; exact h)
set_option maxHeartbeats 1000000 in
set_option maxRecDepth 100000 in
theorem c_lMea {G : GT} {X : String → Heap → Prop} {H : Heap} {g : Nat → Nat} {o : Nat} {R : RgC} (hR : RG G H g o R) (hne : ¬ nI R.1.2.2.1.length = 0 → vf_n64 (meaV R.1)) {F : UInt64 → Heap → Prop} (kk : ∀ (H1 : Heap) (g1 : Nat → Nat), RG G H1 g1 o R → Ext G tsA H g H1 g1 → F (vMea R.1) H1) : Call G kL_meanClaim 7 1 6 [.ref o] H (qd F) X := by
  refine startLH (L0 := [some (.ref o), none]) rfl rfl pl_L_meanClaim (Nat.le_of_ble_eq_true rfl) ?_
  obtain ⟨fo, hfo⟩ := hR.o
  refine V_aload_0 dL_meanClaim_0 ?_
  refine V_call_d (runV0 dL_meanClaim_1 ce_X12_meanClaim rfl ml_L_126 im_X12_meanClaim se_X12_meanClaim hfo ⟨_, rfl, rfl⟩ (Nat.le_of_ble_eq_true rfl)) (by omega) (by omega) (by omega) (c_fMea hR hne (fun hd => ?_) (fun hd H1 hz hq => ?_))
  · exact V_dret dL_meanClaim_4 rfl ⟨_, rfl, by have h := kk H g hR Ext.rf; rw [vMea, if_neg hd] at h; exact h⟩
  · refine VX_catch [] (0, 4, 5, 130) [] rfl (fun z hz => absurd hz List.not_mem_nil) (by decide) (by decide) ckL_130 cas_130 (fun eq => ?_)
    refine V_astore_1 dL_meanClaim_5 rfl ?_
    refine V_ldc2d dL_meanClaim_6 cn_L_132 ?_
    exact V_dret dL_meanClaim_9 rfl ⟨_, rfl, by have h := kk H1 g (hR.keep hz hq) (Ext.keep hz hq); rw [vMea, if_pos hd] at h; exact h⟩
set_option maxHeartbeats 1000000 in
set_option maxRecDepth 100000 in
theorem c_lSha {G : GT} {X : String → Heap → Prop} {H : Heap} {g : Nat → Nat} {o : Nat} {R : RgC} (hR : RG G H g o R) (hne : ¬ nI R.1.2.2.1.length = 0 → vf_n32 (shaV R.1)) {F : UInt32 → Heap → Prop} (kk : ∀ (H1 : Heap) (g1 : Nat → Nat), RG G H1 g1 o R → Ext G tsA H g H1 g1 → F (vSha R.1) H1) : Call G kL_ruledShare 7 1 6 [.ref o] H (qf F) X := by
  refine startLH (L0 := [some (.ref o), none]) rfl rfl pl_L_ruledShare (Nat.le_of_ble_eq_true rfl) ?_
  obtain ⟨fo, hfo⟩ := hR.o
  refine V_aload_0 dL_ruledShare_0 ?_
  refine V_call_f (runV0 dL_ruledShare_1 ce_X12_ruledShare rfl ml_L_134 im_X12_ruledShare se_X12_ruledShare hfo ⟨_, rfl, rfl⟩ (Nat.le_of_ble_eq_true rfl)) (by omega) (by omega) (by omega) (c_fSha hR hne (fun hd => ?_) (fun hd H1 hz hq => ?_))
  · exact V_fret dL_ruledShare_4 rfl ⟨_, rfl, by have h := kk H g hR Ext.rf; rw [vSha, if_neg hd] at h; exact h⟩
  · refine VX_catch [] (0, 4, 5, 130) [] rfl (fun z hz => absurd hz List.not_mem_nil) (by decide) (by decide) ckL_130 cas_130 (fun eq => ?_)
    refine V_astore_1 dL_ruledShare_5 rfl ?_
    refine V_ldcf dL_ruledShare_6 cn_L_138 ?_
    exact V_fret dL_ruledShare_8 rfl ⟨_, rfl, by have h := kk H1 g (hR.keep hz hq) (Ext.keep hz hq); rw [vSha, if_pos hd] at h; exact h⟩
set_option maxHeartbeats 1000000 in
set_option maxRecDepth 100000 in
theorem c_lOut {G : GT} {X : String → Heap → Prop} {H : Heap} {g : Nat → Nat} {o : Nat} {R : RgC} {x : Int32} (hR : RG G H g o R) {F : Int32 → Heap → Prop} (kk : ∀ (H1 : Heap) (g1 : Nat → Nat), RG G H1 g1 o R → Ext G tsA H g H1 g1 → F (vOut (rgU R) x) H1) : Call G kL_outputAt 7 1 6 [.ref o, .int x] H (qi F) X := by
  refine startLH (L0 := [some (.ref o), some (.int x), none]) rfl rfl pl_L_outputAt (Nat.le_of_ble_eq_true rfl) ?_
  obtain ⟨fo, hfo⟩ := hR.o
  refine V_aload_0 dL_outputAt_0 ?_
  refine V_iload_1 dL_outputAt_1 ?_
  refine V_call_i (runV1 dL_outputAt_2 ce_X12_outputAt rfl ml_L_145 im_X12_outputAt se_X12_outputAt hfo ⟨_, rfl, rfl⟩ (Nat.le_of_ble_eq_true rfl)) (by omega) (by omega) (by omega) (c_fOut hR (fun j hj hx => ?_) (fun hn H1 hz hq => ?_))
  · exact V_reti dL_outputAt_5 rfl rfl (by have h := kk H g hR Ext.rf; have hju := hR.uLen; rw [vOut, if_pos (by rw [hx]; exact ⟨nI_pos (by omega), fun z => absurd ((nI_le_iff (by omega) (by omega)).mp z) (by omega)⟩), hx, nI_nat (by omega)] at h; exact h)
  · refine VX_catch [] (0, 5, 6, 19) [] rfl (fun z hz => absurd hz List.not_mem_nil) (by decide) (by decide) ckL_19 cas_19 (fun eq => ?_)
    refine V_astore_2 dL_outputAt_6 rfl ?_
    refine V_sipush (v := (-1001)) dL_outputAt_7 (by decide) ?_
    exact V_reti dL_outputAt_10 rfl rfl (by have h := kk H1 g (hR.keep hz hq) (Ext.keep hz hq); rw [vOut, if_neg hn] at h; exact h)
set_option maxHeartbeats 1000000 in
set_option maxRecDepth 100000 in
theorem c_lNea {G : GT} {X : String → Heap → Prop} {H : Heap} {g : Nat → Nat} {o : Nat} {R : RgC} {x : Int32} (hR : RG G H g o R) (hmt : hasC R.1.2.2.1 x → (cMt (theC R.1.2.2.1 x)).length ≤ 8) (hpr : ∀ i : Int32, (gP R.1.2.2.2.1 i).1.length ≤ 8) {F : Int32 → Heap → Prop} (kk : ∀ (K2 : ScC) (H1 : Heap) (g1 : Nat → Nat), RG G H1 g1 o (setK R K2) → Ext G tsA H g H1 g1 → F (vNea R.1 x) H1) : Call G kL_nearest 9 2 20 [.ref o, .int x] H (qi F) X := by
  refine startLH (L0 := [some (.ref o), some (.int x), none]) rfl rfl pl_L_nearest (Nat.le_of_ble_eq_true rfl) ?_
  obtain ⟨fo, hfo⟩ := hR.o
  refine V_aload_0 dL_nearest_0 ?_
  refine V_iload_1 dL_nearest_1 ?_
  refine V_call_i (runV1 dL_nearest_2 ce_X12_nearestPrecedent rfl ml_L_108 im_X12_nearestPrecedent se_X12_nearestPrecedent hfo ⟨_, rfl, rfl⟩ (Nat.le_of_ble_eq_true rfl)) (by omega) (by omega) (by omega) (c_fNea hR hmt hpr (fun hh K2 H1 g1 hR1 e1 hv => ?_) (fun hn H1 hz hq => ?_) (fun hh K2 hv H1 g1 hR1 e1 => ?_))
  · exact V_reti dL_nearest_5 rfl rfl (by have h := kk K2 H1 g1 hR1 e1; rw [vNea, if_pos (hasb_t hh), if_neg hv] at h; exact h)
  · refine VX_catch [] (0, 5, 6, 27) [(0, 5, 11, 37)] rfl (fun z hz => absurd hz List.not_mem_nil) (by decide) (by decide) ckL_27 cas_27 (fun eq => ?_)
    refine V_astore_2 dL_nearest_6 rfl ?_
    refine V_sipush (v := (-1001)) dL_nearest_7 (by decide) ?_
    exact V_reti dL_nearest_10 rfl rfl (by have h := kk (rgK R) H1 g (hR.keep hz hq) (Ext.keep hz hq); rw [vNea, if_neg (hasb_f hn)] at h; exact h)
  · refine VX_catch [(0, 5, 6, 27)] (0, 5, 11, 37) [] rfl (List.forall_mem_cons.mpr ⟨⟨by decide, _, ckL_27, by decide +kernel⟩, (fun z hz => absurd hz List.not_mem_nil)⟩) (by decide) (by decide) ckL_37 cas_37 (fun eq => ?_)
    refine V_astore_2 dL_nearest_11 rfl ?_
    refine V_sipush (v := (-1002)) dL_nearest_12 (by decide) ?_
    exact V_reti dL_nearest_15 rfl rfl (by have h := kk K2 H1 g1 hR1 e1; rw [vNea, if_pos (hasb_t hh), if_pos hv] at h; exact h)
set_option maxHeartbeats 1000000 in
set_option maxRecDepth 100000 in
theorem c_lRBo {G : GT} {X : String → Heap → Prop} {H : Heap} {g : Nat → Nat} {o : Nat} {R : RgC} {x : Int32} (hR : RG G H g o R) (htn : tenB R.1.2.1) (hn8 : ∃ m : Nat, m ≤ 8 ∧ R.1.2.2.2.2.1 = nI m) {F : Int32 → Heap → Prop} (kk : hasB R.1.2.2.2.2.1 x = true → ∀ (H1 : Heap) (g1 : Nat → Nat), RG G H1 g1 o (setU R (rbV R.1 x)) → Ext G tsA H g H1 g1 → F (nI (rbV R.1 x).length) H1) (kx : hasB R.1.2.2.2.2.1 x = false → ∀ (H1 : Heap) (g1 : Nat → Nat), RG G H1 g1 o R → Ext G tsA H g H1 g1 → F (-1001) H1) : Call G kL_renderBonds 8 37 10302 [.ref o, .int x] H (qi F) X := by
  refine startLH (L0 := [some (.ref o), some (.int x), none]) rfl rfl pl_L_renderBonds (Nat.le_of_ble_eq_true rfl) ?_
  obtain ⟨fo, hfo⟩ := hR.o
  refine V_aload_0 dL_renderBonds_0 ?_
  refine V_iload_1 dL_renderBonds_1 ?_
  refine V_call_i (runV1 dL_renderBonds_2 ce_X12_renderBonds rfl ml_L_142 im_X12_renderBonds se_X12_renderBonds hfo ⟨_, rfl, rfl⟩ (Nat.le_of_ble_eq_true rfl)) (by omega) (by omega) (by omega) (c_fRBo hR htn hn8 (fun hb H1 g1 hR1 e1 => ?_) (fun hb H1 hz hq => ?_))
  · exact V_reti dL_renderBonds_5 rfl rfl (kk hb H1 g1 hR1 e1)
  · refine VX_catch [] (0, 5, 6, 19) [] rfl (fun z hz => absurd hz List.not_mem_nil) (by decide) (by decide) ckL_19 cas_19 (fun eq => ?_)
    refine V_astore_2 dL_renderBonds_6 rfl ?_
    refine V_sipush (v := (-1001)) dL_renderBonds_7 (by decide) ?_
    exact V_reti dL_renderBonds_10 rfl rfl (kx hb H1 g (hR.keep hz hq) (Ext.keep hz hq))
set_option maxHeartbeats 1000000 in
set_option maxRecDepth 100000 in
theorem c_lRCa {G : GT} {X : String → Heap → Prop} {H : Heap} {g : Nat → Nat} {o : Nat} {R : RgC} {x : Int32} (hR : RG G H g o R) (hmt : hasC R.1.2.2.1 x → (cMt (theC R.1.2.2.1 x)).length ≤ 8) (hst : hasC R.1.2.2.1 x → 0 ≤ cSd (theC R.1.2.2.1 x) ∧ cSd (theC R.1.2.2.1 x) < 128) {F : Int32 → Heap → Prop} (kk : hasC R.1.2.2.1 x → ∀ (H1 : Heap) (g1 : Nat → Nat), RG G H1 g1 o (setU R (rcV (theC R.1.2.2.1 x))) → Ext G tsA H g H1 g1 → F (nI (rcV (theC R.1.2.2.1 x)).length) H1) (kx : ¬ hasC R.1.2.2.1 x → ∀ (H1 : Heap) (g1 : Nat → Nat), RG G H1 g1 o R → Ext G tsA H g H1 g1 → F (-1001) H1) : Call G kL_renderCase 8 18 4870 [.ref o, .int x] H (qi F) X := by
  refine startLH (L0 := [some (.ref o), some (.int x), none]) rfl rfl pl_L_renderCase (Nat.le_of_ble_eq_true rfl) ?_
  obtain ⟨fo, hfo⟩ := hR.o
  refine V_aload_0 dL_renderCase_0 ?_
  refine V_iload_1 dL_renderCase_1 ?_
  refine V_call_i (runV1 dL_renderCase_2 ce_X12_renderCase rfl ml_L_139 im_X12_renderCase se_X12_renderCase hfo ⟨_, rfl, rfl⟩ (Nat.le_of_ble_eq_true rfl)) (by omega) (by omega) (by omega) (c_fRCa hR hmt hst (fun hb H1 g1 hR1 e1 => ?_) (fun hb H1 hz hq => ?_))
  · exact V_reti dL_renderCase_5 rfl rfl (kk hb H1 g1 hR1 e1)
  · refine VX_catch [] (0, 5, 6, 27) [] rfl (fun z hz => absurd hz List.not_mem_nil) (by decide) (by decide) ckL_27 cas_27 (fun eq => ?_)
    refine V_astore_2 dL_renderCase_6 rfl ?_
    refine V_sipush (v := (-1001)) dL_renderCase_7 (by decide) ?_
    exact V_reti dL_renderCase_10 rfl rfl (kx hb H1 g (hR.keep hz hq) (Ext.keep hz hq))
set_option maxHeartbeats 1000000 in
set_option maxRecDepth 100000 in
theorem c_lErr {G : GT} {X : String → Heap → Prop} {H : Heap} {g : Nat → Nat} {o : Nat} {R : RgC} (hR : RG G H g o R) {F : Int32 → Heap → Prop} (kk : ∀ (H1 : Heap) (g1 : Nat → Nat), RG G H1 g1 o R → Ext G tsA H g H1 g1 → F (vErr R) H1) : Call G kL_errorPosition 7 1 6 [.ref o] H (qi F) X := by
  refine startLH (L0 := [some (.ref o), none]) rfl rfl pl_L_errorPosition (Nat.le_of_ble_eq_true rfl) ?_
  obtain ⟨fo, hfo⟩ := hR.o
  refine V_aload_0 dL_errorPosition_0 ?_
  refine V_call_i (runV0 dL_errorPosition_1 ce_X12_errorPosition rfl ml_L_154 im_X12_errorPosition se_X12_errorPosition hfo ⟨_, rfl, rfl⟩ (Nat.le_of_ble_eq_true rfl)) (by omega) (by omega) (by omega) (c_fErr hR (fun hv H1 g1 hR1 e1 => ?_) (fun hv H1 g1 hR1 e1 => ?_))
  · exact V_reti dL_errorPosition_4 rfl rfl (by have h := kk H1 g1 hR1 e1; rw [vErr, if_neg hv] at h; exact h)
  · refine VX_catch [] (0, 4, 5, 27) [] rfl (fun z hz => absurd hz List.not_mem_nil) (by decide) (by decide) ckL_27 cas_27 (fun eq => ?_)
    refine V_astore_1 dL_errorPosition_5 rfl ?_
    refine V_sipush (v := (-1001)) dL_errorPosition_6 (by decide) ?_
    exact V_reti dL_errorPosition_9 rfl rfl (by have h := kk H1 g1 hR1 e1; rw [vErr, if_pos hv] at h; exact h)
set_option maxHeartbeats 1000000 in
set_option maxRecDepth 100000 in
theorem c_lFai {G : GT} {X : String → Heap → Prop} {H : Heap} {g : Nat → Nat} {o : Nat} {R : RgC} (hR : RG G H g o R) {F : Int32 → Heap → Prop} (kk : ∀ (H1 : Heap) (g1 : Nat → Nat), RG G H1 g1 o R → Ext G tsA H g H1 g1 → F (vFai R) H1) : Call G kL_failedCommand 7 1 6 [.ref o] H (qi F) X := by
  refine startLH (L0 := [some (.ref o), none]) rfl rfl pl_L_failedCommand (Nat.le_of_ble_eq_true rfl) ?_
  obtain ⟨fo, hfo⟩ := hR.o
  refine V_aload_0 dL_failedCommand_0 ?_
  refine V_call_i (runV0 dL_failedCommand_1 ce_X12_failedCommand rfl ml_L_157 im_X12_failedCommand se_X12_failedCommand hfo ⟨_, rfl, rfl⟩ (Nat.le_of_ble_eq_true rfl)) (by omega) (by omega) (by omega) (c_fFail hR (fun hv H1 g1 hR1 e1 => ?_) (fun hv H1 g1 hR1 e1 => ?_))
  · exact V_reti dL_failedCommand_4 rfl rfl (by have h := kk H1 g1 hR1 e1; rw [vFai, if_neg hv] at h; exact h)
  · refine VX_catch [] (0, 4, 5, 27) [] rfl (fun z hz => absurd hz List.not_mem_nil) (by decide) (by decide) ckL_27 cas_27 (fun eq => ?_)
    refine V_astore_1 dL_failedCommand_5 rfl ?_
    refine V_sipush (v := (-1001)) dL_failedCommand_6 (by decide) ?_
    exact V_reti dL_failedCommand_9 rfl rfl (by have h := kk H1 g1 hR1 e1; rw [vFai, if_pos hv] at h; exact h)
set_option maxHeartbeats 1000000 in
set_option maxRecDepth 100000 in
theorem c_lStr {G : GT} {X : String → Heap → Prop} {H : Heap} {g : Nat → Nat} {o : Nat} {R : RgC} {x y : Int32} (hR : RG G H g o R) (hno : ¬ (hasB R.1.2.2.2.2.1 x = true ∧ hasB R.1.2.2.2.2.1 y = true ∧ ¬ x = y)) {F : Int32 → Heap → Prop} (k1 : ¬ (hasB R.1.2.2.2.2.1 x = true ∧ hasB R.1.2.2.2.2.1 y = true) → ∀ (H1 : Heap) (g1 : Nat → Nat), RG G H1 g1 o R → Ext G tsA H g H1 g1 → F (-1001) H1) (k2 : hasB R.1.2.2.2.2.1 x = true → hasB R.1.2.2.2.2.1 y = true → x = y → ∀ (H1 : Heap) (g1 : Nat → Nat), RG G H1 g1 o R → Ext G tsA H g H1 g1 → F (-1002) H1)  : Call G kL_strain 9 3 18 [.ref o, .int x, .int y] H (qi F) X := by
  refine startLH (L0 := [some (.ref o), some (.int x), some (.int y), none]) rfl rfl pl_L_strain (Nat.le_of_ble_eq_true rfl) ?_
  obtain ⟨fo, hfo⟩ := hR.o
  refine V_aload_0 dL_strain_0 ?_
  refine V_iload_1 dL_strain_1 ?_
  refine V_iload_2 dL_strain_2 ?_
  refine V_call_i (runV2 dL_strain_3 ce_X12_strain rfl ml_L_64 im_X12_strain se_X12_strain hfo ⟨_, rfl, rfl⟩ (Nat.le_of_ble_eq_true rfl)) (by omega) (by omega) (by omega) (c_fStr hR hno (fun hn H1 hz hq => ?_) (fun h1 h2 h3 H1 hz hq => ?_))
  · refine VX_catch [] (0, 6, 7, 19) [(0, 6, 12, 21)] rfl (fun z hz => absurd hz List.not_mem_nil) (by decide) (by decide) ckL_19 cas_19 (fun eq => ?_)
    refine V_astore_3 dL_strain_7 rfl ?_
    refine V_sipush (v := (-1001)) dL_strain_8 (by decide) ?_
    exact V_reti dL_strain_11 rfl rfl (k1 hn H1 g (hR.keep hz hq) (Ext.keep hz hq))
  · refine VX_catch [(0, 6, 7, 19)] (0, 6, 12, 21) [] rfl (List.forall_mem_cons.mpr ⟨⟨by decide, _, ckL_19, by decide +kernel⟩, (fun z hz => absurd hz List.not_mem_nil)⟩) (by decide) (by decide) ckL_21 cas_21 (fun eq => ?_)
    refine V_astore_3 dL_strain_12 rfl ?_
    refine V_sipush (v := (-1002)) dL_strain_13 (by decide) ?_
    exact V_reti dL_strain_16 rfl rfl (k2 h1 h2 h3 H1 g (hR.keep hz hq) (Ext.keep hz hq))
set_option maxHeartbeats 1000000 in
set_option maxRecDepth 100000 in
theorem c_lStT {G : GT} {X : String → Heap → Prop} {H : Heap} {g : Nat → Nat} {o : Nat} {R : RgC} {x y : Int32} (hR : RG G H g o R) (hno : ¬ (hasB R.1.2.2.2.2.1 x = true ∧ hasB R.1.2.2.2.2.1 y = true ∧ ¬ x = y)) {F : Int32 → Heap → Prop} (k1 : ¬ (hasB R.1.2.2.2.2.1 x = true ∧ hasB R.1.2.2.2.2.1 y = true) → ∀ (H1 : Heap) (g1 : Nat → Nat), RG G H1 g1 o R → Ext G tsA H g H1 g1 → F (-1001) H1) (k2 : hasB R.1.2.2.2.2.1 x = true → hasB R.1.2.2.2.2.1 y = true → x = y → ∀ (H1 : Heap) (g1 : Nat → Nat), RG G H1 g1 o R → Ext G tsA H g H1 g1 → F (-1002) H1)  : Call G kL_strainByTable 9 3 18 [.ref o, .int x, .int y] H (qi F) X := by
  refine startLH (L0 := [some (.ref o), some (.int x), some (.int y), none]) rfl rfl pl_L_strainByTable (Nat.le_of_ble_eq_true rfl) ?_
  obtain ⟨fo, hfo⟩ := hR.o
  refine V_aload_0 dL_strainByTable_0 ?_
  refine V_iload_1 dL_strainByTable_1 ?_
  refine V_iload_2 dL_strainByTable_2 ?_
  refine V_call_i (runV2 dL_strainByTable_3 ce_X12_strainByTable rfl ml_L_67 im_X12_strainByTable se_X12_strainByTable hfo ⟨_, rfl, rfl⟩ (Nat.le_of_ble_eq_true rfl)) (by omega) (by omega) (by omega) (c_fStT hR hno (fun hn H1 hz hq => ?_) (fun h1 h2 h3 H1 hz hq => ?_))
  · refine VX_catch [] (0, 6, 7, 19) [(0, 6, 12, 21)] rfl (fun z hz => absurd hz List.not_mem_nil) (by decide) (by decide) ckL_19 cas_19 (fun eq => ?_)
    refine V_astore_3 dL_strainByTable_7 rfl ?_
    refine V_sipush (v := (-1001)) dL_strainByTable_8 (by decide) ?_
    exact V_reti dL_strainByTable_11 rfl rfl (k1 hn H1 g (hR.keep hz hq) (Ext.keep hz hq))
  · refine VX_catch [(0, 6, 7, 19)] (0, 6, 12, 21) [] rfl (List.forall_mem_cons.mpr ⟨⟨by decide, _, ckL_19, by decide +kernel⟩, (fun z hz => absurd hz List.not_mem_nil)⟩) (by decide) (by decide) ckL_21 cas_21 (fun eq => ?_)
    refine V_astore_3 dL_strainByTable_12 rfl ?_
    refine V_sipush (v := (-1002)) dL_strainByTable_13 (by decide) ?_
    exact V_reti dL_strainByTable_16 rfl rfl (k2 h1 h2 h3 H1 g (hR.keep hz hq) (Ext.keep hz hq))
set_option maxHeartbeats 1000000 in
set_option maxRecDepth 100000 in
theorem c_lTen {G : GT} {X : String → Heap → Prop} {H : Heap} {g : Nat → Nat} {o : Nat} {R : RgC} {x y : Int32} (hR : RG G H g o R) {F : Int32 → Heap → Prop} (k0 : hasB R.1.2.2.2.2.1 x = true → hasB R.1.2.2.2.2.1 y = true → ¬ rd R.1.2.1 64 (x * 8 + y) = 0 → ∀ (H1 : Heap) (g1 : Nat → Nat), RG G H1 g1 o R → Ext G tsA H g H1 g1 → F (rd R.1.2.1 64 (x * 8 + y)) H1) (k1 : ¬ (hasB R.1.2.2.2.2.1 x = true ∧ hasB R.1.2.2.2.2.1 y = true) → ∀ (H1 : Heap) (g1 : Nat → Nat), RG G H1 g1 o R → Ext G tsA H g H1 g1 → F (-1001) H1) (k2 : hasB R.1.2.2.2.2.1 x = true → hasB R.1.2.2.2.2.1 y = true → rd R.1.2.1 64 (x * 8 + y) = 0 → ∀ (H1 : Heap) (g1 : Nat → Nat), RG G H1 g1 o R → Ext G tsA H g H1 g1 → F (-1002) H1) : Call G kL_tension 8 3 18 [.ref o, .int x, .int y] H (qi F) X := by
  refine startLH (L0 := [some (.ref o), some (.int x), some (.int y), none]) rfl rfl pl_L_tension (Nat.le_of_ble_eq_true rfl) ?_
  obtain ⟨fo, hfo⟩ := hR.o
  refine V_aload_0 dL_tension_0 ?_
  refine V_iload_1 dL_tension_1 ?_
  refine V_iload_2 dL_tension_2 ?_
  refine V_call_i (runV2 dL_tension_3 ce_X12_tension rfl ml_L_61 im_X12_tension se_X12_tension hfo ⟨_, rfl, rfl⟩ (Nat.le_of_ble_eq_true rfl)) (by omega) (by omega) (by omega) (c_fTen hR (fun h1 h2 h3 => ?_) (fun hn H1 hz hq => ?_) (fun h1 h2 h3 H1 hz hq => ?_))
  · exact V_reti dL_tension_6 rfl rfl (k0 h1 h2 h3 H g hR Ext.rf)
  · refine VX_catch [] (0, 6, 7, 19) [(0, 6, 12, 27)] rfl (fun z hz => absurd hz List.not_mem_nil) (by decide) (by decide) ckL_19 cas_19 (fun eq => ?_)
    refine V_astore_3 dL_tension_7 rfl ?_
    refine V_sipush (v := (-1001)) dL_tension_8 (by decide) ?_
    exact V_reti dL_tension_11 rfl rfl (k1 hn H1 g (hR.keep hz hq) (Ext.keep hz hq))
  · refine VX_catch [(0, 6, 7, 19)] (0, 6, 12, 27) [] rfl (List.forall_mem_cons.mpr ⟨⟨by decide, _, ckL_19, by decide +kernel⟩, (fun z hz => absurd hz List.not_mem_nil)⟩) (by decide) (by decide) ckL_27 cas_27 (fun eq => ?_)
    refine V_astore_3 dL_tension_12 rfl ?_
    refine V_sipush (v := (-1002)) dL_tension_13 (by decide) ?_
    exact V_reti dL_tension_16 rfl rfl (k2 h1 h2 h3 H1 g (hR.keep hz hq) (Ext.keep hz hq))
set_option maxHeartbeats 1000000 in
set_option maxRecDepth 100000 in
theorem c_lDst {G : GT} {X : String → Heap → Prop} {H : Heap} {g : Nat → Nat} {o : Nat} {R : RgC} {x y : Int32} (hR : RG G H g o R) (hno : hasC R.1.2.2.1 x → ¬ (¬ y < 0 ∧ ¬ nI R.1.2.2.2.1.length ≤ y)) {F : Int32 → Heap → Prop} (k1 : ¬ hasC R.1.2.2.1 x → ∀ (H1 : Heap) (g1 : Nat → Nat), RG G H1 g1 o R → Ext G tsA H g H1 g1 → F (-1001) H1) (k2 : hasC R.1.2.2.1 x → ∀ (H1 : Heap) (g1 : Nat → Nat), RG G H1 g1 o R → Ext G tsA H g H1 g1 → F (-1002) H1) : Call G kL_distance 9 2 12 [.ref o, .int x, .int y] H (qi F) X := by
  refine startLH (L0 := [some (.ref o), some (.int x), some (.int y), none]) rfl rfl pl_L_distance (Nat.le_of_ble_eq_true rfl) ?_
  obtain ⟨fo, hfo⟩ := hR.o
  refine V_aload_0 dL_distance_0 ?_
  refine V_iload_1 dL_distance_1 ?_
  refine V_iload_2 dL_distance_2 ?_
  refine V_call_i (runV2 dL_distance_3 ce_X12_distance rfl ml_L_114 im_X12_distance se_X12_distance hfo ⟨_, rfl, rfl⟩ (Nat.le_of_ble_eq_true rfl)) (by omega) (by omega) (by omega) (c_fDst hR hno (fun hn H1 hz hq => ?_) (fun h2 H1 hz hq => ?_))
  · refine VX_catch [] (0, 6, 7, 27) [(0, 6, 12, 19)] rfl (fun z hz => absurd hz List.not_mem_nil) (by decide) (by decide) ckL_27 cas_27 (fun eq => ?_)
    refine V_astore_3 dL_distance_7 rfl ?_
    refine V_sipush (v := (-1001)) dL_distance_8 (by decide) ?_
    exact V_reti dL_distance_11 rfl rfl (k1 hn H1 g (hR.keep hz hq) (Ext.keep hz hq))
  · refine VX_catch [(0, 6, 7, 27)] (0, 6, 12, 19) [] rfl (List.forall_mem_cons.mpr ⟨⟨by decide, _, ckL_27, by decide +kernel⟩, (fun z hz => absurd hz List.not_mem_nil)⟩) (by decide) (by decide) ckL_19 cas_19 (fun eq => ?_)
    refine V_astore_3 dL_distance_12 rfl ?_
    refine V_sipush (v := (-1002)) dL_distance_13 (by decide) ?_
    exact V_reti dL_distance_16 rfl rfl (k2 h2 H1 g (hR.keep hz hq) (Ext.keep hz hq))
set_option maxHeartbeats 1000000 in
set_option maxRecDepth 100000 in
theorem c_lDsE {G : GT} {X : String → Heap → Prop} {H : Heap} {g : Nat → Nat} {o : Nat} {R : RgC} {x y : Int32} (hR : RG G H g o R) (hno : hasC R.1.2.2.1 x → ¬ (¬ y < 0 ∧ ¬ nI R.1.2.2.2.1.length ≤ y)) {F : Int32 → Heap → Prop} (k1 : ¬ hasC R.1.2.2.1 x → ∀ (H1 : Heap) (g1 : Nat → Nat), RG G H1 g1 o R → Ext G tsA H g H1 g1 → F (-1001) H1) (k2 : hasC R.1.2.2.1 x → ∀ (H1 : Heap) (g1 : Nat → Nat), RG G H1 g1 o R → Ext G tsA H g H1 g1 → F (-1002) H1) : Call G kL_byEnds 9 2 12 [.ref o, .int x, .int y] H (qi F) X := by
  refine startLH (L0 := [some (.ref o), some (.int x), some (.int y), none]) rfl rfl pl_L_byEnds (Nat.le_of_ble_eq_true rfl) ?_
  obtain ⟨fo, hfo⟩ := hR.o
  refine V_aload_0 dL_byEnds_0 ?_
  refine V_iload_1 dL_byEnds_1 ?_
  refine V_iload_2 dL_byEnds_2 ?_
  refine V_call_i (runV2 dL_byEnds_3 ce_X12_distanceByEnds rfl ml_L_117 im_X12_distanceByEnds se_X12_distanceByEnds hfo ⟨_, rfl, rfl⟩ (Nat.le_of_ble_eq_true rfl)) (by omega) (by omega) (by omega) (c_fDsE hR hno (fun hn H1 hz hq => ?_) (fun h2 H1 hz hq => ?_))
  · refine VX_catch [] (0, 6, 7, 27) [(0, 6, 12, 19)] rfl (fun z hz => absurd hz List.not_mem_nil) (by decide) (by decide) ckL_27 cas_27 (fun eq => ?_)
    refine V_astore_3 dL_byEnds_7 rfl ?_
    refine V_sipush (v := (-1001)) dL_byEnds_8 (by decide) ?_
    exact V_reti dL_byEnds_11 rfl rfl (k1 hn H1 g (hR.keep hz hq) (Ext.keep hz hq))
  · refine VX_catch [(0, 6, 7, 27)] (0, 6, 12, 19) [] rfl (List.forall_mem_cons.mpr ⟨⟨by decide, _, ckL_27, by decide +kernel⟩, (fun z hz => absurd hz List.not_mem_nil)⟩) (by decide) (by decide) ckL_19 cas_19 (fun eq => ?_)
    refine V_astore_3 dL_byEnds_12 rfl ?_
    refine V_sipush (v := (-1002)) dL_byEnds_13 (by decide) ?_
    exact V_reti dL_byEnds_16 rfl rfl (k2 h2 H1 g (hR.keep hz hq) (Ext.keep hz hq))
set_option maxHeartbeats 1000000 in
set_option maxRecDepth 100000 in
theorem c_lMLt {G : GT} {X : String → Heap → Prop} {H : Heap} {g : Nat → Nat} {o : Nat} {R : RgC} {x y : Int32} (hR : RG G H g o R) (hno : hasC R.1.2.2.1 x → y < 0 ∨ ¬ y < nI (cMt (theC R.1.2.2.1 x)).length) {F : Int32 → Heap → Prop} (k1 : ¬ hasC R.1.2.2.1 x → ∀ (H1 : Heap) (g1 : Nat → Nat), RG G H1 g1 o R → Ext G tsA H g H1 g1 → F (-1001) H1) (k2 : hasC R.1.2.2.1 x → ∀ (H1 : Heap) (g1 : Nat → Nat), RG G H1 g1 o R → Ext G tsA H g H1 g1 → F (-1002) H1) : Call G kL_matterLetter 8 2 12 [.ref o, .int x, .int y] H (qi F) X := by
  refine startLH (L0 := [some (.ref o), some (.int x), some (.int y), none]) rfl rfl pl_L_matterLetter (Nat.le_of_ble_eq_true rfl) ?_
  obtain ⟨fo, hfo⟩ := hR.o
  refine V_aload_0 dL_matterLetter_0 ?_
  refine V_iload_1 dL_matterLetter_1 ?_
  refine V_iload_2 dL_matterLetter_2 ?_
  refine V_call_i (runV2 dL_matterLetter_3 ce_X12_matterLetter rfl ml_L_95 im_X12_matterLetter se_X12_matterLetter hfo ⟨_, rfl, rfl⟩ (Nat.le_of_ble_eq_true rfl)) (by omega) (by omega) (by omega) (c_fMLt hR hno (fun hn H1 hz hq => ?_) (fun h2 H1 hz hq => ?_))
  · refine VX_catch [] (0, 6, 7, 27) [(0, 6, 12, 19)] rfl (fun z hz => absurd hz List.not_mem_nil) (by decide) (by decide) ckL_27 cas_27 (fun eq => ?_)
    refine V_astore_3 dL_matterLetter_7 rfl ?_
    refine V_sipush (v := (-1001)) dL_matterLetter_8 (by decide) ?_
    exact V_reti dL_matterLetter_11 rfl rfl (k1 hn H1 g (hR.keep hz hq) (Ext.keep hz hq))
  · refine VX_catch [(0, 6, 7, 27)] (0, 6, 12, 19) [] rfl (List.forall_mem_cons.mpr ⟨⟨by decide, _, ckL_27, by decide +kernel⟩, (fun z hz => absurd hz List.not_mem_nil)⟩) (by decide) (by decide) ckL_19 cas_19 (fun eq => ?_)
    refine V_astore_3 dL_matterLetter_12 rfl ?_
    refine V_sipush (v := (-1002)) dL_matterLetter_13 (by decide) ?_
    exact V_reti dL_matterLetter_16 rfl rfl (k2 h2 H1 g (hR.keep hz hq) (Ext.keep hz hq))

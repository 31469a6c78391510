theorem V_drop {G : GT} {K : MT} {d c s : Nat} {Q : Option Value → Heap → Prop} {X : String → Heap → Prop} {H : Heap} {L L2 : List (Option Value)} {rest : List Value} {pc : Nat} (i : Nat) (h2 : L.set i none = L2) (k : V G K d c s Q X pc L2 rest H) : V G K d c s Q X pc L rest H := by
  subst h2
  intro p e R st m args below meth co ls locs ce sl hC hl hS hc hs
  refine k p e R st m args below meth co ls locs ce sl hC ⟨⟨by rw [List.length_set]; exact hl.1.1, hl.1.2.1, fun q hq => ?_⟩, by rw [List.length_set]; exact hl.2⟩ hS hc hs
  obtain ⟨j, x⟩ := q
  have h3 := lvL_mem.mp hq
  rw [List.getElem?_set] at h3
  by_cases hj : i = j
  · rw [if_pos hj] at h3
    split at h3 <;> cases h3
  · rw [if_neg hj] at h3
    exact hl.1.2.2 (j, x) (lvL_mem.mpr h3)
/-- a row of numbers of a fixed length -/
def Ja (G : GT) (H : Heap) (g : Nat → Nat) (t p k n : Nat) (v : List Int32) : Prop := Ia G H g t p k v ∧ v.length = n
theorem Ja.fr {G : GT} {H H1 : Heap} {g g1 : Nat → Nat} {ts : List Nat} {t p k n : Nat} {v : List Int32} (h : Ja G H g t p k n v) (e : Ext G ts H g H1 g1) (ht : t ∉ ts) : Ja G H1 g1 t p k n v := ⟨h.1.fr e ht, h.2⟩
theorem tk_of {t : Nat} {ts : List Nat} (ht : t = 0 ∨ t = 10) (h : 0 ∉ ts ∧ 10 ∉ ts ∧ 11 ∉ ts ∧ 12 ∉ ts ∧ 13 ∉ ts ∧ 14 ∉ ts) : tkn t ts := by
  obtain ⟨h0, h1, h2, h3, h4, h5⟩ := h
  rcases ht with rfl | rfl
  · exact tkn0 h0
  · refine ⟨h0, fun k hk => ?_⟩
    have : k = 0 ∨ k = 1 ∨ k = 2 ∨ k = 3 ∨ k = 4 := by omega
    rcases this with rfl | rfl | rfl | rfl | rfl <;> assumption
theorem loop_endL {n i : Int32} (h : n.toInt < i.toInt + ((0 : Nat) : Int)) : n < i := Int32.lt_iff_toInt_lt.mpr (by omega)
theorem loop_stepL {n i : Int32} {k : Nat} (h : ¬ n < i) (hm : n.toInt < i.toInt + ((k + 1 : Nat) : Int)) (hb : n.toInt < 2147483647) : n.toInt < (i + 1).toInt + (k : Int) := by
  have h1 : i.toInt ≤ n.toInt := Int32.le_iff_toInt_le.mp (Int32.not_lt.mp h)
  have h3 : -(2 ^ 31) ≤ i.toInt := Int32.le_toInt i
  have h4 : (i + 1).toInt = i.toInt + 1 := by
    rw [Int32.toInt_add, show (1 : Int32).toInt = 1 from rfl]
    exact Int.bmod_eq_of_le (by omega) (by omega)
  rw [h4]; omega
theorem step20 {i : Int32} {k : Nat} (h : ¬ 20 < i) (hm : (20 : Int32).toInt < i.toInt + ((k + 1 : Nat) : Int)) : (20 : Int32).toInt < (i + 1).toInt + (k : Int) := loop_stepL h hm (by decide)
def grpOf (gs : List Int32) (x : Int32)  : Int32 := if x < 0 then (-1) else (if 8 ≤ x then (-1) else (gI gs x))
set_option maxHeartbeats 1000000 in
set_option maxRecDepth 100000 in
theorem c_grpOf {G : GT} {X : String → Heap → Prop} {H : Heap} {g : Nat → Nat} {th p p2 p3 : Nat} {gs : List Int32} {x : Int32}   (hgs : Ja G H g 21 p 0 8 gs) (hth : Rz G H g th 14 [.ref p, .ref p2, .ref p3]) {F : Int32 → Heap → Prop} (kk : F (grpOf gs x) H) : Call G kX10_groupOf 0 0 0 [.ref th, .int x] H (qi F) X := by
  refine startL (L0 := [some (.ref th), some (.int x)]) rfl rfl pl_X10_groupOf (Nat.le_of_ble_eq_true rfl) ?_
  refine V_iload_1 dX10_groupOf_0 ?_
  refine V_if_lt (tgt := 22) dX10_groupOf_1 (by decide) (fun c_1 => ?_) (fun c_1 => ?_)
  · refine V_iconst (v := (-1)) dX10_groupOf_22 rfl ?_
    exact V_reti dX10_groupOf_23 rfl rfl (by rw [grpOf, if_pos c_1] at kk; exact kk )
  · refine V_iload_1 dX10_groupOf_4 ?_
    refine V_aload_0 dX10_groupOf_5 ?_
    refine V_getf dX10_groupOf_6 fl_X10_9 hth.1 rfl ?_
    refine V_alen (v := 8) dX10_groupOf_9 hgs.1.ra (by rw [hgs.2]; rfl) ?_
    refine V_icmp_ge (tgt := 22) dX10_groupOf_10 (by decide) (fun c_10 => ?_) (fun c_10 => ?_)
    · refine V_iconst (v := (-1)) dX10_groupOf_22 rfl ?_
      exact V_reti dX10_groupOf_23 rfl rfl (by rw [grpOf, if_neg c_1, if_pos c_10] at kk; exact kk )
    · refine V_aload_0 dX10_groupOf_13 ?_
      refine V_getf dX10_groupOf_14 fl_X10_9 hth.1 rfl ?_
      refine V_iload_1 dX10_groupOf_17 ?_
      refine V_iald (v := .int (gI gs x)) dX10_groupOf_18 hgs.1.ra (hgs.2 ▸ inR (n := 8) rfl (by decide) c_1 c_10) rfl ?_
      refine V_goto (tgt := 23) dX10_groupOf_19 (by decide) ?_
      exact V_reti dX10_groupOf_23 rfl rfl (by rw [grpOf, if_neg c_1, if_neg c_10] at kk; exact kk )
def sepAllL  : Nat → Int32 → List Int32 → List Int32
  | 0, i, gs => gs
  | k + 1, i, gs => if 8 ≤ i then gs else (sepAllL k (i + 1) (sI gs i i))
def sepAll  (gs : List Int32) : List Int32 := sepAllL 8 0 gs
set_option maxHeartbeats 1000000 in
set_option maxRecDepth 100000 in
theorem c_sepAllL {G : GT} {X : String → Heap → Prop} {H0 : Heap} {g0 : Nat → Nat} {th p p2 p3 : Nat} {F : Heap → Prop} {cc ss : Nat} : ∀ (k : Nat) (i : Int32) (gs : List Int32) (H : Heap) (g : Nat → Nat), Ja G H g 21 p 0 8 gs → Rz G H g th 14 [.ref p, .ref p2, .ref p3] → Ext G [21] H0 g0 H g → (8 : Int32).toInt ≤ i.toInt + ((k : Nat) : Int) → ¬ i < 0 → (∀ (H1 : Heap) (g1 : Nat → Nat), Ja G H1 g1 21 p 0 8 (sepAllL k i gs) → Ext G [21] H0 g0 H1 g1 → F H1) → V G kX10_separateAll 0 cc ss (qv F) X 2 [some (.ref th), some (.int i)] [] H := by
  intro k
  induction k with
  | zero =>
    intro i gs H g hgs hth E hm hi0 kk
    refine V_iload_1 dX10_separateAll_2 ?_
    refine V_aload_0 dX10_separateAll_3 ?_
    refine V_getf dX10_separateAll_4 fl_X10_9 hth.1 rfl ?_
    refine V_alen (v := 8) dX10_separateAll_7 hgs.1.ra (by rw [hgs.2]; rfl) ?_
    refine V_icmp_ge (tgt := 24) dX10_separateAll_8 (by decide) (fun c_8 => ?_) (fun c_8 => ?_)
    · exact V_retv dX10_separateAll_24 rfl (by rw [sepAllL] at kk; exact kk H g hgs E)
    · exact absurd (loop_end hm) c_8
  | succ k ih =>
    intro i gs H g hgs hth E hm hi0 kk
    refine V_iload_1 dX10_separateAll_2 ?_
    refine V_aload_0 dX10_separateAll_3 ?_
    refine V_getf dX10_separateAll_4 fl_X10_9 hth.1 rfl ?_
    refine V_alen (v := 8) dX10_separateAll_7 hgs.1.ra (by rw [hgs.2]; rfl) ?_
    refine V_icmp_ge (tgt := 24) dX10_separateAll_8 (by decide) (fun c_8 => ?_) (fun c_8 => ?_)
    · exact V_retv dX10_separateAll_24 rfl (by rw [sepAllL, if_pos c_8] at kk; exact kk H g hgs E)
    · refine V_aload_0 dX10_separateAll_11 ?_
      refine V_getf dX10_separateAll_12 fl_X10_9 hth.1 rfl ?_
      refine V_iload_1 dX10_separateAll_15 ?_
      refine V_iload_1 dX10_separateAll_16 ?_
      refine V_ias dX10_separateAll_17 hgs.1 (by decide) (hgs.2 ▸ inR (n := 8) rfl (by decide) hi0 c_8) fun H1 hnew e1 z1 => ?_
      have hj : Ja G H1 g 21 p 0 8 (sI gs i i) := ⟨hnew, sI_len.trans hgs.2⟩
      replace hth := hth.fr e1 (by decide)
      replace E := E.trans (e1.wide (by decide))
      replace hgs := hj
      clear hj hnew
      refine V_iinc_1 (v := 1) dX10_separateAll_18 rfl rfl ?_
      refine V_goto (tgt := 2) dX10_separateAll_21 (by decide) ?_
      exact ih _ _ H1 g hgs hth E (loop_step c_8 hm) (nn_step c_8 hi0) (by rw [sepAllL, if_neg c_8] at kk; exact kk)
set_option maxHeartbeats 1000000 in
set_option maxRecDepth 100000 in
theorem c_sepAll {G : GT} {X : String → Heap → Prop} {H : Heap} {g : Nat → Nat} {th p p2 p3 : Nat} {gs : List Int32} (hgs : Ja G H g 21 p 0 8 gs) (hth : Rz G H g th 14 [.ref p, .ref p2, .ref p3]) {F : Heap → Prop} (kk : ∀ (H1 : Heap) (g1 : Nat → Nat), Ja G H1 g1 21 p 0 8 (sepAll gs) → Ext G [21] H g H1 g1 → F H1) : Call G kX10_separateAll 0 0 0 [.ref th] H (qv F) X := by
  have E : Ext G [21] H g H g := Ext.rf
  refine startL (L0 := [some (.ref th), none]) rfl rfl pl_X10_separateAll (Nat.le_of_ble_eq_true rfl) ?_
  refine V_iconst (v := 0) dX10_separateAll_0 rfl ?_
  refine V_istore_1 dX10_separateAll_1 rfl ?_
  exact c_sepAllL   8 0 _ H g hgs hth (Ext.rf (ts := [21])) (by decide) (by decide) (by rw [sepAll] at kk; exact fun Hz gz hgs_ ez => kk Hz gz hgs_ (E.trans ez))
def joinGL (x : Int32) (y : Int32) : Nat → Int32 → List Int32 → List Int32
  | 0, i, gs => gs
  | k + 1, i, gs => if 8 ≤ i then gs else (if (gI gs i) = y then (joinGL x y k (i + 1) (sI gs i x)) else (joinGL x y k (i + 1) gs))
def joinG (x : Int32) (y : Int32) (gs : List Int32) : List Int32 := joinGL x y 8 0 gs
set_option maxHeartbeats 1000000 in
set_option maxRecDepth 100000 in
theorem c_joinGL {G : GT} {X : String → Heap → Prop} {H0 : Heap} {g0 : Nat → Nat} {th p p2 p3 : Nat} {x y : Int32} {F : Heap → Prop} {cc ss : Nat} : ∀ (k : Nat) (i : Int32) (gs : List Int32) (H : Heap) (g : Nat → Nat), Ja G H g 21 p 0 8 gs → Rz G H g th 14 [.ref p, .ref p2, .ref p3] → Ext G [21] H0 g0 H g → (8 : Int32).toInt ≤ i.toInt + ((k : Nat) : Int) → ¬ i < 0 → (∀ (H1 : Heap) (g1 : Nat → Nat), Ja G H1 g1 21 p 0 8 (joinGL x y k i gs) → Ext G [21] H0 g0 H1 g1 → F H1) → V G kX10_joinGroups 0 cc ss (qv F) X 2 [some (.ref th), some (.int x), some (.int y), some (.int i)] [] H := by
  intro k
  induction k with
  | zero =>
    intro i gs H g hgs hth E hm hi0 kk
    refine V_iload_3 dX10_joinGroups_2 ?_
    refine V_aload_0 dX10_joinGroups_3 ?_
    refine V_getf dX10_joinGroups_4 fl_X10_9 hth.1 rfl ?_
    refine V_alen (v := 8) dX10_joinGroups_7 hgs.1.ra (by rw [hgs.2]; rfl) ?_
    refine V_icmp_ge (tgt := 34) dX10_joinGroups_8 (by decide) (fun c_8 => ?_) (fun c_8 => ?_)
    · exact V_retv dX10_joinGroups_34 rfl (by rw [joinGL] at kk; exact kk H g hgs E)
    · exact absurd (loop_end hm) c_8
  | succ k ih =>
    intro i gs H g hgs hth E hm hi0 kk
    refine V_iload_3 dX10_joinGroups_2 ?_
    refine V_aload_0 dX10_joinGroups_3 ?_
    refine V_getf dX10_joinGroups_4 fl_X10_9 hth.1 rfl ?_
    refine V_alen (v := 8) dX10_joinGroups_7 hgs.1.ra (by rw [hgs.2]; rfl) ?_
    refine V_icmp_ge (tgt := 34) dX10_joinGroups_8 (by decide) (fun c_8 => ?_) (fun c_8 => ?_)
    · exact V_retv dX10_joinGroups_34 rfl (by rw [joinGL, if_pos c_8] at kk; exact kk H g hgs E)
    · refine V_aload_0 dX10_joinGroups_11 ?_
      refine V_getf dX10_joinGroups_12 fl_X10_9 hth.1 rfl ?_
      refine V_iload_3 dX10_joinGroups_15 ?_
      refine V_iald (v := .int (gI gs i)) dX10_joinGroups_16 hgs.1.ra (hgs.2 ▸ inR (n := 8) rfl (by decide) hi0 c_8) rfl ?_
      refine V_iload_2 dX10_joinGroups_17 ?_
      refine V_icmp_ne (tgt := 28) dX10_joinGroups_18 (by decide) (fun c_18 => ?_) (fun c_18 => ?_)
      · refine V_iinc_3 (v := 1) dX10_joinGroups_28 rfl rfl ?_
        refine V_goto (tgt := 2) dX10_joinGroups_31 (by decide) ?_
        exact ih _ _ H g hgs hth E (loop_step c_8 hm) (nn_step c_8 hi0) (by rw [joinGL, if_neg c_8, if_neg c_18] at kk; exact kk)
      · refine V_aload_0 dX10_joinGroups_21 ?_
        refine V_getf dX10_joinGroups_22 fl_X10_9 hth.1 rfl ?_
        refine V_iload_3 dX10_joinGroups_25 ?_
        refine V_iload_1 dX10_joinGroups_26 ?_
        refine V_ias dX10_joinGroups_27 hgs.1 (by decide) (hgs.2 ▸ inR (n := 8) rfl (by decide) hi0 c_8) fun H1 hnew e1 z1 => ?_
        have hj : Ja G H1 g 21 p 0 8 (sI gs i x) := ⟨hnew, sI_len.trans hgs.2⟩
        replace hth := hth.fr e1 (by decide)
        replace E := E.trans (e1.wide (by decide))
        replace hgs := hj
        clear hj hnew
        refine V_iinc_3 (v := 1) dX10_joinGroups_28 rfl rfl ?_
        refine V_goto (tgt := 2) dX10_joinGroups_31 (by decide) ?_
        exact ih _ _ H1 g hgs hth E (loop_step c_8 hm) (nn_step c_8 hi0) (by rw [joinGL, if_neg c_8, if_pos c_18] at kk; exact kk)
set_option maxHeartbeats 1000000 in
set_option maxRecDepth 100000 in
theorem c_joinG {G : GT} {X : String → Heap → Prop} {H : Heap} {g : Nat → Nat} {th p p2 p3 : Nat} {x y : Int32} {gs : List Int32} (hgs : Ja G H g 21 p 0 8 gs) (hth : Rz G H g th 14 [.ref p, .ref p2, .ref p3]) {F : Heap → Prop} (kk : ∀ (H1 : Heap) (g1 : Nat → Nat), Ja G H1 g1 21 p 0 8 (joinG x y gs) → Ext G [21] H g H1 g1 → F H1) : Call G kX10_joinGroups 0 0 0 [.ref th, .int x, .int y] H (qv F) X := by
  have E : Ext G [21] H g H g := Ext.rf
  refine startL (L0 := [some (.ref th), some (.int x), some (.int y), none]) rfl rfl pl_X10_joinGroups (Nat.le_of_ble_eq_true rfl) ?_
  refine V_iconst (v := 0) dX10_joinGroups_0 rfl ?_
  refine V_istore_3 dX10_joinGroups_1 rfl ?_
  exact c_joinGL   8 0 _ H g hgs hth (Ext.rf (ts := [21])) (by decide) (by decide) (by rw [joinG] at kk; exact fun Hz gz hgs_ ez => kk Hz gz hgs_ (E.trans ez))
theorem loop_init1 {n x : Int32} (h : ¬ n ≤ x) (h0 : ¬ x < 0) : n.toInt ≤ (x + 1).toInt + ((n.toNatClampNeg : Nat) : Int) := by
  rw [i_succ h]
  rw [Int32.lt_iff_toInt_lt] at h0
  have h1 : (0 : Int32).toInt = 0 := rfl
  show n.toInt ≤ x.toInt + 1 + ((n.toInt.toNat : Nat) : Int)
  omega
def joinBI (ten : List Int32) (n : Int32) (w : Int32) (x : Int32) : Nat → Int32 → Int32 → List Int32 → Int32 × Int32 × List Int32
  | 0, j, y, gs => (j, y, gs)
  | k + 1, j, y, gs => if n ≤ y then (j, y, gs) else (if (rd ten 64 (x * 8 + y)) = w then (if (grpOf gs x) = (grpOf gs y) then (joinBI ten n w x k j (y + 1) gs) else (joinBI ten n w x k (j + 1) (y + 1) (joinG (grpOf gs x) (grpOf gs y) gs))) else (joinBI ten n w x k j (y + 1) gs))
def joinBL (ten : List Int32) (n : Int32) (w : Int32) : Nat → Int32 → Int32 → List Int32 → Int32 × List Int32
  | 0, j, x, gs => (j, gs)
  | k + 1, j, x, gs => if n ≤ x then (j, gs) else (joinBL ten n w k ((joinBI ten n w x n.toNatClampNeg j (x + 1) gs).1) (x + 1) ((joinBI ten n w x n.toNatClampNeg j (x + 1) gs).2.2))
def joinB2 (ten : List Int32) (n : Int32) (w : Int32) (gs : List Int32) : Int32 × List Int32 := joinBL ten n w n.toNatClampNeg 0 0 gs
set_option maxHeartbeats 1000000 in
set_option maxRecDepth 100000 in
theorem c_joinBI {G : GT} {X : String → Heap → Prop} {H0 : Heap} {g0 : Nat → Nat} {th p p2 p3 : Nat} {bal ten : List Int32} {cs : List CaseC} {ps : List PrecC} {n ch td nx : Int32} {t a : Nat} (ht : t = 0 ∨ t = 10) {w : Int32} {x : Int32} {Q : Option Value → Heap → Prop} {cc ss : Nat} : ∀ (k : Nat) (j : Int32) (y : Int32) (gs : List Int32) (H : Heap) (g : Nat → Nat), Ja G H g 21 p 0 8 gs → MS G H g t a (bal, ten, cs, ps, n, ch, td, nx) → Rz G H g th 14 [.ref p, .ref p2, .ref p3] → Ext G [21] H0 g0 H g → n.toInt ≤ y.toInt + ((k : Nat) : Int) → (∀ (H1 : Heap) (g1 : Nat → Nat), Ja G H1 g1 21 p 0 8 (joinBI ten n w x k j y gs).2.2 → Ext G [21] H0 g0 H1 g1 → V G kX10_joinBonds 2 cc ss Q X 81 [some (.ref th), some (.ref a), some (.int w), some (.int ((joinBI ten n w x k j y gs).1)), some (.int x), some (.int ((joinBI ten n w x k j y gs).2.1))] [] H1) → V G kX10_joinBonds 2 cc ss Q X 20 [some (.ref th), some (.ref a), some (.int w), some (.int j), some (.int x), some (.int y)] [] H := by
  intro k
  induction k with
  | zero =>
    intro j y gs H g hgs h hth E hm kk
    refine V_iload_5 dX10_joinBonds_20 ?_
    refine V_aload_1 dX10_joinBonds_22 ?_
    obtain ⟨hbl, htl, b, k0, u, v, ho, hbal, hten, hcs, hps⟩ := id h
    refine V_getf dX10_joinBonds_23 fl_X10_39 ho.ro rfl ?_
    refine V_icmp_ge (tgt := 81) dX10_joinBonds_26 (by decide) (fun c_26 => ?_) (fun c_26 => ?_)
    · exact (by rw [joinBI] at kk; exact kk H g hgs E)
    · exact absurd (loop_end hm) c_26
  | succ k ih =>
    intro j y gs H g hgs h hth E hm kk
    refine V_iload_5 dX10_joinBonds_20 ?_
    refine V_aload_1 dX10_joinBonds_22 ?_
    obtain ⟨hbl, htl, b, k0, u, v, ho, hbal, hten, hcs, hps⟩ := id h
    refine V_getf dX10_joinBonds_23 fl_X10_39 ho.ro rfl ?_
    refine V_icmp_ge (tgt := 81) dX10_joinBonds_26 (by decide) (fun c_26 => ?_) (fun c_26 => ?_)
    · exact (by rw [joinBI, if_pos c_26] at kk; exact kk H g hgs E)
    · refine V_aload_1 dX10_joinBonds_29 ?_
      refine V_iload_4 dX10_joinBonds_30 ?_
      refine V_iload_5 dX10_joinBonds_32 ?_
      refine V_call_i (runV2 dX10_joinBonds_34 ce_X9_tensionBetween rfl ml_X10_43 im_X9_tensionBetween se_X9_tensionBetween ho.ro ⟨_, rfl, rfl⟩ (Nat.le_of_ble_eq_true rfl)) (by omega) (by omega) (by omega) (c_tensionBetween h x y ?_)
      refine V_iload_2 dX10_joinBonds_37 ?_
      refine V_icmp_ne (tgt := 75) dX10_joinBonds_38 (by decide) (fun c_38 => ?_) (fun c_38 => ?_)
      · refine V_iinc_5 (v := 1) dX10_joinBonds_75 rfl rfl ?_
        refine V_goto (tgt := 20) dX10_joinBonds_78 (by decide) ?_
        exact ih _ _ _ H g hgs h hth E (loop_step c_26 hm)  (by rw [joinBI, if_neg c_26, if_neg c_38] at kk; exact kk)
      · refine V_aload_0 dX10_joinBonds_41 ?_
        refine V_iload_4 dX10_joinBonds_42 ?_
        refine V_call_i (runV1 dX10_joinBonds_44 ce_X10_groupOf rfl ml_X10_35 im_X10_groupOf se_X10_groupOf hth.1 ⟨_, rfl, rfl⟩ (Nat.le_of_ble_eq_true rfl)) (by omega) (by omega) (by omega) (c_grpOf (x := x) hgs hth ?_)
        refine V_aload_0 dX10_joinBonds_47 ?_
        refine V_iload_5 dX10_joinBonds_48 ?_
        refine V_call_i (runV1 dX10_joinBonds_50 ce_X10_groupOf rfl ml_X10_35 im_X10_groupOf se_X10_groupOf hth.1 ⟨_, rfl, rfl⟩ (Nat.le_of_ble_eq_true rfl)) (by omega) (by omega) (by omega) (c_grpOf (x := y) hgs hth ?_)
        refine V_icmp_eq (tgt := 75) dX10_joinBonds_53 (by decide) (fun c_53 => ?_) (fun c_53 => ?_)
        · refine V_iinc_5 (v := 1) dX10_joinBonds_75 rfl rfl ?_
          refine V_goto (tgt := 20) dX10_joinBonds_78 (by decide) ?_
          exact ih _ _ _ H g hgs h hth E (loop_step c_26 hm)  (by rw [joinBI, if_neg c_26, if_pos c_38, if_pos c_53] at kk; exact kk)
        · refine V_aload_0 dX10_joinBonds_56 ?_
          refine V_aload_0 dX10_joinBonds_57 ?_
          refine V_iload_4 dX10_joinBonds_58 ?_
          refine V_call_i (runV1 dX10_joinBonds_60 ce_X10_groupOf rfl ml_X10_35 im_X10_groupOf se_X10_groupOf hth.1 ⟨_, rfl, rfl⟩ (Nat.le_of_ble_eq_true rfl)) (by omega) (by omega) (by omega) (c_grpOf (x := x) hgs hth ?_)
          refine V_aload_0 dX10_joinBonds_63 ?_
          refine V_iload_5 dX10_joinBonds_64 ?_
          refine V_call_i (runV1 dX10_joinBonds_66 ce_X10_groupOf rfl ml_X10_35 im_X10_groupOf se_X10_groupOf hth.1 ⟨_, rfl, rfl⟩ (Nat.le_of_ble_eq_true rfl)) (by omega) (by omega) (by omega) (c_grpOf (x := y) hgs hth ?_)
          refine V_call_v (runV2 dX10_joinBonds_69 ce_X10_joinGroups rfl ml_X10_47 im_X10_joinGroups se_X10_joinGroups hth.1 ⟨_, rfl, rfl⟩ (Nat.le_of_ble_eq_true rfl)) (by omega) (by omega) (by omega) (c_joinG (x := (grpOf gs x)) (y := (grpOf gs y)) hgs hth fun H1 g1 hgs_ e1 => ?_)
          replace h := h.fr e1 (tk_of ht (by decide))
          replace hth := hth.fr e1 (by decide)
          replace E := E.trans (e1.wide (by decide))
          replace hgs : Ja G H1 g1 21 p 0 8 (joinG (grpOf gs x) (grpOf gs y) gs) := hgs_
          clear hgs_
          refine V_iinc_3 (v := 1) dX10_joinBonds_72 rfl rfl ?_
          refine V_iinc_5 (v := 1) dX10_joinBonds_75 rfl rfl ?_
          refine V_goto (tgt := 20) dX10_joinBonds_78 (by decide) ?_
          exact ih _ _ _ H1 g1 hgs h hth E (loop_step c_26 hm)  (by rw [joinBI, if_neg c_26, if_pos c_38, if_neg c_53] at kk; exact kk)
set_option maxHeartbeats 1000000 in
set_option maxRecDepth 100000 in
theorem c_joinBL {G : GT} {X : String → Heap → Prop} {H0 : Heap} {g0 : Nat → Nat} {th p p2 p3 : Nat} {bal ten : List Int32} {cs : List CaseC} {ps : List PrecC} {n ch td nx : Int32} {t a : Nat} (ht : t = 0 ∨ t = 10) {w : Int32} {F : Int32 → Heap → Prop} {cc ss : Nat} : ∀ (k : Nat) (j : Int32) (x : Int32) (gs : List Int32) (H : Heap) (g : Nat → Nat), Ja G H g 21 p 0 8 gs → MS G H g t a (bal, ten, cs, ps, n, ch, td, nx) → Rz G H g th 14 [.ref p, .ref p2, .ref p3] → Ext G [21] H0 g0 H g → n.toInt ≤ x.toInt + ((k : Nat) : Int) → ¬ x < 0 → (∀ (H1 : Heap) (g1 : Nat → Nat), Ja G H1 g1 21 p 0 8 (joinBL ten n w k j x gs).2 → Ext G [21] H0 g0 H1 g1 → F ((joinBL ten n w k j x gs).1) H1) → V G kX10_joinBonds 2 cc ss (qi F) X 5 [some (.ref th), some (.ref a), some (.int w), some (.int j), some (.int x), none] [] H := by
  intro k
  induction k with
  | zero =>
    intro j x gs H g hgs h hth E hm hi0 kk
    refine V_iload_4 dX10_joinBonds_5 ?_
    refine V_aload_1 dX10_joinBonds_7 ?_
    obtain ⟨hbl, htl, b, k0, u, v, ho, hbal, hten, hcs, hps⟩ := id h
    refine V_getf dX10_joinBonds_8 fl_X10_39 ho.ro rfl ?_
    refine V_icmp_ge (tgt := 87) dX10_joinBonds_11 (by decide) (fun c_11 => ?_) (fun c_11 => ?_)
    · refine V_iload_3 dX10_joinBonds_87 ?_
      exact V_reti dX10_joinBonds_88 rfl rfl (by rw [joinBL] at kk; exact kk H g hgs E)
    · exact absurd (loop_end hm) c_11
  | succ k ih =>
    intro j x gs H g hgs h hth E hm hi0 kk
    refine V_iload_4 dX10_joinBonds_5 ?_
    refine V_aload_1 dX10_joinBonds_7 ?_
    obtain ⟨hbl, htl, b, k0, u, v, ho, hbal, hten, hcs, hps⟩ := id h
    refine V_getf dX10_joinBonds_8 fl_X10_39 ho.ro rfl ?_
    refine V_icmp_ge (tgt := 87) dX10_joinBonds_11 (by decide) (fun c_11 => ?_) (fun c_11 => ?_)
    · refine V_iload_3 dX10_joinBonds_87 ?_
      exact V_reti dX10_joinBonds_88 rfl rfl (by rw [joinBL, if_pos c_11] at kk; exact kk H g hgs E)
    · refine V_iload_4 dX10_joinBonds_14 ?_
      refine V_iconst (v := 1) dX10_joinBonds_16 rfl ?_
      refine V_iadd dX10_joinBonds_17 ?_
      refine V_istore_5 dX10_joinBonds_18 rfl ?_
      refine c_joinBI (x := x) ht  n.toNatClampNeg j (x + 1) _ H g hgs h hth (Ext.rf (ts := [21])) (loop_init1 c_11 hi0)  fun H1 g1 hgs_ e1 => ?_
      refine V_drop 5 rfl ?_
      replace h := h.fr e1 (tk_of ht (by decide))
      replace hth := hth.fr e1 (by decide)
      replace E := E.trans (e1.wide (by decide))
      replace hgs := hgs_
      clear hgs_
      refine V_iinc_4 (v := 1) dX10_joinBonds_81 rfl rfl ?_
      refine V_goto (tgt := 5) dX10_joinBonds_84 (by decide) ?_
      exact ih _ _ _ H1 g1 hgs h hth E (loop_step c_11 hm) (nn_step c_11 hi0) (by rw [joinBL, if_neg c_11] at kk; exact kk)
set_option maxHeartbeats 1000000 in
set_option maxRecDepth 100000 in
theorem c_joinB2 {G : GT} {X : String → Heap → Prop} {H : Heap} {g : Nat → Nat} {th p p2 p3 : Nat} {bal ten : List Int32} {cs : List CaseC} {ps : List PrecC} {n ch td nx : Int32} {t a : Nat} (ht : t = 0 ∨ t = 10) {w : Int32} {gs : List Int32} (hgs : Ja G H g 21 p 0 8 gs) (h : MS G H g t a (bal, ten, cs, ps, n, ch, td, nx)) (hth : Rz G H g th 14 [.ref p, .ref p2, .ref p3]) {F : Int32 → Heap → Prop} (kk : ∀ (H1 : Heap) (g1 : Nat → Nat), Ja G H1 g1 21 p 0 8 (joinB2 ten n w gs).2 → Ext G [21] H g H1 g1 → F ((joinB2 ten n w gs).1) H1) : Call G kX10_joinBonds 2 0 0 [.ref th, .ref a, .int w] H (qi F) X := by
  have E : Ext G [21] H g H g := Ext.rf
  refine startL (L0 := [some (.ref th), some (.ref a), some (.int w), none, none, none]) rfl rfl pl_X10_joinBonds (Nat.le_of_ble_eq_true rfl) ?_
  refine V_iconst (v := 0) dX10_joinBonds_0 rfl ?_
  refine V_istore_3 dX10_joinBonds_1 rfl ?_
  refine V_iconst (v := 0) dX10_joinBonds_2 rfl ?_
  refine V_istore_4 dX10_joinBonds_3 rfl ?_
  exact c_joinBL ht  n.toNatClampNeg 0 0 _ H g hgs h hth (Ext.rf (ts := [21])) loop_init (by decide) (by rw [joinB2] at kk; exact fun Hz gz hgs_ ez => kk Hz gz hgs_ (E.trans ez))
def strainL (ten : List Int32) (n : Int32) (x : Int32) (y : Int32) : Nat → Int32 → List Int32 → Int32 × List Int32
  | 0, i, gs => (25, gs)
  | k + 1, i, gs => if 20 < i then (25, gs) else (if (grpOf ((joinB2 ten n i gs).2) x) = (grpOf ((joinB2 ten n i gs).2) y) then (i, (joinB2 ten n i gs).2) else (strainL ten n x y k (i + 1) ((joinB2 ten n i gs).2)))
def strainJ (ten : List Int32) (n : Int32) (x : Int32) (y : Int32) (gs : List Int32) : Int32 × List Int32 := if (b2i (hasB n x)) = 0 then (25, gs) else (if (b2i (hasB n y)) = 0 then (25, gs) else (strainL ten n x y 20 1 (sepAll gs)))
set_option maxHeartbeats 1000000 in
set_option maxRecDepth 100000 in
theorem c_strainL {G : GT} {X : String → Heap → Prop} {H0 : Heap} {g0 : Nat → Nat} {th p p2 p3 : Nat} {bal ten : List Int32} {cs : List CaseC} {ps : List PrecC} {n ch td nx : Int32} {t a : Nat} (ht : t = 0 ∨ t = 10) {x y : Int32} {F : Int32 → Heap → Prop} {cc ss : Nat} : ∀ (k : Nat) (i : Int32) (gs : List Int32) (H : Heap) (g : Nat → Nat), Ja G H g 21 p 0 8 gs → MS G H g t a (bal, ten, cs, ps, n, ch, td, nx) → Rz G H g th 14 [.ref p, .ref p2, .ref p3] → Ext G [21] H0 g0 H g → (20 : Int32).toInt < i.toInt + ((k : Nat) : Int) → (∀ (H1 : Heap) (g1 : Nat → Nat), Ja G H1 g1 21 p 0 8 (strainL ten n x y k i gs).2 → Ext G [21] H0 g0 H1 g1 → F ((strainL ten n x y k i gs).1) H1) → V G kX10_strainByJoining 3 cc ss (qi F) X 26 [some (.ref th), some (.ref a), some (.int x), some (.int y), some (.int i)] [] H := by
  intro k
  induction k with
  | zero =>
    intro i gs H g hgs h hth E hm kk
    refine V_iload_4 dX10_strainByJoining_26 ?_
    refine V_bipush (v := 20) dX10_strainByJoining_28 (by decide) ?_
    refine V_icmp_gt (tgt := 63) dX10_strainByJoining_30 (by decide) (fun c_30 => ?_) (fun c_30 => ?_)
    · refine V_bipush (v := 25) dX10_strainByJoining_63 (by decide) ?_
      exact V_reti dX10_strainByJoining_65 rfl rfl (by rw [strainL] at kk; exact kk H g hgs E)
    · exact absurd (loop_endL hm) c_30
  | succ k ih =>
    intro i gs H g hgs h hth E hm kk
    refine V_iload_4 dX10_strainByJoining_26 ?_
    refine V_bipush (v := 20) dX10_strainByJoining_28 (by decide) ?_
    refine V_icmp_gt (tgt := 63) dX10_strainByJoining_30 (by decide) (fun c_30 => ?_) (fun c_30 => ?_)
    · refine V_bipush (v := 25) dX10_strainByJoining_63 (by decide) ?_
      exact V_reti dX10_strainByJoining_65 rfl rfl (by rw [strainL, if_pos c_30] at kk; exact kk H g hgs E)
    · refine V_aload_0 dX10_strainByJoining_33 ?_
      refine V_aload_1 dX10_strainByJoining_34 ?_
      refine V_iload_4 dX10_strainByJoining_35 ?_
      refine V_call_i (runV2 dX10_strainByJoining_37 ce_X10_joinBonds rfl ml_X10_31 im_X10_joinBonds se_X10_joinBonds hth.1 ⟨_, rfl, rfl⟩ (Nat.le_of_ble_eq_true rfl)) (by omega) (by omega) (by omega) (c_joinB2 (w := i) ht hgs h hth fun H1 g1 hgs_ e1 => ?_)
      replace h := h.fr e1 (tk_of ht (by decide))
      replace hth := hth.fr e1 (by decide)
      replace E := E.trans (e1.wide (by decide))
      replace hgs : Ja G H1 g1 21 p 0 8 ((joinB2 ten n i gs).2) := hgs_
      clear hgs_
      refine V_pop dX10_strainByJoining_40 rfl ?_
      refine V_aload_0 dX10_strainByJoining_41 ?_
      refine V_iload_2 dX10_strainByJoining_42 ?_
      refine V_call_i (runV1 dX10_strainByJoining_43 ce_X10_groupOf rfl ml_X10_35 im_X10_groupOf se_X10_groupOf hth.1 ⟨_, rfl, rfl⟩ (Nat.le_of_ble_eq_true rfl)) (by omega) (by omega) (by omega) (c_grpOf (x := x) hgs hth ?_)
      refine V_aload_0 dX10_strainByJoining_46 ?_
      refine V_iload_3 dX10_strainByJoining_47 ?_
      refine V_call_i (runV1 dX10_strainByJoining_48 ce_X10_groupOf rfl ml_X10_35 im_X10_groupOf se_X10_groupOf hth.1 ⟨_, rfl, rfl⟩ (Nat.le_of_ble_eq_true rfl)) (by omega) (by omega) (by omega) (c_grpOf (x := y) hgs hth ?_)
      refine V_icmp_ne (tgt := 57) dX10_strainByJoining_51 (by decide) (fun c_51 => ?_) (fun c_51 => ?_)
      · refine V_iinc_4 (v := 1) dX10_strainByJoining_57 rfl rfl ?_
        refine V_goto (tgt := 26) dX10_strainByJoining_60 (by decide) ?_
        exact ih _ _ H1 g1 hgs h hth E (step20 c_30 hm)  (by rw [strainL, if_neg c_30, if_neg c_51] at kk; exact kk)
      · refine V_iload_4 dX10_strainByJoining_54 ?_
        exact V_reti dX10_strainByJoining_56 rfl rfl (by rw [strainL, if_neg c_30, if_pos c_51] at kk; exact kk H1 g1 hgs E)
set_option maxHeartbeats 1000000 in
set_option maxRecDepth 100000 in
theorem c_strainJ {G : GT} {X : String → Heap → Prop} {H : Heap} {g : Nat → Nat} {th p p2 p3 : Nat} {bal ten : List Int32} {cs : List CaseC} {ps : List PrecC} {n ch td nx : Int32} {t a : Nat} (ht : t = 0 ∨ t = 10) {x y : Int32} {gs : List Int32} (hgs : Ja G H g 21 p 0 8 gs) (h : MS G H g t a (bal, ten, cs, ps, n, ch, td, nx)) (hth : Rz G H g th 14 [.ref p, .ref p2, .ref p3]) {F : Int32 → Heap → Prop} (kk : ∀ (H1 : Heap) (g1 : Nat → Nat), Ja G H1 g1 21 p 0 8 (strainJ ten n x y gs).2 → Ext G [21] H g H1 g1 → F ((strainJ ten n x y gs).1) H1) : Call G kX10_strainByJoining 3 0 0 [.ref th, .ref a, .int x, .int y] H (qi F) X := by
  have E : Ext G [21] H g H g := Ext.rf
  refine startL (L0 := [some (.ref th), some (.ref a), some (.int x), some (.int y), none]) rfl rfl pl_X10_strainByJoining (Nat.le_of_ble_eq_true rfl) ?_
  refine V_aload_1 dX10_strainByJoining_0 ?_
  refine V_iload_2 dX10_strainByJoining_1 ?_
  obtain ⟨hbl, htl, b, k0, u, v, ho, hbal, hten, hcs, hps⟩ := id h
  refine V_call_i (runV1 dX10_strainByJoining_2 ce_X9_hasButton rfl ml_X10_22 im_X9_hasButton se_X9_hasButton ho.ro ⟨_, rfl, rfl⟩ (Nat.le_of_ble_eq_true rfl)) (by omega) (by omega) (by omega) (c_hasButton h x ?_)
  refine V_if_eq (tgt := 16) dX10_strainByJoining_5 (by decide) (fun c_5 => ?_) (fun c_5 => ?_)
  · refine V_bipush (v := 25) dX10_strainByJoining_16 (by decide) ?_
    exact V_reti dX10_strainByJoining_18 rfl rfl (by rw [strainJ, if_pos c_5] at kk; exact kk H g hgs E)
  · refine V_aload_1 dX10_strainByJoining_8 ?_
    refine V_iload_3 dX10_strainByJoining_9 ?_
    refine V_call_i (runV1 dX10_strainByJoining_10 ce_X9_hasButton rfl ml_X10_22 im_X9_hasButton se_X9_hasButton ho.ro ⟨_, rfl, rfl⟩ (Nat.le_of_ble_eq_true rfl)) (by omega) (by omega) (by omega) (c_hasButton h y ?_)
    refine V_if_ne (tgt := 19) dX10_strainByJoining_13 (by decide) (fun c_13 => ?_) (fun c_13 => ?_)
    · refine V_aload_0 dX10_strainByJoining_19 ?_
      refine V_call_v (runV0 dX10_strainByJoining_20 ce_X10_separateAll rfl ml_X10_28 im_X10_separateAll se_X10_separateAll hth.1 ⟨_, rfl, rfl⟩ (Nat.le_of_ble_eq_true rfl)) (by omega) (by omega) (by omega) (c_sepAll hgs hth fun H1 g1 hgs_ e1 => ?_)
      replace h := h.fr e1 (tk_of ht (by decide))
      replace hth := hth.fr e1 (by decide)
      replace E := E.trans (e1.wide (by decide))
      replace hgs : Ja G H1 g1 21 p 0 8 (sepAll gs) := hgs_
      clear hgs_
      refine V_iconst (v := 1) dX10_strainByJoining_23 rfl ?_
      refine V_istore_4 dX10_strainByJoining_24 rfl ?_
      exact c_strainL ht  20 1 _ H1 g1 hgs h hth (Ext.rf (ts := [21])) (by decide)  (by rw [strainJ, if_neg c_5, if_neg c_13] at kk; exact fun Hz gz hgs_ ez => kk Hz gz hgs_ (E.trans ez))
    · refine V_bipush (v := 25) dX10_strainByJoining_16 (by decide) ?_
      exact V_reti dX10_strainByJoining_18 rfl rfl (by rw [strainJ, if_neg c_5, if_pos c_13] at kk; exact kk H g hgs E)
def forestL (ten : List Int32) (n : Int32) : Nat → Int32 → Int32 → List Int32 → Int32 × List Int32
  | 0, s, i, gs => (s, gs)
  | k + 1, s, i, gs => if 20 < i then (s, gs) else (forestL ten n k (s + (i * ((joinB2 ten n i gs).1))) (i + 1) ((joinB2 ten n i gs).2))
def forestJ (ten : List Int32) (n : Int32) (gs : List Int32) : Int32 × List Int32 := forestL ten n 20 0 1 (sepAll gs)
set_option maxHeartbeats 1000000 in
set_option maxRecDepth 100000 in
theorem c_forestL {G : GT} {X : String → Heap → Prop} {H0 : Heap} {g0 : Nat → Nat} {th p p2 p3 : Nat} {bal ten : List Int32} {cs : List CaseC} {ps : List PrecC} {n ch td nx : Int32} {t a : Nat} (ht : t = 0 ∨ t = 10) {F : Int32 → Heap → Prop} {cc ss : Nat} : ∀ (k : Nat) (s : Int32) (i : Int32) (gs : List Int32) (H : Heap) (g : Nat → Nat), Ja G H g 21 p 0 8 gs → MS G H g t a (bal, ten, cs, ps, n, ch, td, nx) → Rz G H g th 14 [.ref p, .ref p2, .ref p3] → Ext G [21] H0 g0 H g → (20 : Int32).toInt < i.toInt + ((k : Nat) : Int) → (∀ (H1 : Heap) (g1 : Nat → Nat), Ja G H1 g1 21 p 0 8 (forestL ten n k s i gs).2 → Ext G [21] H0 g0 H1 g1 → F ((forestL ten n k s i gs).1) H1) → V G kX10_forestByJoining 3 cc ss (qi F) X 8 [some (.ref th), some (.ref a), some (.int s), some (.int i)] [] H := by
  intro k
  induction k with
  | zero =>
    intro s i gs H g hgs h hth E hm kk
    refine V_iload_3 dX10_forestByJoining_8 ?_
    refine V_bipush (v := 20) dX10_forestByJoining_9 (by decide) ?_
    refine V_icmp_gt (tgt := 31) dX10_forestByJoining_11 (by decide) (fun c_11 => ?_) (fun c_11 => ?_)
    · refine V_iload_2 dX10_forestByJoining_31 ?_
      exact V_reti dX10_forestByJoining_32 rfl rfl (by rw [forestL] at kk; exact kk H g hgs E)
    · exact absurd (loop_endL hm) c_11
  | succ k ih =>
    intro s i gs H g hgs h hth E hm kk
    refine V_iload_3 dX10_forestByJoining_8 ?_
    refine V_bipush (v := 20) dX10_forestByJoining_9 (by decide) ?_
    refine V_icmp_gt (tgt := 31) dX10_forestByJoining_11 (by decide) (fun c_11 => ?_) (fun c_11 => ?_)
    · refine V_iload_2 dX10_forestByJoining_31 ?_
      exact V_reti dX10_forestByJoining_32 rfl rfl (by rw [forestL, if_pos c_11] at kk; exact kk H g hgs E)
    · refine V_iload_2 dX10_forestByJoining_14 ?_
      refine V_iload_3 dX10_forestByJoining_15 ?_
      refine V_aload_0 dX10_forestByJoining_16 ?_
      refine V_aload_1 dX10_forestByJoining_17 ?_
      refine V_iload_3 dX10_forestByJoining_18 ?_
      refine V_call_i (runV2 dX10_forestByJoining_19 ce_X10_joinBonds rfl ml_X10_31 im_X10_joinBonds se_X10_joinBonds hth.1 ⟨_, rfl, rfl⟩ (Nat.le_of_ble_eq_true rfl)) (by omega) (by omega) (by omega) (c_joinB2 (w := i) ht hgs h hth fun H1 g1 hgs_ e1 => ?_)
      replace h := h.fr e1 (tk_of ht (by decide))
      replace hth := hth.fr e1 (by decide)
      replace E := E.trans (e1.wide (by decide))
      replace hgs : Ja G H1 g1 21 p 0 8 ((joinB2 ten n i gs).2) := hgs_
      clear hgs_
      refine V_imul dX10_forestByJoining_22 ?_
      refine V_iadd dX10_forestByJoining_23 ?_
      refine V_istore_2 dX10_forestByJoining_24 rfl ?_
      refine V_iinc_3 (v := 1) dX10_forestByJoining_25 rfl rfl ?_
      refine V_goto (tgt := 8) dX10_forestByJoining_28 (by decide) ?_
      exact ih _ _ _ H1 g1 hgs h hth E (step20 c_11 hm)  (by rw [forestL, if_neg c_11] at kk; exact kk)
set_option maxHeartbeats 1000000 in
set_option maxRecDepth 100000 in
theorem c_forestJ {G : GT} {X : String → Heap → Prop} {H : Heap} {g : Nat → Nat} {th p p2 p3 : Nat} {bal ten : List Int32} {cs : List CaseC} {ps : List PrecC} {n ch td nx : Int32} {t a : Nat} (ht : t = 0 ∨ t = 10) {gs : List Int32} (hgs : Ja G H g 21 p 0 8 gs) (h : MS G H g t a (bal, ten, cs, ps, n, ch, td, nx)) (hth : Rz G H g th 14 [.ref p, .ref p2, .ref p3]) {F : Int32 → Heap → Prop} (kk : ∀ (H1 : Heap) (g1 : Nat → Nat), Ja G H1 g1 21 p 0 8 (forestJ ten n gs).2 → Ext G [21] H g H1 g1 → F ((forestJ ten n gs).1) H1) : Call G kX10_forestByJoining 3 0 0 [.ref th, .ref a] H (qi F) X := by
  have E : Ext G [21] H g H g := Ext.rf
  refine startL (L0 := [some (.ref th), some (.ref a), none, none]) rfl rfl pl_X10_forestByJoining (Nat.le_of_ble_eq_true rfl) ?_
  refine V_aload_0 dX10_forestByJoining_0 ?_
  refine V_call_v (runV0 dX10_forestByJoining_1 ce_X10_separateAll rfl ml_X10_28 im_X10_separateAll se_X10_separateAll hth.1 ⟨_, rfl, rfl⟩ (Nat.le_of_ble_eq_true rfl)) (by omega) (by omega) (by omega) (c_sepAll hgs hth fun H1 g1 hgs_ e1 => ?_)
  replace h := h.fr e1 (tk_of ht (by decide))
  replace hth := hth.fr e1 (by decide)
  replace E := E.trans (e1.wide (by decide))
  replace hgs : Ja G H1 g1 21 p 0 8 (sepAll gs) := hgs_
  clear hgs_
  refine V_iconst (v := 0) dX10_forestByJoining_4 rfl ?_
  refine V_istore_2 dX10_forestByJoining_5 rfl ?_
  refine V_iconst (v := 1) dX10_forestByJoining_6 rfl ?_
  refine V_istore_3 dX10_forestByJoining_7 rfl ?_
  exact c_forestL ht  20 0 1 _ H1 g1 hgs h hth (Ext.rf (ts := [21])) (by decide)  (by rw [forestJ] at kk; exact fun Hz gz hgs_ ez => kk Hz gz hgs_ (E.trans ez))

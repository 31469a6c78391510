/-- a row of numbers of a fixed length -/
def Ja (G : GT) (H : Heap) (g : Nat → Nat) (t p k n : Nat) (v : List Int32) : Prop := Ia G H g t p k v ∧ v.length = n
theorem Ja.fr {G : GT} {H H1 : Heap} {g g1 : Nat → Nat} {ts : List Nat} {t p k n : Nat} {v : List Int32} (h : Ja G H g t p k n v) (e : Ext G ts H g H1 g1) (ht : t ∉ ts) : Ja G H1 g1 t p k n v := ⟨h.1.fr e ht, h.2⟩
theorem tk_of {t : Nat} {ts : List Nat} (ht : t = 0 ∨ t = 10) (h : 0 ∉ ts ∧ 10 ∉ ts ∧ 11 ∉ ts ∧ 12 ∉ ts ∧ 13 ∉ ts ∧ 14 ∉ ts) : tkn t ts := by
  obtain ⟨h0, h1, h2, h3, h4, h5⟩ := h
  rcases ht with rfl | rfl
  · exact tkn0 h0
  · refine ⟨h0, fun k hk => ?_⟩
    have : k = 0 ∨ k = 1 ∨ k = 2 ∨ k = 3 ∨ k = 4 := by omega
    rcases this with rfl | rfl | rfl | rfl | rfl <;> assumption
theorem loop_endL {n i : Int32} (h : n.toInt < i.toInt + ((0 : Nat) : Int)) : n < i := Int32.lt_iff_toInt_lt.mpr (by omega)
theorem loop_stepL {n i : Int32} {k : Nat} (h : ¬ n < i) (hm : n.toInt < i.toInt + ((k + 1 : Nat) : Int)) (hb : n.toInt < 2147483647) : n.toInt < (i + 1).toInt + (k : Int) := by
  have h1 : i.toInt ≤ n.toInt := Int32.le_iff_toInt_le.mp (Int32.not_lt.mp h)
  have h3 : -(2 ^ 31) ≤ i.toInt := Int32.le_toInt i
  have h4 : (i + 1).toInt = i.toInt + 1 := by
    rw [Int32.toInt_add, show (1 : Int32).toInt = 1 from rfl]
    exact Int.bmod_eq_of_le (by omega) (by omega)
  rw [h4]; omega
theorem step20 {i : Int32} {k : Nat} (h : ¬ 20 < i) (hm : (20 : Int32).toInt < i.toInt + ((k + 1 : Nat) : Int)) : (20 : Int32).toInt < (i + 1).toInt + (k : Int) := loop_stepL h hm (by decide)
def grpOf (gs : List Int32) (x : Int32)  : Int32 := if x < 0 then (-1) else (if 8 ≤ x then (-1) else (gI gs x))
set_option maxHeartbeats 4000000 in
set_option maxRecDepth 100000 in
theorem c_grpOf {G : GT} {X : String → Heap → Prop} {H : Heap} {g : Nat → Nat} {th p p2 p3 : Nat} {gs : List Int32} {x : Int32}   (hgs : Ja G H g 21 p 0 8 gs) (hth : Rz G H g th 14 [.ref p, .ref p2, .ref p3]) {F : Int32 → Heap → Prop} (kk : F (grpOf gs x) H) : Call G kX10_groupOf 0 0 0 [.ref th, .int x] H (qi F) X := by
  refine startL (L0 := [some (.ref th), some (.int x)]) rfl rfl pl_X10_groupOf (Nat.le_of_ble_eq_true rfl) ?_
  refine V_iload_1 dX10_groupOf_0 ?_
  refine V_if_lt (tgt := 22) dX10_groupOf_1 (by decide) (fun c_1 => ?_) (fun c_1 => ?_)
  · refine V_iconst (v := (-1)) dX10_groupOf_22 rfl ?_
    exact V_reti dX10_groupOf_23 rfl rfl (by rw [grpOf, if_pos c_1] at kk; exact kk )
  · refine V_iload_1 dX10_groupOf_4 ?_
    refine V_aload_0 dX10_groupOf_5 ?_
    refine V_getf dX10_groupOf_6 fl_X10_9 hth.1 rfl ?_
    refine V_alen (v := 8) dX10_groupOf_9 hgs.1.ra (by rw [hgs.2]; rfl) ?_
    refine V_icmp_ge (tgt := 22) dX10_groupOf_10 (by decide) (fun c_10 => ?_) (fun c_10 => ?_)
    · refine V_iconst (v := (-1)) dX10_groupOf_22 rfl ?_
      exact V_reti dX10_groupOf_23 rfl rfl (by rw [grpOf, if_neg c_1, if_pos c_10] at kk; exact kk )
    · refine V_aload_0 dX10_groupOf_13 ?_
      refine V_getf dX10_groupOf_14 fl_X10_9 hth.1 rfl ?_
      refine V_iload_1 dX10_groupOf_17 ?_
      refine V_iald (v := .int (gI gs x)) dX10_groupOf_18 hgs.1.ra (hgs.2 ▸ inR (n := 8) rfl (by decide) c_1 c_10) rfl ?_
      refine V_goto (tgt := 23) dX10_groupOf_19 (by decide) ?_
      exact V_reti dX10_groupOf_23 rfl rfl (by rw [grpOf, if_neg c_1, if_neg c_10] at kk; exact kk )
def sepAllL  : Nat → Int32 → List Int32 → List Int32
  | 0, i, gs => gs
  | k + 1, i, gs => if 8 ≤ i then gs else (sepAllL k (i + 1) (sI gs i i))
def sepAll  (gs : List Int32) : List Int32 := sepAllL 8 0 gs
set_option maxHeartbeats 4000000 in
set_option maxRecDepth 100000 in
theorem c_sepAllL {G : GT} {X : String → Heap → Prop} {H0 : Heap} {g0 : Nat → Nat} {th p p2 p3 : Nat} {F : Heap → Prop} : ∀ (k : Nat) (i : Int32) (gs : List Int32) (H : Heap) (g : Nat → Nat), Ja G H g 21 p 0 8 gs → Rz G H g th 14 [.ref p, .ref p2, .ref p3] → Ext G [21] H0 g0 H g → (8 : Int32).toInt ≤ i.toInt + ((k : Nat) : Int) → ¬ i < 0 → (∀ (H1 : Heap) (g1 : Nat → Nat), Ja G H1 g1 21 p 0 8 (sepAllL k i gs) → Ext G [21] H0 g0 H1 g1 → F H1) → V G kX10_separateAll 0 0 0 (qv F) X 2 [some (.ref th), some (.int i)] [] H := by
  intro k
  induction k with
  | zero =>
    intro i gs H g hgs hth E hm hi0 kk
    refine V_iload_1 dX10_separateAll_2 ?_
    refine V_aload_0 dX10_separateAll_3 ?_
    refine V_getf dX10_separateAll_4 fl_X10_9 hth.1 rfl ?_
    refine V_alen (v := 8) dX10_separateAll_7 hgs.1.ra (by rw [hgs.2]; rfl) ?_
    refine V_icmp_ge (tgt := 24) dX10_separateAll_8 (by decide) (fun c_8 => ?_) (fun c_8 => ?_)
    · exact V_retv dX10_separateAll_24 rfl (by rw [sepAllL] at kk; exact kk H g hgs E)
    · exact absurd (loop_end hm) c_8
  | succ k ih =>
    intro i gs H g hgs hth E hm hi0 kk
    refine V_iload_1 dX10_separateAll_2 ?_
    refine V_aload_0 dX10_separateAll_3 ?_
    refine V_getf dX10_separateAll_4 fl_X10_9 hth.1 rfl ?_
    refine V_alen (v := 8) dX10_separateAll_7 hgs.1.ra (by rw [hgs.2]; rfl) ?_
    refine V_icmp_ge (tgt := 24) dX10_separateAll_8 (by decide) (fun c_8 => ?_) (fun c_8 => ?_)
    · exact V_retv dX10_separateAll_24 rfl (by rw [sepAllL, if_pos c_8] at kk; exact kk H g hgs E)
    · refine V_aload_0 dX10_separateAll_11 ?_
      refine V_getf dX10_separateAll_12 fl_X10_9 hth.1 rfl ?_
      refine V_iload_1 dX10_separateAll_15 ?_
      refine V_iload_1 dX10_separateAll_16 ?_
      refine V_ias dX10_separateAll_17 hgs.1 (by decide) (hgs.2 ▸ inR (n := 8) rfl (by decide) hi0 c_8) fun H1 hnew e1 z1 => ?_
      have hj : Ja G H1 g 21 p 0 8 (sI gs i i) := ⟨hnew, sI_len.trans hgs.2⟩
      replace hth := hth.fr e1 (by decide)
      replace E := E.trans (e1.wide (by decide))
      replace hgs := hj
      clear hj hnew
      refine V_iinc_1 (v := 1) dX10_separateAll_18 rfl rfl ?_
      refine V_goto (tgt := 2) dX10_separateAll_21 (by decide) ?_
      exact ih _ _ H1 g hgs hth E (loop_step c_8 hm) (nn_step c_8 hi0) (by rw [sepAllL, if_neg c_8] at kk; exact kk)
set_option maxHeartbeats 4000000 in
set_option maxRecDepth 100000 in
theorem c_sepAll {G : GT} {X : String → Heap → Prop} {H : Heap} {g : Nat → Nat} {th p p2 p3 : Nat} {gs : List Int32} (hgs : Ja G H g 21 p 0 8 gs) (hth : Rz G H g th 14 [.ref p, .ref p2, .ref p3]) {F : Heap → Prop} (kk : ∀ (H1 : Heap) (g1 : Nat → Nat), Ja G H1 g1 21 p 0 8 (sepAll gs) → Ext G [21] H g H1 g1 → F H1) : Call G kX10_separateAll 0 0 0 [.ref th] H (qv F) X := by
  have E : Ext G [21] H g H g := Ext.rf
  refine startL (L0 := [some (.ref th), none]) rfl rfl pl_X10_separateAll (Nat.le_of_ble_eq_true rfl) ?_
  refine V_iconst (v := 0) dX10_separateAll_0 rfl ?_
  refine V_istore_1 dX10_separateAll_1 rfl ?_
  exact c_sepAllL  8 _ _ H g hgs hth (Ext.rf (ts := [21])) (by decide) (by decide) (by rw [sepAll] at kk; exact fun Hz gz hgs_ ez => kk Hz gz hgs_ (E.trans ez))
def joinGL (x : Int32) (y : Int32) : Nat → Int32 → List Int32 → List Int32
  | 0, i, gs => gs
  | k + 1, i, gs => if 8 ≤ i then gs else (if (gI gs i) = y then (joinGL x y k (i + 1) (sI gs i x)) else (joinGL x y k (i + 1) gs))
def joinG (x : Int32) (y : Int32) (gs : List Int32) : List Int32 := joinGL x y 8 0 gs
set_option maxHeartbeats 4000000 in
set_option maxRecDepth 100000 in
theorem c_joinGL {G : GT} {X : String → Heap → Prop} {H0 : Heap} {g0 : Nat → Nat} {th p p2 p3 : Nat} {x y : Int32} {F : Heap → Prop} : ∀ (k : Nat) (i : Int32) (gs : List Int32) (H : Heap) (g : Nat → Nat), Ja G H g 21 p 0 8 gs → Rz G H g th 14 [.ref p, .ref p2, .ref p3] → Ext G [21] H0 g0 H g → (8 : Int32).toInt ≤ i.toInt + ((k : Nat) : Int) → ¬ i < 0 → (∀ (H1 : Heap) (g1 : Nat → Nat), Ja G H1 g1 21 p 0 8 (joinGL x y k i gs) → Ext G [21] H0 g0 H1 g1 → F H1) → V G kX10_joinGroups 0 0 0 (qv F) X 2 [some (.ref th), some (.int x), some (.int y), some (.int i)] [] H := by
  intro k
  induction k with
  | zero =>
    intro i gs H g hgs hth E hm hi0 kk
    refine V_iload_3 dX10_joinGroups_2 ?_
    refine V_aload_0 dX10_joinGroups_3 ?_
    refine V_getf dX10_joinGroups_4 fl_X10_9 hth.1 rfl ?_
    refine V_alen (v := 8) dX10_joinGroups_7 hgs.1.ra (by rw [hgs.2]; rfl) ?_
    refine V_icmp_ge (tgt := 34) dX10_joinGroups_8 (by decide) (fun c_8 => ?_) (fun c_8 => ?_)
    · exact V_retv dX10_joinGroups_34 rfl (by rw [joinGL] at kk; exact kk H g hgs E)
    · exact absurd (loop_end hm) c_8
  | succ k ih =>
    intro i gs H g hgs hth E hm hi0 kk
    refine V_iload_3 dX10_joinGroups_2 ?_
    refine V_aload_0 dX10_joinGroups_3 ?_
    refine V_getf dX10_joinGroups_4 fl_X10_9 hth.1 rfl ?_
    refine V_alen (v := 8) dX10_joinGroups_7 hgs.1.ra (by rw [hgs.2]; rfl) ?_
    refine V_icmp_ge (tgt := 34) dX10_joinGroups_8 (by decide) (fun c_8 => ?_) (fun c_8 => ?_)
    · exact V_retv dX10_joinGroups_34 rfl (by rw [joinGL, if_pos c_8] at kk; exact kk H g hgs E)
    · refine V_aload_0 dX10_joinGroups_11 ?_
      refine V_getf dX10_joinGroups_12 fl_X10_9 hth.1 rfl ?_
      refine V_iload_3 dX10_joinGroups_15 ?_
      refine V_iald (v := .int (gI gs i)) dX10_joinGroups_16 hgs.1.ra (hgs.2 ▸ inR (n := 8) rfl (by decide) hi0 c_8) rfl ?_
      refine V_iload_2 dX10_joinGroups_17 ?_
      refine V_icmp_ne (tgt := 28) dX10_joinGroups_18 (by decide) (fun c_18 => ?_) (fun c_18 => ?_)
      · refine V_iinc_3 (v := 1) dX10_joinGroups_28 rfl rfl ?_
        refine V_goto (tgt := 2) dX10_joinGroups_31 (by decide) ?_
        exact ih _ _ H g hgs hth E (loop_step c_8 hm) (nn_step c_8 hi0) (by rw [joinGL, if_neg c_8, if_neg c_18] at kk; exact kk)
      · refine V_aload_0 dX10_joinGroups_21 ?_
        refine V_getf dX10_joinGroups_22 fl_X10_9 hth.1 rfl ?_
        refine V_iload_3 dX10_joinGroups_25 ?_
        refine V_iload_1 dX10_joinGroups_26 ?_
        refine V_ias dX10_joinGroups_27 hgs.1 (by decide) (hgs.2 ▸ inR (n := 8) rfl (by decide) hi0 c_8) fun H1 hnew e1 z1 => ?_
        have hj : Ja G H1 g 21 p 0 8 (sI gs i x) := ⟨hnew, sI_len.trans hgs.2⟩
        replace hth := hth.fr e1 (by decide)
        replace E := E.trans (e1.wide (by decide))
        replace hgs := hj
        clear hj hnew
        refine V_iinc_3 (v := 1) dX10_joinGroups_28 rfl rfl ?_
        refine V_goto (tgt := 2) dX10_joinGroups_31 (by decide) ?_
        exact ih _ _ H1 g hgs hth E (loop_step c_8 hm) (nn_step c_8 hi0) (by rw [joinGL, if_neg c_8, if_pos c_18] at kk; exact kk)
set_option maxHeartbeats 4000000 in
set_option maxRecDepth 100000 in
theorem c_joinG {G : GT} {X : String → Heap → Prop} {H : Heap} {g : Nat → Nat} {th p p2 p3 : Nat} {x y : Int32} {gs : List Int32} (hgs : Ja G H g 21 p 0 8 gs) (hth : Rz G H g th 14 [.ref p, .ref p2, .ref p3]) {F : Heap → Prop} (kk : ∀ (H1 : Heap) (g1 : Nat → Nat), Ja G H1 g1 21 p 0 8 (joinG x y gs) → Ext G [21] H g H1 g1 → F H1) : Call G kX10_joinGroups 0 0 0 [.ref th, .int x, .int y] H (qv F) X := by
  have E : Ext G [21] H g H g := Ext.rf
  refine startL (L0 := [some (.ref th), some (.int x), some (.int y), none]) rfl rfl pl_X10_joinGroups (Nat.le_of_ble_eq_true rfl) ?_
  refine V_iconst (v := 0) dX10_joinGroups_0 rfl ?_
  refine V_istore_3 dX10_joinGroups_1 rfl ?_
  exact c_joinGL  8 _ _ H g hgs hth (Ext.rf (ts := [21])) (by decide) (by decide) (by rw [joinG] at kk; exact fun Hz gz hgs_ ez => kk Hz gz hgs_ (E.trans ez))

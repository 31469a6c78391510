theorem MS10 {G : GT} {H : Heap} {g : Nat → Nat} {a : Nat} {bal ten : List Int32} {cs : List CaseC} {ps : List PrecC} {n ch td nx : Int32} (h : MS G H g 10 a (bal, ten, cs, ps, n, ch, td, nx)) : bal.length = 8 ∧ ten.length = 64 ∧ ∃ b k u v : Nat, Ob G H g 10 a 13 [.ref b, .ref k, .ref u, .ref v, .int n, .int ch, .int td, .int nx] ∧ Ia G H g 11 b 0 bal ∧ Ia G H g 12 k 0 ten ∧ CL G H g 13 u cs ∧ PL G H g 14 v ps := h
theorem sI_len {l : List Int32} {i x : Int32} : (sI l i x).length = l.length := List.length_set
def addC (bal : List Int32) (ten : List Int32) (cs : List CaseC) (ps : List PrecC) (n : Int32) (ch : Int32) (td : Int32) (nx : Int32) (x : Int32) (y : Int32) : StC := if x < 0 then (bal, ten, cs, ps, n, ch, td, nx) else (if 8 ≤ x then (bal, ten, cs, ps, n, ch, td, nx) else (sI bal x ((gI bal x) + y), ten, cs, ps, n, ch, td, nx))
set_option maxHeartbeats 4000000 in
set_option maxRecDepth 100000 in
theorem c_addC {G : GT} {H : Heap} {g : Nat → Nat} {a : Nat} {X : String → Heap → Prop} {bal ten : List Int32} {cs : List CaseC} {ps : List PrecC} {n ch td nx : Int32} (h : MS G H g 10 a (bal, ten, cs, ps, n, ch, td, nx)) {x y : Int32} {F : Heap → Prop} (kk : ∀ (H1 : Heap) (g1 : Nat → Nat), MS G H1 g1 10 a (addC bal ten cs ps n ch td nx x y) → Ext G [10, 11, 12, 13, 14, 15, 16] H g H1 g1 → F H1) : Call G kX9_addCoins 0 0 0 [.ref a, .int x, .int y] H (qv F) X := by
  obtain ⟨hbl, htl, b, k0, u, v, ho, hbal, hten, hcs, hps⟩ := MS10 h
  have E : Ext G [10, 11, 12, 13, 14, 15, 16] H g H g := Ext.rf
  refine startL (L0 := [some (.ref a), some (.int x), some (.int y)]) rfl rfl pl_X9_addCoins (Nat.le_of_ble_eq_true rfl) ?_
  refine V_iload_1 dX9_addCoins_0 ?_
  refine V_if_lt (tgt := 23) dX9_addCoins_1 (by decide) (fun c_1 => ?_) (fun c_1 => ?_)
  · exact V_retv dX9_addCoins_23 rfl (by rw [addC, if_pos c_1] at kk; exact kk H g ⟨hbl, htl, b, k0, u, v, ho, hbal, hten, hcs, hps⟩ E)
  · refine V_iload_1 dX9_addCoins_4 ?_
    refine V_aload_0 dX9_addCoins_5 ?_
    refine V_getf dX9_addCoins_6 fl_X9_9 ho.ro rfl ?_
    refine V_alen (v := 8) dX9_addCoins_9 hbal.ra (by rw [hbl]; rfl) ?_
    refine V_icmp_ge (tgt := 23) dX9_addCoins_10 (by decide) (fun c_10 => ?_) (fun c_10 => ?_)
    · exact V_retv dX9_addCoins_23 rfl (by rw [addC, if_neg c_1, if_pos c_10] at kk; exact kk H g ⟨hbl, htl, b, k0, u, v, ho, hbal, hten, hcs, hps⟩ E)
    · refine V_aload_0 dX9_addCoins_13 ?_
      refine V_getf dX9_addCoins_14 fl_X9_9 ho.ro rfl ?_
      refine V_iload_1 dX9_addCoins_17 ?_
      refine V_dup2 dX9_addCoins_18 rfl rfl ?_
      have hin := inR (i := x) (n := 8) rfl (by decide) c_1 c_10
      refine V_iald (v := .int (gI bal x)) dX9_addCoins_19 hbal.ra (hbl ▸ hin) rfl ?_
      refine V_iload_2 dX9_addCoins_20 ?_
      refine V_iadd dX9_addCoins_21 ?_
      refine V_ias dX9_addCoins_22 hbal (by decide) (hbl ▸ hin) fun H1 hbal e1 z1 => ?_
      replace hbl : (sI bal x ((gI bal x) + y)).length = 8 := sI_len.trans hbl
      replace hten := hten.fr e1 (by decide)
      replace hcs := hcs.fr e1 (by decide) (by decide)
      replace hps := hps.fr e1 (by decide) (by decide)
      replace ho := ho.fr e1 (by decide)
      replace E := E.trans (e1.wide (by decide))
      exact V_retv dX9_addCoins_23 rfl (by rw [addC, if_neg c_1, if_neg c_10] at kk; exact kk H1 g ⟨hbl, htl, b, k0, u, v, ho, hbal, hten, hcs, hps⟩ E)
def addCB (S : StC) (x : Int32) (y : Int32) := addC S.1 S.2.1 S.2.2.1 S.2.2.2.1 S.2.2.2.2.1 S.2.2.2.2.2.1 S.2.2.2.2.2.2.1 S.2.2.2.2.2.2.2 x y
def payC (bal : List Int32) (ten : List Int32) (cs : List CaseC) (ps : List PrecC) (n : Int32) (ch : Int32) (td : Int32) (nx : Int32) (x : Int32) (y : Int32) : StC := ((addCB (bal, ten, cs, ps, n, ch, td, nx) x (-y)).1, (addCB (bal, ten, cs, ps, n, ch, td, nx) x (-y)).2.1, (addCB (bal, ten, cs, ps, n, ch, td, nx) x (-y)).2.2.1, (addCB (bal, ten, cs, ps, n, ch, td, nx) x (-y)).2.2.2.1, (addCB (bal, ten, cs, ps, n, ch, td, nx) x (-y)).2.2.2.2.1, ((addCB (bal, ten, cs, ps, n, ch, td, nx) x (-y)).2.2.2.2.2.1) + y, (addCB (bal, ten, cs, ps, n, ch, td, nx) x (-y)).2.2.2.2.2.2.1, (addCB (bal, ten, cs, ps, n, ch, td, nx) x (-y)).2.2.2.2.2.2.2)
set_option maxHeartbeats 4000000 in
set_option maxRecDepth 100000 in
theorem c_payC {G : GT} {H : Heap} {g : Nat → Nat} {a : Nat} {X : String → Heap → Prop} {bal ten : List Int32} {cs : List CaseC} {ps : List PrecC} {n ch td nx : Int32} (h : MS G H g 10 a (bal, ten, cs, ps, n, ch, td, nx)) {x y : Int32} {F : Heap → Prop} (kk : ∀ (H1 : Heap) (g1 : Nat → Nat), MS G H1 g1 10 a (payC bal ten cs ps n ch td nx x y) → Ext G [10, 11, 12, 13, 14, 15, 16] H g H1 g1 → F H1) : Call G kX9_payToChest 1 0 0 [.ref a, .int x, .int y] H (qv F) X := by
  obtain ⟨hbl, htl, b, k0, u, v, ho, hbal, hten, hcs, hps⟩ := MS10 h
  have E : Ext G [10, 11, 12, 13, 14, 15, 16] H g H g := Ext.rf
  refine startL (L0 := [some (.ref a), some (.int x), some (.int y)]) rfl rfl pl_X9_payToChest (Nat.le_of_ble_eq_true rfl) ?_
  refine V_aload_0 dX9_payToChest_0 ?_
  refine V_iload_1 dX9_payToChest_1 ?_
  refine V_iload_2 dX9_payToChest_2 ?_
  refine V_ineg dX9_payToChest_3 ?_
  have h : MS G H g 10 a (bal, ten, cs, ps, n, ch, td, nx) := ⟨hbl, htl, b, k0, u, v, ho, hbal, hten, hcs, hps⟩
  refine V_call_v (runV2 dX9_payToChest_4 ce_X9_addCoins rfl ml_X9_64 im_X9_addCoins se_X9_addCoins ho.ro ⟨_, rfl, rfl⟩ (Nat.le_of_ble_eq_true rfl)) (by omega) (by omega) (by omega) (c_addC h (x := x) (y := (-y)) fun H1 g1 h e1 => ?_)
  clear hbl htl ho hbal hten hcs hps
  replace h : MS G H1 g1 10 a ((addCB (bal, ten, cs, ps, n, ch, td, nx) x (-y)).1, (addCB (bal, ten, cs, ps, n, ch, td, nx) x (-y)).2.1, (addCB (bal, ten, cs, ps, n, ch, td, nx) x (-y)).2.2.1, (addCB (bal, ten, cs, ps, n, ch, td, nx) x (-y)).2.2.2.1, (addCB (bal, ten, cs, ps, n, ch, td, nx) x (-y)).2.2.2.2.1, (addCB (bal, ten, cs, ps, n, ch, td, nx) x (-y)).2.2.2.2.2.1, (addCB (bal, ten, cs, ps, n, ch, td, nx) x (-y)).2.2.2.2.2.2.1, (addCB (bal, ten, cs, ps, n, ch, td, nx) x (-y)).2.2.2.2.2.2.2) := h
  obtain ⟨hbl, htl, b, k0, u, v, ho, hbal, hten, hcs, hps⟩ := MS10 h
  replace E := E.trans e1
  refine V_aload_0 dX9_payToChest_7 ?_
  refine V_dup dX9_payToChest_8 rfl ?_
  refine V_getf dX9_payToChest_9 fl_X9_32 ho.ro rfl ?_
  refine V_iload_2 dX9_payToChest_12 ?_
  refine V_iadd dX9_payToChest_13 ?_
  refine V_put dX9_payToChest_14 fp_X9_payToChest_32 ho (by decide) ⟨rfl, rfl⟩ (Nat.le_of_ble_eq_true rfl) rfl fun H2 ho e2 z2 => ?_
  replace hbal := hbal.fr e2 (by decide)
  replace hten := hten.fr e2 (by decide)
  replace hcs := hcs.fr e2 (by decide) (by decide)
  replace hps := hps.fr e2 (by decide) (by decide)
  replace E := E.trans (e2.wide (by decide))
  exact V_retv dX9_payToChest_17 rfl (by rw [payC] at kk; exact kk H2 g1 ⟨hbl, htl, b, k0, u, v, ho, hbal, hten, hcs, hps⟩ E)
def payCB (S : StC) (x : Int32) (y : Int32) := payC S.1 S.2.1 S.2.2.1 S.2.2.2.1 S.2.2.2.2.1 S.2.2.2.2.2.1 S.2.2.2.2.2.2.1 S.2.2.2.2.2.2.2 x y
def putC (bal : List Int32) (ten : List Int32) (cs : List CaseC) (ps : List PrecC) (n : Int32) (ch : Int32) (td : Int32) (nx : Int32) (x : Int32) (y : Int32) : StC := if x < 0 then (bal, ten, cs, ps, n, ch, td, nx) else (if 64 ≤ x then (bal, ten, cs, ps, n, ch, td, nx) else (bal, sI ten x y, cs, ps, n, ch, td, nx))
set_option maxHeartbeats 4000000 in
set_option maxRecDepth 100000 in
theorem c_putC {G : GT} {H : Heap} {g : Nat → Nat} {a : Nat} {X : String → Heap → Prop} {bal ten : List Int32} {cs : List CaseC} {ps : List PrecC} {n ch td nx : Int32} (h : MS G H g 10 a (bal, ten, cs, ps, n, ch, td, nx)) {x y : Int32} {F : Heap → Prop} (kk : ∀ (H1 : Heap) (g1 : Nat → Nat), MS G H1 g1 10 a (putC bal ten cs ps n ch td nx x y) → Ext G [10, 11, 12, 13, 14, 15, 16] H g H1 g1 → F H1) : Call G kX9_putCell 0 0 0 [.ref a, .int x, .int y] H (qv F) X := by
  obtain ⟨hbl, htl, b, k0, u, v, ho, hbal, hten, hcs, hps⟩ := MS10 h
  have E : Ext G [10, 11, 12, 13, 14, 15, 16] H g H g := Ext.rf
  refine startL (L0 := [some (.ref a), some (.int x), some (.int y)]) rfl rfl pl_X9_putCell (Nat.le_of_ble_eq_true rfl) ?_
  refine V_iload_1 dX9_putCell_0 ?_
  refine V_if_lt (tgt := 20) dX9_putCell_1 (by decide) (fun c_1 => ?_) (fun c_1 => ?_)
  · exact V_retv dX9_putCell_20 rfl (by rw [putC, if_pos c_1] at kk; exact kk H g ⟨hbl, htl, b, k0, u, v, ho, hbal, hten, hcs, hps⟩ E)
  · refine V_iload_1 dX9_putCell_4 ?_
    refine V_aload_0 dX9_putCell_5 ?_
    refine V_getf dX9_putCell_6 fl_X9_15 ho.ro rfl ?_
    refine V_alen (v := 64) dX9_putCell_9 hten.ra (by rw [htl]; rfl) ?_
    refine V_icmp_ge (tgt := 20) dX9_putCell_10 (by decide) (fun c_10 => ?_) (fun c_10 => ?_)
    · exact V_retv dX9_putCell_20 rfl (by rw [putC, if_neg c_1, if_pos c_10] at kk; exact kk H g ⟨hbl, htl, b, k0, u, v, ho, hbal, hten, hcs, hps⟩ E)
    · refine V_aload_0 dX9_putCell_13 ?_
      refine V_getf dX9_putCell_14 fl_X9_15 ho.ro rfl ?_
      refine V_iload_1 dX9_putCell_17 ?_
      refine V_iload_2 dX9_putCell_18 ?_
      have hin := inR (i := x) (n := 64) rfl (by decide) c_1 c_10
      refine V_ias dX9_putCell_19 hten (by decide) (htl ▸ hin) fun H1 hten e1 z1 => ?_
      replace htl : (sI ten x y).length = 64 := sI_len.trans htl
      replace hbal := hbal.fr e1 (by decide)
      replace hcs := hcs.fr e1 (by decide) (by decide)
      replace hps := hps.fr e1 (by decide) (by decide)
      replace ho := ho.fr e1 (by decide)
      replace E := E.trans (e1.wide (by decide))
      exact V_retv dX9_putCell_20 rfl (by rw [putC, if_neg c_1, if_neg c_10] at kk; exact kk H1 g ⟨hbl, htl, b, k0, u, v, ho, hbal, hten, hcs, hps⟩ E)
def putCB (S : StC) (x : Int32) (y : Int32) := putC S.1 S.2.1 S.2.2.1 S.2.2.2.1 S.2.2.2.2.1 S.2.2.2.2.2.1 S.2.2.2.2.2.2.1 S.2.2.2.2.2.2.2 x y
def putT (bal : List Int32) (ten : List Int32) (cs : List CaseC) (ps : List PrecC) (n : Int32) (ch : Int32) (td : Int32) (nx : Int32) (x : Int32) (y : Int32) (z : Int32) : StC := ((putCB (putCB (bal, ten, cs, ps, n, ch, td, nx) ((x * 8) + y) z) ((y * 8) + x) z).1, (putCB (putCB (bal, ten, cs, ps, n, ch, td, nx) ((x * 8) + y) z) ((y * 8) + x) z).2.1, (putCB (putCB (bal, ten, cs, ps, n, ch, td, nx) ((x * 8) + y) z) ((y * 8) + x) z).2.2.1, (putCB (putCB (bal, ten, cs, ps, n, ch, td, nx) ((x * 8) + y) z) ((y * 8) + x) z).2.2.2.1, (putCB (putCB (bal, ten, cs, ps, n, ch, td, nx) ((x * 8) + y) z) ((y * 8) + x) z).2.2.2.2.1, (putCB (putCB (bal, ten, cs, ps, n, ch, td, nx) ((x * 8) + y) z) ((y * 8) + x) z).2.2.2.2.2.1, (putCB (putCB (bal, ten, cs, ps, n, ch, td, nx) ((x * 8) + y) z) ((y * 8) + x) z).2.2.2.2.2.2.1, (putCB (putCB (bal, ten, cs, ps, n, ch, td, nx) ((x * 8) + y) z) ((y * 8) + x) z).2.2.2.2.2.2.2)
set_option maxHeartbeats 4000000 in
set_option maxRecDepth 100000 in
theorem c_putT {G : GT} {H : Heap} {g : Nat → Nat} {a : Nat} {X : String → Heap → Prop} {bal ten : List Int32} {cs : List CaseC} {ps : List PrecC} {n ch td nx : Int32} (h : MS G H g 10 a (bal, ten, cs, ps, n, ch, td, nx)) {x y z : Int32} {F : Heap → Prop} (kk : ∀ (H1 : Heap) (g1 : Nat → Nat), MS G H1 g1 10 a (putT bal ten cs ps n ch td nx x y z) → Ext G [10, 11, 12, 13, 14, 15, 16] H g H1 g1 → F H1) : Call G kX9_putTension 1 0 0 [.ref a, .int x, .int y, .int z] H (qv F) X := by
  obtain ⟨hbl, htl, b, k0, u, v, ho, hbal, hten, hcs, hps⟩ := MS10 h
  have E : Ext G [10, 11, 12, 13, 14, 15, 16] H g H g := Ext.rf
  refine startL (L0 := [some (.ref a), some (.int x), some (.int y), some (.int z)]) rfl rfl pl_X9_putTension (Nat.le_of_ble_eq_true rfl) ?_
  refine V_aload_0 dX9_putTension_0 ?_
  refine V_iload_1 dX9_putTension_1 ?_
  refine V_bipush (v := 8) dX9_putTension_2 (by decide) ?_
  refine V_imul dX9_putTension_4 ?_
  refine V_iload_2 dX9_putTension_5 ?_
  refine V_iadd dX9_putTension_6 ?_
  refine V_iload_3 dX9_putTension_7 ?_
  have h : MS G H g 10 a (bal, ten, cs, ps, n, ch, td, nx) := ⟨hbl, htl, b, k0, u, v, ho, hbal, hten, hcs, hps⟩
  refine V_call_v (runV2 dX9_putTension_8 ce_X9_putCell rfl ml_X9_68 im_X9_putCell se_X9_putCell ho.ro ⟨_, rfl, rfl⟩ (Nat.le_of_ble_eq_true rfl)) (by omega) (by omega) (by omega) (c_putC h (x := ((x * 8) + y)) (y := z) fun H1 g1 h e1 => ?_)
  clear hbl htl ho hbal hten hcs hps
  replace h : MS G H1 g1 10 a ((putCB (bal, ten, cs, ps, n, ch, td, nx) ((x * 8) + y) z).1, (putCB (bal, ten, cs, ps, n, ch, td, nx) ((x * 8) + y) z).2.1, (putCB (bal, ten, cs, ps, n, ch, td, nx) ((x * 8) + y) z).2.2.1, (putCB (bal, ten, cs, ps, n, ch, td, nx) ((x * 8) + y) z).2.2.2.1, (putCB (bal, ten, cs, ps, n, ch, td, nx) ((x * 8) + y) z).2.2.2.2.1, (putCB (bal, ten, cs, ps, n, ch, td, nx) ((x * 8) + y) z).2.2.2.2.2.1, (putCB (bal, ten, cs, ps, n, ch, td, nx) ((x * 8) + y) z).2.2.2.2.2.2.1, (putCB (bal, ten, cs, ps, n, ch, td, nx) ((x * 8) + y) z).2.2.2.2.2.2.2) := h
  obtain ⟨hbl, htl, b, k0, u, v, ho, hbal, hten, hcs, hps⟩ := MS10 h
  replace E := E.trans e1
  refine V_aload_0 dX9_putTension_11 ?_
  refine V_iload_2 dX9_putTension_12 ?_
  refine V_bipush (v := 8) dX9_putTension_13 (by decide) ?_
  refine V_imul dX9_putTension_15 ?_
  refine V_iload_1 dX9_putTension_16 ?_
  refine V_iadd dX9_putTension_17 ?_
  refine V_iload_3 dX9_putTension_18 ?_
  have h : MS G H1 g1 10 a ((putCB (bal, ten, cs, ps, n, ch, td, nx) ((x * 8) + y) z).1, (putCB (bal, ten, cs, ps, n, ch, td, nx) ((x * 8) + y) z).2.1, (putCB (bal, ten, cs, ps, n, ch, td, nx) ((x * 8) + y) z).2.2.1, (putCB (bal, ten, cs, ps, n, ch, td, nx) ((x * 8) + y) z).2.2.2.1, (putCB (bal, ten, cs, ps, n, ch, td, nx) ((x * 8) + y) z).2.2.2.2.1, (putCB (bal, ten, cs, ps, n, ch, td, nx) ((x * 8) + y) z).2.2.2.2.2.1, (putCB (bal, ten, cs, ps, n, ch, td, nx) ((x * 8) + y) z).2.2.2.2.2.2.1, (putCB (bal, ten, cs, ps, n, ch, td, nx) ((x * 8) + y) z).2.2.2.2.2.2.2) := ⟨hbl, htl, b, k0, u, v, ho, hbal, hten, hcs, hps⟩
  refine V_call_v (runV2 dX9_putTension_19 ce_X9_putCell rfl ml_X9_68 im_X9_putCell se_X9_putCell ho.ro ⟨_, rfl, rfl⟩ (Nat.le_of_ble_eq_true rfl)) (by omega) (by omega) (by omega) (c_putC h (x := ((y * 8) + x)) (y := z) fun H2 g2 h e2 => ?_)
  clear hbl htl ho hbal hten hcs hps
  replace h : MS G H2 g2 10 a ((putCB (putCB (bal, ten, cs, ps, n, ch, td, nx) ((x * 8) + y) z) ((y * 8) + x) z).1, (putCB (putCB (bal, ten, cs, ps, n, ch, td, nx) ((x * 8) + y) z) ((y * 8) + x) z).2.1, (putCB (putCB (bal, ten, cs, ps, n, ch, td, nx) ((x * 8) + y) z) ((y * 8) + x) z).2.2.1, (putCB (putCB (bal, ten, cs, ps, n, ch, td, nx) ((x * 8) + y) z) ((y * 8) + x) z).2.2.2.1, (putCB (putCB (bal, ten, cs, ps, n, ch, td, nx) ((x * 8) + y) z) ((y * 8) + x) z).2.2.2.2.1, (putCB (putCB (bal, ten, cs, ps, n, ch, td, nx) ((x * 8) + y) z) ((y * 8) + x) z).2.2.2.2.2.1, (putCB (putCB (bal, ten, cs, ps, n, ch, td, nx) ((x * 8) + y) z) ((y * 8) + x) z).2.2.2.2.2.2.1, (putCB (putCB (bal, ten, cs, ps, n, ch, td, nx) ((x * 8) + y) z) ((y * 8) + x) z).2.2.2.2.2.2.2) := h
  obtain ⟨hbl, htl, b, k0, u, v, ho, hbal, hten, hcs, hps⟩ := MS10 h
  replace E := E.trans e2
  exact V_retv dX9_putTension_22 rfl (by rw [putT] at kk; exact kk H2 g2 ⟨hbl, htl, b, k0, u, v, ho, hbal, hten, hcs, hps⟩ E)
def putTB (S : StC) (x : Int32) (y : Int32) (z : Int32) := putT S.1 S.2.1 S.2.2.1 S.2.2.2.1 S.2.2.2.2.1 S.2.2.2.2.2.1 S.2.2.2.2.2.2.1 S.2.2.2.2.2.2.2 x y z
def isBtw (x : Int32) (y : Int32) (z : Int32) : Int32 := if x < y then 0 else (if z < x then 0 else 1)
set_option maxHeartbeats 4000000 in
set_option maxRecDepth 100000 in
theorem c_isBtw {G : GT} {H : Heap} {X : String → Heap → Prop} {x y z : Int32} {F : Int32 → Heap → Prop} (kk : F (isBtw x y z) H) : Call G kX2_isBetween 0 0 0 [.int x, .int y, .int z] H (qi F) X := by
  refine startL (L0 := [some (.int x), some (.int y), some (.int z)]) rfl rfl pl_X2_isBetween (Nat.le_of_ble_eq_true rfl) ?_
  refine V_iload_0 dX2_isBetween_0 ?_
  refine V_iload_1 dX2_isBetween_1 ?_
  refine V_icmp_lt (tgt := 14) dX2_isBetween_2 (by decide) (fun c_2 => ?_) (fun c_2 => ?_)
  · refine V_iconst (v := 0) dX2_isBetween_14 rfl ?_
    exact V_retz dX2_isBetween_15 rfl rfl rfl (by rw [isBtw, if_pos c_2] at kk; exact kk)
  · refine V_iload_0 dX2_isBetween_5 ?_
    refine V_iload_2 dX2_isBetween_6 ?_
    refine V_icmp_gt (tgt := 14) dX2_isBetween_7 (by decide) (fun c_7 => ?_) (fun c_7 => ?_)
    · refine V_iconst (v := 0) dX2_isBetween_14 rfl ?_
      exact V_retz dX2_isBetween_15 rfl rfl rfl (by rw [isBtw, if_neg c_2, if_pos c_7] at kk; exact kk)
    · refine V_iconst (v := 1) dX2_isBetween_10 rfl ?_
      refine V_goto (tgt := 15) dX2_isBetween_11 (by decide) ?_
      exact V_retz dX2_isBetween_15 rfl rfl rfl (by rw [isBtw, if_neg c_2, if_neg c_7] at kk; exact kk)
def enterB (bal : List Int32) (ten : List Int32) (cs : List CaseC) (ps : List PrecC) (n : Int32) (ch : Int32) (td : Int32) (nx : Int32) : Int32 × StC := if n < 8 then ((n + 1) - 1, (bal, ten, cs, ps, n + 1, ch, td, nx)) else ((-3), (bal, ten, cs, ps, n, ch, td, nx))
set_option maxHeartbeats 4000000 in
set_option maxRecDepth 100000 in
theorem c_enterB {G : GT} {H : Heap} {g : Nat → Nat} {a : Nat} {X : String → Heap → Prop} {bal ten : List Int32} {cs : List CaseC} {ps : List PrecC} {n ch td nx : Int32} (h : MS G H g 10 a (bal, ten, cs, ps, n, ch, td, nx)) {o : Nat} {F : Int32 → Heap → Prop} (kk : ∀ (H1 : Heap) (g1 : Nat → Nat), MS G H1 g1 10 a (enterB bal ten cs ps n ch td nx).2 → Ext G [10, 11, 12, 13, 14, 15, 16] H g H1 g1 → F (enterB bal ten cs ps n ch td nx).1 H1) : Call G kX2_enterButton 0 0 0 [.ref o, .ref a] H (qi F) X := by
  obtain ⟨hbl, htl, b, k0, u, v, ho, hbal, hten, hcs, hps⟩ := MS10 h
  have E : Ext G [10, 11, 12, 13, 14, 15, 16] H g H g := Ext.rf
  refine startL (L0 := [some (.ref o), some (.ref a)]) rfl rfl pl_X2_enterButton (Nat.le_of_ble_eq_true rfl) ?_
  refine V_aload_1 dX2_enterButton_0 ?_
  refine V_getf dX2_enterButton_1 fl_X2_90 ho.ro rfl ?_
  refine V_bipush (v := 8) dX2_enterButton_4 (by decide) ?_
  refine V_icmp_lt (tgt := 12) dX2_enterButton_6 (by decide) (fun c_6 => ?_) (fun c_6 => ?_)
  · refine V_aload_1 dX2_enterButton_12 ?_
    refine V_dup dX2_enterButton_13 rfl ?_
    refine V_getf dX2_enterButton_14 fl_X2_90 ho.ro rfl ?_
    refine V_iconst (v := 1) dX2_enterButton_17 rfl ?_
    refine V_iadd dX2_enterButton_18 ?_
    refine V_put dX2_enterButton_19 fp_X2_enterButton_90 ho (by decide) ⟨rfl, rfl⟩ (Nat.le_of_ble_eq_true rfl) rfl fun H1 ho e1 z1 => ?_
    replace hbal := hbal.fr e1 (by decide)
    replace hten := hten.fr e1 (by decide)
    replace hcs := hcs.fr e1 (by decide) (by decide)
    replace hps := hps.fr e1 (by decide) (by decide)
    replace E := E.trans (e1.wide (by decide))
    refine V_aload_1 dX2_enterButton_22 ?_
    refine V_getf dX2_enterButton_23 fl_X2_90 ho.ro rfl ?_
    refine V_iconst (v := 1) dX2_enterButton_26 rfl ?_
    refine V_isub dX2_enterButton_27 ?_
    exact V_reti dX2_enterButton_28 rfl rfl (by rw [enterB, if_pos c_6] at kk; exact kk H1 g ⟨hbl, htl, b, k0, u, v, ho, hbal, hten, hcs, hps⟩ E)
  · refine V_bipush (v := (-3)) dX2_enterButton_9 (by decide) ?_
    exact V_reti dX2_enterButton_11 rfl rfl (by rw [enterB, if_neg c_6] at kk; exact kk H g ⟨hbl, htl, b, k0, u, v, ho, hbal, hten, hcs, hps⟩ E)
def enterBB (S : StC)  := enterB S.1 S.2.1 S.2.2.1 S.2.2.2.1 S.2.2.2.2.1 S.2.2.2.2.2.1 S.2.2.2.2.2.2.1 S.2.2.2.2.2.2.2 
def joinB (bal : List Int32) (ten : List Int32) (cs : List CaseC) (ps : List PrecC) (n : Int32) (ch : Int32) (td : Int32) (nx : Int32) (x : Int32) (y : Int32) (z : Int32) : Int32 × StC := if (b2i (hasB n x)) = 0 then ((-1), (bal, ten, cs, ps, n, ch, td, nx)) else (if (b2i (hasB n y)) = 0 then ((-1), (bal, ten, cs, ps, n, ch, td, nx)) else (if x = y then ((-2), (bal, ten, cs, ps, n, ch, td, nx)) else (if (isBtw z 1 20) = 0 then ((-2), (bal, ten, cs, ps, n, ch, td, nx)) else (rd ten 64 (x * 8 + y), ((putTB (bal, ten, cs, ps, n, ch, td, nx) x y z).1, (putTB (bal, ten, cs, ps, n, ch, td, nx) x y z).2.1, (putTB (bal, ten, cs, ps, n, ch, td, nx) x y z).2.2.1, (putTB (bal, ten, cs, ps, n, ch, td, nx) x y z).2.2.2.1, (putTB (bal, ten, cs, ps, n, ch, td, nx) x y z).2.2.2.2.1, (putTB (bal, ten, cs, ps, n, ch, td, nx) x y z).2.2.2.2.2.1, (putTB (bal, ten, cs, ps, n, ch, td, nx) x y z).2.2.2.2.2.2.1, (putTB (bal, ten, cs, ps, n, ch, td, nx) x y z).2.2.2.2.2.2.2)))))
set_option maxHeartbeats 4000000 in
set_option maxRecDepth 100000 in
theorem c_joinB {G : GT} {H : Heap} {g : Nat → Nat} {a : Nat} {X : String → Heap → Prop} {bal ten : List Int32} {cs : List CaseC} {ps : List PrecC} {n ch td nx : Int32} (h : MS G H g 10 a (bal, ten, cs, ps, n, ch, td, nx)) {o : Nat} {x y z : Int32} {F : Int32 → Heap → Prop} (kk : ∀ (H1 : Heap) (g1 : Nat → Nat), MS G H1 g1 10 a (joinB bal ten cs ps n ch td nx x y z).2 → Ext G [10, 11, 12, 13, 14, 15, 16] H g H1 g1 → F (joinB bal ten cs ps n ch td nx x y z).1 H1) : Call G kX2_joinButtons 2 0 0 [.ref o, .ref a, .int x, .int y, .int z] H (qi F) X := by
  obtain ⟨hbl, htl, b, k0, u, v, ho, hbal, hten, hcs, hps⟩ := MS10 h
  have E : Ext G [10, 11, 12, 13, 14, 15, 16] H g H g := Ext.rf
  refine startL (L0 := [some (.ref o), some (.ref a), some (.int x), some (.int y), some (.int z), none]) rfl rfl pl_X2_joinButtons (Nat.le_of_ble_eq_true rfl) ?_
  refine V_aload_1 dX2_joinButtons_0 ?_
  refine V_iload_2 dX2_joinButtons_1 ?_
  have h : MS G H g 10 a (bal, ten, cs, ps, n, ch, td, nx) := ⟨hbl, htl, b, k0, u, v, ho, hbal, hten, hcs, hps⟩
  refine V_call_i (runV1 dX2_joinButtons_2 ce_X9_hasButton rfl ml_X2_96 im_X9_hasButton se_X9_hasButton ho.ro ⟨_, rfl, rfl⟩ (Nat.le_of_ble_eq_true rfl)) (by omega) (by omega) (by omega) (c_hasButton h x ?_)
  refine V_if_eq (tgt := 16) dX2_joinButtons_5 (by decide) (fun c_5 => ?_) (fun c_5 => ?_)
  · refine V_iconst (v := (-1)) dX2_joinButtons_16 rfl ?_
    exact V_reti dX2_joinButtons_17 rfl rfl (by rw [joinB, if_pos c_5] at kk; exact kk H g ⟨hbl, htl, b, k0, u, v, ho, hbal, hten, hcs, hps⟩ E)
  · refine V_aload_1 dX2_joinButtons_8 ?_
    refine V_iload_3 dX2_joinButtons_9 ?_
    have h : MS G H g 10 a (bal, ten, cs, ps, n, ch, td, nx) := ⟨hbl, htl, b, k0, u, v, ho, hbal, hten, hcs, hps⟩
    refine V_call_i (runV1 dX2_joinButtons_10 ce_X9_hasButton rfl ml_X2_96 im_X9_hasButton se_X9_hasButton ho.ro ⟨_, rfl, rfl⟩ (Nat.le_of_ble_eq_true rfl)) (by omega) (by omega) (by omega) (c_hasButton h y ?_)
    refine V_if_ne (tgt := 18) dX2_joinButtons_13 (by decide) (fun c_13 => ?_) (fun c_13 => ?_)
    · refine V_iload_2 dX2_joinButtons_18 ?_
      refine V_iload_3 dX2_joinButtons_19 ?_
      refine V_icmp_eq (tgt := 34) dX2_joinButtons_20 (by decide) (fun c_20 => ?_) (fun c_20 => ?_)
      · refine V_bipush (v := (-2)) dX2_joinButtons_34 (by decide) ?_
        exact V_reti dX2_joinButtons_36 rfl rfl (by rw [joinB, if_neg c_5, if_neg c_13, if_pos c_20] at kk; exact kk H g ⟨hbl, htl, b, k0, u, v, ho, hbal, hten, hcs, hps⟩ E)
      · refine V_iload_4 dX2_joinButtons_23 ?_
        refine V_iconst (v := 1) dX2_joinButtons_25 rfl ?_
        refine V_bipush (v := 20) dX2_joinButtons_26 (by decide) ?_
        refine V_call_i (runS3 dX2_joinButtons_28 ce_X2_isBetween rfl ml_X2_100 st_X2_isBetween (Nat.le_of_ble_eq_true rfl)) (by omega) (by omega) (by omega) (c_isBtw (x := z) (y := 1) (z := 20) ?_)
        refine V_if_ne (tgt := 37) dX2_joinButtons_31 (by decide) (fun c_31 => ?_) (fun c_31 => ?_)
        · refine V_aload_1 dX2_joinButtons_37 ?_
          refine V_iload_2 dX2_joinButtons_38 ?_
          refine V_iload_3 dX2_joinButtons_39 ?_
          have h : MS G H g 10 a (bal, ten, cs, ps, n, ch, td, nx) := ⟨hbl, htl, b, k0, u, v, ho, hbal, hten, hcs, hps⟩
          refine V_call_i (runV2 dX2_joinButtons_40 ce_X9_tensionBetween rfl ml_X2_104 im_X9_tensionBetween se_X9_tensionBetween ho.ro ⟨_, rfl, rfl⟩ (Nat.le_of_ble_eq_true rfl)) (by omega) (by omega) (by omega) (c_tensionBetween h x y ?_)
          refine V_istore_5 dX2_joinButtons_43 rfl ?_
          refine V_aload_1 dX2_joinButtons_45 ?_
          refine V_iload_2 dX2_joinButtons_46 ?_
          refine V_iload_3 dX2_joinButtons_47 ?_
          refine V_iload_4 dX2_joinButtons_48 ?_
          have h : MS G H g 10 a (bal, ten, cs, ps, n, ch, td, nx) := ⟨hbl, htl, b, k0, u, v, ho, hbal, hten, hcs, hps⟩
          refine V_call_v (runV3 dX2_joinButtons_50 ce_X9_putTension rfl ml_X2_108 im_X9_putTension se_X9_putTension ho.ro ⟨_, rfl, rfl⟩ (Nat.le_of_ble_eq_true rfl)) (by omega) (by omega) (by omega) (c_putT h (x := x) (y := y) (z := z) fun H1 g1 h e1 => ?_)
          clear hbl htl ho hbal hten hcs hps
          replace h : MS G H1 g1 10 a ((putTB (bal, ten, cs, ps, n, ch, td, nx) x y z).1, (putTB (bal, ten, cs, ps, n, ch, td, nx) x y z).2.1, (putTB (bal, ten, cs, ps, n, ch, td, nx) x y z).2.2.1, (putTB (bal, ten, cs, ps, n, ch, td, nx) x y z).2.2.2.1, (putTB (bal, ten, cs, ps, n, ch, td, nx) x y z).2.2.2.2.1, (putTB (bal, ten, cs, ps, n, ch, td, nx) x y z).2.2.2.2.2.1, (putTB (bal, ten, cs, ps, n, ch, td, nx) x y z).2.2.2.2.2.2.1, (putTB (bal, ten, cs, ps, n, ch, td, nx) x y z).2.2.2.2.2.2.2) := h
          obtain ⟨hbl, htl, b, k0, u, v, ho, hbal, hten, hcs, hps⟩ := MS10 h
          replace E := E.trans e1
          refine V_iload_5 dX2_joinButtons_53 ?_
          exact V_reti dX2_joinButtons_55 rfl rfl (by rw [joinB, if_neg c_5, if_neg c_13, if_neg c_20, if_neg c_31] at kk; exact kk H1 g1 ⟨hbl, htl, b, k0, u, v, ho, hbal, hten, hcs, hps⟩ E)
        · refine V_bipush (v := (-2)) dX2_joinButtons_34 (by decide) ?_
          exact V_reti dX2_joinButtons_36 rfl rfl (by rw [joinB, if_neg c_5, if_neg c_13, if_neg c_20, if_pos c_31] at kk; exact kk H g ⟨hbl, htl, b, k0, u, v, ho, hbal, hten, hcs, hps⟩ E)
    · refine V_iconst (v := (-1)) dX2_joinButtons_16 rfl ?_
      exact V_reti dX2_joinButtons_17 rfl rfl (by rw [joinB, if_neg c_5, if_pos c_13] at kk; exact kk H g ⟨hbl, htl, b, k0, u, v, ho, hbal, hten, hcs, hps⟩ E)
def joinBB (S : StC) (x : Int32) (y : Int32) (z : Int32) := joinB S.1 S.2.1 S.2.2.1 S.2.2.2.1 S.2.2.2.2.1 S.2.2.2.2.2.1 S.2.2.2.2.2.2.1 S.2.2.2.2.2.2.2 x y z
def sepB (bal : List Int32) (ten : List Int32) (cs : List CaseC) (ps : List PrecC) (n : Int32) (ch : Int32) (td : Int32) (nx : Int32) (x : Int32) (y : Int32) : Int32 × StC := if (b2i (hasB n x)) = 0 then ((-1), (bal, ten, cs, ps, n, ch, td, nx)) else (if (b2i (hasB n y)) = 0 then ((-1), (bal, ten, cs, ps, n, ch, td, nx)) else (if (rd ten 64 (x * 8 + y)) = 0 then ((-4), (bal, ten, cs, ps, n, ch, td, nx)) else (rd ten 64 (x * 8 + y), ((putTB (bal, ten, cs, ps, n, ch, td, nx) x y 0).1, (putTB (bal, ten, cs, ps, n, ch, td, nx) x y 0).2.1, (putTB (bal, ten, cs, ps, n, ch, td, nx) x y 0).2.2.1, (putTB (bal, ten, cs, ps, n, ch, td, nx) x y 0).2.2.2.1, (putTB (bal, ten, cs, ps, n, ch, td, nx) x y 0).2.2.2.2.1, (putTB (bal, ten, cs, ps, n, ch, td, nx) x y 0).2.2.2.2.2.1, (putTB (bal, ten, cs, ps, n, ch, td, nx) x y 0).2.2.2.2.2.2.1, (putTB (bal, ten, cs, ps, n, ch, td, nx) x y 0).2.2.2.2.2.2.2))))
set_option maxHeartbeats 4000000 in
set_option maxRecDepth 100000 in
theorem c_sepB {G : GT} {H : Heap} {g : Nat → Nat} {a : Nat} {X : String → Heap → Prop} {bal ten : List Int32} {cs : List CaseC} {ps : List PrecC} {n ch td nx : Int32} (h : MS G H g 10 a (bal, ten, cs, ps, n, ch, td, nx)) {o : Nat} {x y : Int32} {F : Int32 → Heap → Prop} (kk : ∀ (H1 : Heap) (g1 : Nat → Nat), MS G H1 g1 10 a (sepB bal ten cs ps n ch td nx x y).2 → Ext G [10, 11, 12, 13, 14, 15, 16] H g H1 g1 → F (sepB bal ten cs ps n ch td nx x y).1 H1) : Call G kX2_separateButtons 2 0 0 [.ref o, .ref a, .int x, .int y] H (qi F) X := by
  obtain ⟨hbl, htl, b, k0, u, v, ho, hbal, hten, hcs, hps⟩ := MS10 h
  have E : Ext G [10, 11, 12, 13, 14, 15, 16] H g H g := Ext.rf
  refine startL (L0 := [some (.ref o), some (.ref a), some (.int x), some (.int y), none]) rfl rfl pl_X2_separateButtons (Nat.le_of_ble_eq_true rfl) ?_
  refine V_aload_1 dX2_separateButtons_0 ?_
  refine V_iload_2 dX2_separateButtons_1 ?_
  have h : MS G H g 10 a (bal, ten, cs, ps, n, ch, td, nx) := ⟨hbl, htl, b, k0, u, v, ho, hbal, hten, hcs, hps⟩
  refine V_call_i (runV1 dX2_separateButtons_2 ce_X9_hasButton rfl ml_X2_96 im_X9_hasButton se_X9_hasButton ho.ro ⟨_, rfl, rfl⟩ (Nat.le_of_ble_eq_true rfl)) (by omega) (by omega) (by omega) (c_hasButton h x ?_)
  refine V_if_eq (tgt := 16) dX2_separateButtons_5 (by decide) (fun c_5 => ?_) (fun c_5 => ?_)
  · refine V_iconst (v := (-1)) dX2_separateButtons_16 rfl ?_
    exact V_reti dX2_separateButtons_17 rfl rfl (by rw [sepB, if_pos c_5] at kk; exact kk H g ⟨hbl, htl, b, k0, u, v, ho, hbal, hten, hcs, hps⟩ E)
  · refine V_aload_1 dX2_separateButtons_8 ?_
    refine V_iload_3 dX2_separateButtons_9 ?_
    have h : MS G H g 10 a (bal, ten, cs, ps, n, ch, td, nx) := ⟨hbl, htl, b, k0, u, v, ho, hbal, hten, hcs, hps⟩
    refine V_call_i (runV1 dX2_separateButtons_10 ce_X9_hasButton rfl ml_X2_96 im_X9_hasButton se_X9_hasButton ho.ro ⟨_, rfl, rfl⟩ (Nat.le_of_ble_eq_true rfl)) (by omega) (by omega) (by omega) (c_hasButton h y ?_)
    refine V_if_ne (tgt := 18) dX2_separateButtons_13 (by decide) (fun c_13 => ?_) (fun c_13 => ?_)
    · refine V_aload_1 dX2_separateButtons_18 ?_
      refine V_iload_2 dX2_separateButtons_19 ?_
      refine V_iload_3 dX2_separateButtons_20 ?_
      have h : MS G H g 10 a (bal, ten, cs, ps, n, ch, td, nx) := ⟨hbl, htl, b, k0, u, v, ho, hbal, hten, hcs, hps⟩
      refine V_call_i (runV2 dX2_separateButtons_21 ce_X9_tensionBetween rfl ml_X2_104 im_X9_tensionBetween se_X9_tensionBetween ho.ro ⟨_, rfl, rfl⟩ (Nat.le_of_ble_eq_true rfl)) (by omega) (by omega) (by omega) (c_tensionBetween h x y ?_)
      refine V_istore_4 dX2_separateButtons_24 rfl ?_
      refine V_iload_4 dX2_separateButtons_26 ?_
      refine V_if_ne (tgt := 34) dX2_separateButtons_28 (by decide) (fun c_28 => ?_) (fun c_28 => ?_)
      · refine V_aload_1 dX2_separateButtons_34 ?_
        refine V_iload_2 dX2_separateButtons_35 ?_
        refine V_iload_3 dX2_separateButtons_36 ?_
        refine V_iconst (v := 0) dX2_separateButtons_37 rfl ?_
        have h : MS G H g 10 a (bal, ten, cs, ps, n, ch, td, nx) := ⟨hbl, htl, b, k0, u, v, ho, hbal, hten, hcs, hps⟩
        refine V_call_v (runV3 dX2_separateButtons_38 ce_X9_putTension rfl ml_X2_108 im_X9_putTension se_X9_putTension ho.ro ⟨_, rfl, rfl⟩ (Nat.le_of_ble_eq_true rfl)) (by omega) (by omega) (by omega) (c_putT h (x := x) (y := y) (z := 0) fun H1 g1 h e1 => ?_)
        clear hbl htl ho hbal hten hcs hps
        replace h : MS G H1 g1 10 a ((putTB (bal, ten, cs, ps, n, ch, td, nx) x y 0).1, (putTB (bal, ten, cs, ps, n, ch, td, nx) x y 0).2.1, (putTB (bal, ten, cs, ps, n, ch, td, nx) x y 0).2.2.1, (putTB (bal, ten, cs, ps, n, ch, td, nx) x y 0).2.2.2.1, (putTB (bal, ten, cs, ps, n, ch, td, nx) x y 0).2.2.2.2.1, (putTB (bal, ten, cs, ps, n, ch, td, nx) x y 0).2.2.2.2.2.1, (putTB (bal, ten, cs, ps, n, ch, td, nx) x y 0).2.2.2.2.2.2.1, (putTB (bal, ten, cs, ps, n, ch, td, nx) x y 0).2.2.2.2.2.2.2) := h
        obtain ⟨hbl, htl, b, k0, u, v, ho, hbal, hten, hcs, hps⟩ := MS10 h
        replace E := E.trans e1
        refine V_iload_4 dX2_separateButtons_41 ?_
        exact V_reti dX2_separateButtons_43 rfl rfl (by rw [sepB, if_neg c_5, if_neg c_13, if_neg c_28] at kk; exact kk H1 g1 ⟨hbl, htl, b, k0, u, v, ho, hbal, hten, hcs, hps⟩ E)
      · refine V_bipush (v := (-4)) dX2_separateButtons_31 (by decide) ?_
        exact V_reti dX2_separateButtons_33 rfl rfl (by rw [sepB, if_neg c_5, if_neg c_13, if_pos c_28] at kk; exact kk H g ⟨hbl, htl, b, k0, u, v, ho, hbal, hten, hcs, hps⟩ E)
    · refine V_iconst (v := (-1)) dX2_separateButtons_16 rfl ?_
      exact V_reti dX2_separateButtons_17 rfl rfl (by rw [sepB, if_neg c_5, if_pos c_13] at kk; exact kk H g ⟨hbl, htl, b, k0, u, v, ho, hbal, hten, hcs, hps⟩ E)
def sepBB (S : StC) (x : Int32) (y : Int32) := sepB S.1 S.2.1 S.2.2.1 S.2.2.2.1 S.2.2.2.2.1 S.2.2.2.2.2.1 S.2.2.2.2.2.2.1 S.2.2.2.2.2.2.2 x y
def moveC (bal : List Int32) (ten : List Int32) (cs : List CaseC) (ps : List PrecC) (n : Int32) (ch : Int32) (td : Int32) (nx : Int32) (x : Int32) (y : Int32) (z : Int32) : Int32 × StC := if (b2i (hasB n x)) = 0 then ((-1), (bal, ten, cs, ps, n, ch, td, nx)) else (if (b2i (hasB n y)) = 0 then ((-1), (bal, ten, cs, ps, n, ch, td, nx)) else (if x = y then ((-2), (bal, ten, cs, ps, n, ch, td, nx)) else (if (isBtw z 1 999) = 0 then ((-2), (bal, ten, cs, ps, n, ch, td, nx)) else (if z ≤ (rd bal 8 x) then (rd ((addCB (addCB (bal, ten, cs, ps, n, ch, td, nx) x (-z)) y z).1) 8 x, ((addCB (addCB (bal, ten, cs, ps, n, ch, td, nx) x (-z)) y z).1, (addCB (addCB (bal, ten, cs, ps, n, ch, td, nx) x (-z)) y z).2.1, (addCB (addCB (bal, ten, cs, ps, n, ch, td, nx) x (-z)) y z).2.2.1, (addCB (addCB (bal, ten, cs, ps, n, ch, td, nx) x (-z)) y z).2.2.2.1, (addCB (addCB (bal, ten, cs, ps, n, ch, td, nx) x (-z)) y z).2.2.2.2.1, (addCB (addCB (bal, ten, cs, ps, n, ch, td, nx) x (-z)) y z).2.2.2.2.2.1, (addCB (addCB (bal, ten, cs, ps, n, ch, td, nx) x (-z)) y z).2.2.2.2.2.2.1, (addCB (addCB (bal, ten, cs, ps, n, ch, td, nx) x (-z)) y z).2.2.2.2.2.2.2)) else ((-3), (bal, ten, cs, ps, n, ch, td, nx))))))
set_option maxHeartbeats 4000000 in
set_option maxRecDepth 100000 in
theorem c_moveC {G : GT} {H : Heap} {g : Nat → Nat} {a : Nat} {X : String → Heap → Prop} {bal ten : List Int32} {cs : List CaseC} {ps : List PrecC} {n ch td nx : Int32} (h : MS G H g 10 a (bal, ten, cs, ps, n, ch, td, nx)) {o : Nat} {x y z : Int32} {F : Int32 → Heap → Prop} (kk : ∀ (H1 : Heap) (g1 : Nat → Nat), MS G H1 g1 10 a (moveC bal ten cs ps n ch td nx x y z).2 → Ext G [10, 11, 12, 13, 14, 15, 16] H g H1 g1 → F (moveC bal ten cs ps n ch td nx x y z).1 H1) : Call G kX2_moveCoins 2 0 0 [.ref o, .ref a, .int x, .int y, .int z] H (qi F) X := by
  obtain ⟨hbl, htl, b, k0, u, v, ho, hbal, hten, hcs, hps⟩ := MS10 h
  have E : Ext G [10, 11, 12, 13, 14, 15, 16] H g H g := Ext.rf
  refine startL (L0 := [some (.ref o), some (.ref a), some (.int x), some (.int y), some (.int z)]) rfl rfl pl_X2_moveCoins (Nat.le_of_ble_eq_true rfl) ?_
  refine V_aload_1 dX2_moveCoins_0 ?_
  refine V_iload_2 dX2_moveCoins_1 ?_
  have h : MS G H g 10 a (bal, ten, cs, ps, n, ch, td, nx) := ⟨hbl, htl, b, k0, u, v, ho, hbal, hten, hcs, hps⟩
  refine V_call_i (runV1 dX2_moveCoins_2 ce_X9_hasButton rfl ml_X2_96 im_X9_hasButton se_X9_hasButton ho.ro ⟨_, rfl, rfl⟩ (Nat.le_of_ble_eq_true rfl)) (by omega) (by omega) (by omega) (c_hasButton h x ?_)
  refine V_if_eq (tgt := 16) dX2_moveCoins_5 (by decide) (fun c_5 => ?_) (fun c_5 => ?_)
  · refine V_iconst (v := (-1)) dX2_moveCoins_16 rfl ?_
    exact V_reti dX2_moveCoins_17 rfl rfl (by rw [moveC, if_pos c_5] at kk; exact kk H g ⟨hbl, htl, b, k0, u, v, ho, hbal, hten, hcs, hps⟩ E)
  · refine V_aload_1 dX2_moveCoins_8 ?_
    refine V_iload_3 dX2_moveCoins_9 ?_
    have h : MS G H g 10 a (bal, ten, cs, ps, n, ch, td, nx) := ⟨hbl, htl, b, k0, u, v, ho, hbal, hten, hcs, hps⟩
    refine V_call_i (runV1 dX2_moveCoins_10 ce_X9_hasButton rfl ml_X2_96 im_X9_hasButton se_X9_hasButton ho.ro ⟨_, rfl, rfl⟩ (Nat.le_of_ble_eq_true rfl)) (by omega) (by omega) (by omega) (c_hasButton h y ?_)
    refine V_if_ne (tgt := 18) dX2_moveCoins_13 (by decide) (fun c_13 => ?_) (fun c_13 => ?_)
    · refine V_iload_2 dX2_moveCoins_18 ?_
      refine V_iload_3 dX2_moveCoins_19 ?_
      refine V_icmp_eq (tgt := 35) dX2_moveCoins_20 (by decide) (fun c_20 => ?_) (fun c_20 => ?_)
      · refine V_bipush (v := (-2)) dX2_moveCoins_35 (by decide) ?_
        exact V_reti dX2_moveCoins_37 rfl rfl (by rw [moveC, if_neg c_5, if_neg c_13, if_pos c_20] at kk; exact kk H g ⟨hbl, htl, b, k0, u, v, ho, hbal, hten, hcs, hps⟩ E)
      · refine V_iload_4 dX2_moveCoins_23 ?_
        refine V_iconst (v := 1) dX2_moveCoins_25 rfl ?_
        refine V_sipush (v := 999) dX2_moveCoins_26 (by decide) ?_
        refine V_call_i (runS3 dX2_moveCoins_29 ce_X2_isBetween rfl ml_X2_100 st_X2_isBetween (Nat.le_of_ble_eq_true rfl)) (by omega) (by omega) (by omega) (c_isBtw (x := z) (y := 1) (z := 999) ?_)
        refine V_if_ne (tgt := 38) dX2_moveCoins_32 (by decide) (fun c_32 => ?_) (fun c_32 => ?_)
        · refine V_aload_1 dX2_moveCoins_38 ?_
          refine V_iload_2 dX2_moveCoins_39 ?_
          have h : MS G H g 10 a (bal, ten, cs, ps, n, ch, td, nx) := ⟨hbl, htl, b, k0, u, v, ho, hbal, hten, hcs, hps⟩
          refine V_call_i (runV1 dX2_moveCoins_40 ce_X9_balanceOf rfl ml_X2_254 im_X9_balanceOf se_X9_balanceOf ho.ro ⟨_, rfl, rfl⟩ (Nat.le_of_ble_eq_true rfl)) (by omega) (by omega) (by omega) (c_balanceOf h x ?_)
          refine V_iload_4 dX2_moveCoins_43 ?_
          refine V_icmp_ge (tgt := 51) dX2_moveCoins_45 (by decide) (fun c_45 => ?_) (fun c_45 => ?_)
          · refine V_aload_1 dX2_moveCoins_51 ?_
            refine V_iload_2 dX2_moveCoins_52 ?_
            refine V_iload_4 dX2_moveCoins_53 ?_
            refine V_ineg dX2_moveCoins_55 ?_
            have h : MS G H g 10 a (bal, ten, cs, ps, n, ch, td, nx) := ⟨hbl, htl, b, k0, u, v, ho, hbal, hten, hcs, hps⟩
            refine V_call_v (runV2 dX2_moveCoins_56 ce_X9_addCoins rfl ml_X2_245 im_X9_addCoins se_X9_addCoins ho.ro ⟨_, rfl, rfl⟩ (Nat.le_of_ble_eq_true rfl)) (by omega) (by omega) (by omega) (c_addC h (x := x) (y := (-z)) fun H1 g1 h e1 => ?_)
            clear hbl htl ho hbal hten hcs hps
            replace h : MS G H1 g1 10 a ((addCB (bal, ten, cs, ps, n, ch, td, nx) x (-z)).1, (addCB (bal, ten, cs, ps, n, ch, td, nx) x (-z)).2.1, (addCB (bal, ten, cs, ps, n, ch, td, nx) x (-z)).2.2.1, (addCB (bal, ten, cs, ps, n, ch, td, nx) x (-z)).2.2.2.1, (addCB (bal, ten, cs, ps, n, ch, td, nx) x (-z)).2.2.2.2.1, (addCB (bal, ten, cs, ps, n, ch, td, nx) x (-z)).2.2.2.2.2.1, (addCB (bal, ten, cs, ps, n, ch, td, nx) x (-z)).2.2.2.2.2.2.1, (addCB (bal, ten, cs, ps, n, ch, td, nx) x (-z)).2.2.2.2.2.2.2) := h
            obtain ⟨hbl, htl, b, k0, u, v, ho, hbal, hten, hcs, hps⟩ := MS10 h
            replace E := E.trans e1
            refine V_aload_1 dX2_moveCoins_59 ?_
            refine V_iload_3 dX2_moveCoins_60 ?_
            refine V_iload_4 dX2_moveCoins_61 ?_
            have h : MS G H1 g1 10 a ((addCB (bal, ten, cs, ps, n, ch, td, nx) x (-z)).1, (addCB (bal, ten, cs, ps, n, ch, td, nx) x (-z)).2.1, (addCB (bal, ten, cs, ps, n, ch, td, nx) x (-z)).2.2.1, (addCB (bal, ten, cs, ps, n, ch, td, nx) x (-z)).2.2.2.1, (addCB (bal, ten, cs, ps, n, ch, td, nx) x (-z)).2.2.2.2.1, (addCB (bal, ten, cs, ps, n, ch, td, nx) x (-z)).2.2.2.2.2.1, (addCB (bal, ten, cs, ps, n, ch, td, nx) x (-z)).2.2.2.2.2.2.1, (addCB (bal, ten, cs, ps, n, ch, td, nx) x (-z)).2.2.2.2.2.2.2) := ⟨hbl, htl, b, k0, u, v, ho, hbal, hten, hcs, hps⟩
            refine V_call_v (runV2 dX2_moveCoins_63 ce_X9_addCoins rfl ml_X2_245 im_X9_addCoins se_X9_addCoins ho.ro ⟨_, rfl, rfl⟩ (Nat.le_of_ble_eq_true rfl)) (by omega) (by omega) (by omega) (c_addC h (x := y) (y := z) fun H2 g2 h e2 => ?_)
            clear hbl htl ho hbal hten hcs hps
            replace h : MS G H2 g2 10 a ((addCB (addCB (bal, ten, cs, ps, n, ch, td, nx) x (-z)) y z).1, (addCB (addCB (bal, ten, cs, ps, n, ch, td, nx) x (-z)) y z).2.1, (addCB (addCB (bal, ten, cs, ps, n, ch, td, nx) x (-z)) y z).2.2.1, (addCB (addCB (bal, ten, cs, ps, n, ch, td, nx) x (-z)) y z).2.2.2.1, (addCB (addCB (bal, ten, cs, ps, n, ch, td, nx) x (-z)) y z).2.2.2.2.1, (addCB (addCB (bal, ten, cs, ps, n, ch, td, nx) x (-z)) y z).2.2.2.2.2.1, (addCB (addCB (bal, ten, cs, ps, n, ch, td, nx) x (-z)) y z).2.2.2.2.2.2.1, (addCB (addCB (bal, ten, cs, ps, n, ch, td, nx) x (-z)) y z).2.2.2.2.2.2.2) := h
            obtain ⟨hbl, htl, b, k0, u, v, ho, hbal, hten, hcs, hps⟩ := MS10 h
            replace E := E.trans e2
            refine V_aload_1 dX2_moveCoins_66 ?_
            refine V_iload_2 dX2_moveCoins_67 ?_
            have h : MS G H2 g2 10 a ((addCB (addCB (bal, ten, cs, ps, n, ch, td, nx) x (-z)) y z).1, (addCB (addCB (bal, ten, cs, ps, n, ch, td, nx) x (-z)) y z).2.1, (addCB (addCB (bal, ten, cs, ps, n, ch, td, nx) x (-z)) y z).2.2.1, (addCB (addCB (bal, ten, cs, ps, n, ch, td, nx) x (-z)) y z).2.2.2.1, (addCB (addCB (bal, ten, cs, ps, n, ch, td, nx) x (-z)) y z).2.2.2.2.1, (addCB (addCB (bal, ten, cs, ps, n, ch, td, nx) x (-z)) y z).2.2.2.2.2.1, (addCB (addCB (bal, ten, cs, ps, n, ch, td, nx) x (-z)) y z).2.2.2.2.2.2.1, (addCB (addCB (bal, ten, cs, ps, n, ch, td, nx) x (-z)) y z).2.2.2.2.2.2.2) := ⟨hbl, htl, b, k0, u, v, ho, hbal, hten, hcs, hps⟩
            refine V_call_i (runV1 dX2_moveCoins_68 ce_X9_balanceOf rfl ml_X2_254 im_X9_balanceOf se_X9_balanceOf ho.ro ⟨_, rfl, rfl⟩ (Nat.le_of_ble_eq_true rfl)) (by omega) (by omega) (by omega) (c_balanceOf h x ?_)
            exact V_reti dX2_moveCoins_71 rfl rfl (by rw [moveC, if_neg c_5, if_neg c_13, if_neg c_20, if_neg c_32, if_pos c_45] at kk; exact kk H2 g2 ⟨hbl, htl, b, k0, u, v, ho, hbal, hten, hcs, hps⟩ E)
          · refine V_bipush (v := (-3)) dX2_moveCoins_48 (by decide) ?_
            exact V_reti dX2_moveCoins_50 rfl rfl (by rw [moveC, if_neg c_5, if_neg c_13, if_neg c_20, if_neg c_32, if_neg c_45] at kk; exact kk H g ⟨hbl, htl, b, k0, u, v, ho, hbal, hten, hcs, hps⟩ E)
        · refine V_bipush (v := (-2)) dX2_moveCoins_35 (by decide) ?_
          exact V_reti dX2_moveCoins_37 rfl rfl (by rw [moveC, if_neg c_5, if_neg c_13, if_neg c_20, if_pos c_32] at kk; exact kk H g ⟨hbl, htl, b, k0, u, v, ho, hbal, hten, hcs, hps⟩ E)
    · refine V_iconst (v := (-1)) dX2_moveCoins_16 rfl ?_
      exact V_reti dX2_moveCoins_17 rfl rfl (by rw [moveC, if_neg c_5, if_pos c_13] at kk; exact kk H g ⟨hbl, htl, b, k0, u, v, ho, hbal, hten, hcs, hps⟩ E)
def moveCB (S : StC) (x : Int32) (y : Int32) (z : Int32) := moveC S.1 S.2.1 S.2.2.1 S.2.2.2.1 S.2.2.2.2.1 S.2.2.2.2.2.1 S.2.2.2.2.2.2.1 S.2.2.2.2.2.2.2 x y z
def daysC (bal : List Int32) (ten : List Int32) (cs : List CaseC) (ps : List PrecC) (n : Int32) (ch : Int32) (td : Int32) (nx : Int32) (x : Int32) : Int32 × StC := if (isBtw x 1 99) = 0 then ((-2), (bal, ten, cs, ps, n, ch, td, nx)) else (td + x, (bal, ten, cs, ps, n, ch, td + x, nx))
set_option maxHeartbeats 4000000 in
set_option maxRecDepth 100000 in
theorem c_daysC {G : GT} {H : Heap} {g : Nat → Nat} {a : Nat} {X : String → Heap → Prop} {bal ten : List Int32} {cs : List CaseC} {ps : List PrecC} {n ch td nx : Int32} (h : MS G H g 10 a (bal, ten, cs, ps, n, ch, td, nx)) {o : Nat} {x : Int32} {F : Int32 → Heap → Prop} (kk : ∀ (H1 : Heap) (g1 : Nat → Nat), MS G H1 g1 10 a (daysC bal ten cs ps n ch td nx x).2 → Ext G [10, 11, 12, 13, 14, 15, 16] H g H1 g1 → F (daysC bal ten cs ps n ch td nx x).1 H1) : Call G kX2_letDaysPass 1 0 0 [.ref o, .ref a, .int x] H (qi F) X := by
  obtain ⟨hbl, htl, b, k0, u, v, ho, hbal, hten, hcs, hps⟩ := MS10 h
  have E : Ext G [10, 11, 12, 13, 14, 15, 16] H g H g := Ext.rf
  refine startL (L0 := [some (.ref o), some (.ref a), some (.int x)]) rfl rfl pl_X2_letDaysPass (Nat.le_of_ble_eq_true rfl) ?_
  refine V_iload_2 dX2_letDaysPass_0 ?_
  refine V_iconst (v := 1) dX2_letDaysPass_1 rfl ?_
  refine V_bipush (v := 99) dX2_letDaysPass_2 (by decide) ?_
  refine V_call_i (runS3 dX2_letDaysPass_4 ce_X2_isBetween rfl ml_X2_100 st_X2_isBetween (Nat.le_of_ble_eq_true rfl)) (by omega) (by omega) (by omega) (c_isBtw (x := x) (y := 1) (z := 99) ?_)
  refine V_if_ne (tgt := 13) dX2_letDaysPass_7 (by decide) (fun c_7 => ?_) (fun c_7 => ?_)
  · refine V_aload_1 dX2_letDaysPass_13 ?_
    refine V_dup dX2_letDaysPass_14 rfl ?_
    refine V_getf dX2_letDaysPass_15 fl_X2_162 ho.ro rfl ?_
    refine V_iload_2 dX2_letDaysPass_18 ?_
    refine V_iadd dX2_letDaysPass_19 ?_
    refine V_put dX2_letDaysPass_20 fp_X2_letDaysPass_162 ho (by decide) ⟨rfl, rfl⟩ (Nat.le_of_ble_eq_true rfl) rfl fun H1 ho e1 z1 => ?_
    replace hbal := hbal.fr e1 (by decide)
    replace hten := hten.fr e1 (by decide)
    replace hcs := hcs.fr e1 (by decide) (by decide)
    replace hps := hps.fr e1 (by decide) (by decide)
    replace E := E.trans (e1.wide (by decide))
    refine V_aload_1 dX2_letDaysPass_23 ?_
    refine V_getf dX2_letDaysPass_24 fl_X2_162 ho.ro rfl ?_
    exact V_reti dX2_letDaysPass_27 rfl rfl (by rw [daysC, if_neg c_7] at kk; exact kk H1 g ⟨hbl, htl, b, k0, u, v, ho, hbal, hten, hcs, hps⟩ E)
  · refine V_bipush (v := (-2)) dX2_letDaysPass_10 (by decide) ?_
    exact V_reti dX2_letDaysPass_12 rfl rfl (by rw [daysC, if_pos c_7] at kk; exact kk H g ⟨hbl, htl, b, k0, u, v, ho, hbal, hten, hcs, hps⟩ E)
def daysCB (S : StC) (x : Int32) := daysC S.1 S.2.1 S.2.2.1 S.2.2.2.1 S.2.2.2.2.1 S.2.2.2.2.2.1 S.2.2.2.2.2.2.1 S.2.2.2.2.2.2.2 x

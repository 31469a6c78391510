def Se (G : GT) (H : Heap) (g : Nat → Nat) (se ac mp : Nat) (cnt : Int32) : Prop := Ob G H g 29 se 12 [.ref ac, .ref mp, .int cnt] ∧ ¬ cnt < 0
theorem Se.fr {G : GT} {H H1 : Heap} {g g1 : Nat → Nat} {ts : List Nat} {se ac mp : Nat} {cnt : Int32} (h : Se G H g se ac mp cnt) (e : Ext G ts H g H1 g1) (ht : 29 ∉ ts) : Se G H1 g1 se ac mp cnt := ⟨h.1.fr e ht, h.2⟩
def addA (x : Int32) (cnt : Int32) (al : List Int32) : Int32 × List Int32 := if x = 0 then (cnt, al) else (if 9 ≤ cnt then (cnt, al) else (cnt + 1, sI al cnt x))
set_option maxHeartbeats 1000000 in
set_option maxRecDepth 100000 in
theorem c_addA {G : GT} {X : String → Heap → Prop} {H : Heap} {g : Nat → Nat} {se ac mp : Nat} {x : Int32} {cnt : Int32} {al : List Int32} (hse : Se G H g se ac mp cnt) (hac : Ja G H g 30 ac 0 9 al)  {F : Heap → Prop} (kk : ∀ (H1 : Heap) (g1 : Nat → Nat), Se G H1 g1 se ac mp (addA x cnt al).1 → Ja G H1 g1 30 ac 0 9 (addA x cnt al).2 → Ext G [29, 30] H g H1 g1 → F H1) : Call G kX8_addAccount 0 0 0 [.ref se, .int x] H (qv F) X := by
  have E : Ext G [29, 30] H g H g := Ext.rf
  refine startL (L0 := [some (.ref se), some (.int x)]) rfl rfl pl_X8_addAccount (Nat.le_of_ble_eq_true rfl) ?_
  refine V_iload_1 dX8_addAccount_0 ?_
  refine V_if_eq (tgt := 36) dX8_addAccount_1 (by decide) (fun c_1 => ?_) (fun c_1 => ?_)
  · exact V_retv dX8_addAccount_36 rfl (by rw [addA, if_pos c_1] at kk; exact kk H g hse hac E)
  · refine V_aload_0 dX8_addAccount_4 ?_
    refine V_getf dX8_addAccount_5 fl_X8_18 hse.1.ro rfl ?_
    refine V_aload_0 dX8_addAccount_8 ?_
    refine V_getf dX8_addAccount_9 fl_X8_9 hse.1.ro rfl ?_
    refine V_alen (v := 9) dX8_addAccount_12 hac.1.ra (by rw [hac.2]; rfl) ?_
    refine V_icmp_ge (tgt := 36) dX8_addAccount_13 (by decide) (fun c_13 => ?_) (fun c_13 => ?_)
    · exact V_retv dX8_addAccount_36 rfl (by rw [addA, if_neg c_1, if_pos c_13] at kk; exact kk H g hse hac E)
    · refine V_aload_0 dX8_addAccount_16 ?_
      refine V_getf dX8_addAccount_17 fl_X8_9 hse.1.ro rfl ?_
      refine V_aload_0 dX8_addAccount_20 ?_
      refine V_getf dX8_addAccount_21 fl_X8_18 hse.1.ro rfl ?_
      refine V_iload_1 dX8_addAccount_24 ?_
      refine V_ias dX8_addAccount_25 hac.1 (by decide) (hac.2 ▸ inR (n := 9) rfl (by decide) hse.2 c_13) fun H1 hnew e1 z1 => ?_
      have hj : Ja G H1 g 30 ac 0 9 (sI al cnt x) := ⟨hnew, sI_len.trans hac.2⟩
      replace hse := hse.fr e1 (by decide)
      replace E := E.trans (e1.wide (by decide))
      replace hac := hj
      clear hj hnew
      refine V_aload_0 dX8_addAccount_26 ?_
      refine V_dup dX8_addAccount_27 rfl ?_
      refine V_getf dX8_addAccount_28 fl_X8_18 hse.1.ro rfl ?_
      refine V_iconst (v := 1) dX8_addAccount_31 rfl ?_
      refine V_iadd dX8_addAccount_32 ?_
      refine V_put dX8_addAccount_33 fp_X8_addAccount_18 hse.1 (by decide) ⟨rfl, rfl⟩ (Nat.le_of_ble_eq_true rfl) rfl fun H2 hnew e2 z2 => ?_
      have hj : Se G H2 g se ac mp (cnt + 1) := ⟨hnew, nn_step c_13 hse.2⟩
      replace hac := hac.fr e2 (by decide)
      replace E := E.trans (e2.wide (by decide))
      replace hse := hj
      clear hj hnew
      exact V_retv dX8_addAccount_36 rfl (by rw [addA, if_neg c_1, if_neg c_13] at kk; exact kk H2 g hse hac E)
def collAL (bal : List Int32) (n : Int32) (ch : Int32) : Nat → Int32 → Int32 → List Int32 → Int32 × List Int32
  | 0, i, cnt, al => (cnt, al)
  | k + 1, i, cnt, al => if n ≤ i then (cnt, al) else (collAL bal n ch k (i + 1) ((addA (rd bal 8 i) cnt al).1) ((addA (rd bal 8 i) cnt al).2))
def collA (bal : List Int32) (n : Int32) (ch : Int32) (cnt : Int32) (al : List Int32) : Int32 × List Int32 := collAL bal n ch n.toNatClampNeg 0 ((addA ch 0 al).1) ((addA ch 0 al).2)
set_option maxHeartbeats 1000000 in
set_option maxRecDepth 100000 in
theorem c_collAL {G : GT} {X : String → Heap → Prop} {H0 : Heap} {g0 : Nat → Nat} {se ac mp : Nat} {bal ten : List Int32} {cs : List CaseC} {ps : List PrecC} {n ch td nx : Int32} {t a : Nat} (ht : t = 0 ∨ t = 10) {F : Heap → Prop} {cc ss : Nat} : ∀ (k : Nat) (i : Int32) (cnt : Int32) (al : List Int32) (H : Heap) (g : Nat → Nat), Se G H g se ac mp cnt → Ja G H g 30 ac 0 9 al → MS G H g t a (bal, ten, cs, ps, n, ch, td, nx) → Ext G [29, 30] H0 g0 H g → n.toInt ≤ i.toInt + ((k : Nat) : Int) → (∀ (H1 : Heap) (g1 : Nat → Nat), Se G H1 g1 se ac mp (collAL bal n ch k i cnt al).1 → Ja G H1 g1 30 ac 0 9 (collAL bal n ch k i cnt al).2 → Ext G [29, 30] H0 g0 H1 g1 → F H1) → V G kX8_collectAccounts 2 cc ss (qv F) X 15 [some (.ref se), some (.ref a), some (.int i)] [] H := by
  intro k
  induction k with
  | zero =>
    intro i cnt al H g hse hac h E hm kk
    refine V_iload_2 dX8_collectAccounts_15 ?_
    refine V_aload_1 dX8_collectAccounts_16 ?_
    obtain ⟨hbl, htl, b, k0, u, v, ho, hbal, hten, hcs, hps⟩ := id h
    refine V_getf dX8_collectAccounts_17 fl_X8_52 ho.ro rfl ?_
    refine V_icmp_ge (tgt := 38) dX8_collectAccounts_20 (by decide) (fun c_20 => ?_) (fun c_20 => ?_)
    · exact V_retv dX8_collectAccounts_38 rfl (by rw [collAL] at kk; exact kk H g hse hac E)
    · exact absurd (loop_end hm) c_20
  | succ k ih =>
    intro i cnt al H g hse hac h E hm kk
    refine V_iload_2 dX8_collectAccounts_15 ?_
    refine V_aload_1 dX8_collectAccounts_16 ?_
    obtain ⟨hbl, htl, b, k0, u, v, ho, hbal, hten, hcs, hps⟩ := id h
    refine V_getf dX8_collectAccounts_17 fl_X8_52 ho.ro rfl ?_
    refine V_icmp_ge (tgt := 38) dX8_collectAccounts_20 (by decide) (fun c_20 => ?_) (fun c_20 => ?_)
    · exact V_retv dX8_collectAccounts_38 rfl (by rw [collAL, if_pos c_20] at kk; exact kk H g hse hac E)
    · refine V_aload_0 dX8_collectAccounts_23 ?_
      refine V_aload_1 dX8_collectAccounts_24 ?_
      refine V_iload_2 dX8_collectAccounts_25 ?_
      refine V_call_i (runV1 dX8_collectAccounts_26 ce_X9_balanceOf rfl ml_X8_55 im_X9_balanceOf se_X9_balanceOf ho.ro ⟨_, rfl, rfl⟩ (Nat.le_of_ble_eq_true rfl)) (by omega) (by omega) (by omega) (c_balanceOf h i ?_)
      refine V_call_v (runV1 dX8_collectAccounts_29 ce_X8_addAccount rfl ml_X8_48 im_X8_addAccount se_X8_addAccount hse.1.ro ⟨_, rfl, rfl⟩ (Nat.le_of_ble_eq_true rfl)) (by omega) (by omega) (by omega) (c_addA (x := (rd bal 8 i)) hse hac fun H1 g1 hse_ hac_ e1 => ?_)
      replace h := h.fr e1 (tk_of ht (by decide))
      replace E := E.trans (e1.wide (by decide))
      replace hse : Se G H1 g1 se ac mp ((addA (rd bal 8 i) cnt al).1) := hse_
      clear hse_
      replace hac : Ja G H1 g1 30 ac 0 9 ((addA (rd bal 8 i) cnt al).2) := hac_
      clear hac_
      refine V_iinc_2 (v := 1) dX8_collectAccounts_32 rfl rfl ?_
      refine V_goto (tgt := 15) dX8_collectAccounts_35 (by decide) ?_
      exact ih _ _ _ H1 g1 hse hac h E (loop_step c_20 hm)  (by rw [collAL, if_neg c_20] at kk; exact kk)
set_option maxHeartbeats 1000000 in
set_option maxRecDepth 100000 in
theorem c_collA {G : GT} {X : String → Heap → Prop} {H : Heap} {g : Nat → Nat} {se ac mp : Nat} {bal ten : List Int32} {cs : List CaseC} {ps : List PrecC} {n ch td nx : Int32} {t a : Nat} (ht : t = 0 ∨ t = 10) {cnt : Int32} {al : List Int32} (hse : Se G H g se ac mp cnt) (hac : Ja G H g 30 ac 0 9 al) (h : MS G H g t a (bal, ten, cs, ps, n, ch, td, nx)) {F : Heap → Prop} (kk : ∀ (H1 : Heap) (g1 : Nat → Nat), Se G H1 g1 se ac mp (collA bal n ch cnt al).1 → Ja G H1 g1 30 ac 0 9 (collA bal n ch cnt al).2 → Ext G [29, 30] H g H1 g1 → F H1) : Call G kX8_collectAccounts 2 0 0 [.ref se, .ref a] H (qv F) X := by
  have E : Ext G [29, 30] H g H g := Ext.rf
  refine startL (L0 := [some (.ref se), some (.ref a), none]) rfl rfl pl_X8_collectAccounts (Nat.le_of_ble_eq_true rfl) ?_
  refine V_aload_0 dX8_collectAccounts_0 ?_
  refine V_iconst (v := 0) dX8_collectAccounts_1 rfl ?_
  refine V_put dX8_collectAccounts_2 fp_X8_collectAccounts_18 hse.1 (by decide) ⟨rfl, rfl⟩ (Nat.le_of_ble_eq_true rfl) rfl fun H1 hnew e1 z1 => ?_
  have hj : Se G H1 g se ac mp 0 := ⟨hnew, (by decide)⟩
  replace hac := hac.fr e1 (by decide)
  replace h := h.fr e1 (tk_of ht (by decide))
  replace E := E.trans (e1.wide (by decide))
  replace hse := hj
  clear hj hnew
  refine V_aload_0 dX8_collectAccounts_5 ?_
  refine V_aload_1 dX8_collectAccounts_6 ?_
  obtain ⟨hbl, htl, b, k0, u, v, ho, hbal, hten, hcs, hps⟩ := id h
  refine V_getf dX8_collectAccounts_7 fl_X8_43 ho.ro rfl ?_
  refine V_call_v (runV1 dX8_collectAccounts_10 ce_X8_addAccount rfl ml_X8_48 im_X8_addAccount se_X8_addAccount hse.1.ro ⟨_, rfl, rfl⟩ (Nat.le_of_ble_eq_true rfl)) (by omega) (by omega) (by omega) (c_addA (x := ch) hse hac fun H2 g2 hse_ hac_ e2 => ?_)
  replace h := h.fr e2 (tk_of ht (by decide))
  replace E := E.trans (e2.wide (by decide))
  replace hse : Se G H2 g2 se ac mp ((addA ch 0 al).1) := hse_
  clear hse_
  replace hac : Ja G H2 g2 30 ac 0 9 ((addA ch 0 al).2) := hac_
  clear hac_
  refine V_iconst (v := 0) dX8_collectAccounts_13 rfl ?_
  refine V_istore_2 dX8_collectAccounts_14 rfl ?_
  exact c_collAL ht  n.toNatClampNeg 0 _ _ H2 g2 hse hac h (Ext.rf (ts := [29, 30])) loop_init  (by rw [collA] at kk; exact fun Hz gz hse_ hac_ ez => kk Hz gz hse_ hac_ (E.trans ez))
def partL (al : List Int32) (pl : List Int32) (x : Int32) : Nat → Int32 → Int32 → Int32 → Int32
  | 0, pa, su, i => if su = 0 then (pa + 1) else pa
  | k + 1, pa, su, i => if 9 ≤ i then (if su = 0 then (pa + 1) else pa) else (if (x &&& (((1 : Int32) <<< (i &&& 31)) ^^^ (-1))) = x then (partL al pl x k pa su (i + 1)) else (if (x &&& (((1 : Int32) <<< (i &&& 31)) ^^^ (-1))) < 0 then (partL al pl x k pa su (i + 1)) else (if 512 ≤ (x &&& (((1 : Int32) <<< (i &&& 31)) ^^^ (-1))) then (partL al pl x k pa su (i + 1)) else (partL al pl x k (imax pa (gI pl (x &&& (((1 : Int32) <<< (i &&& 31)) ^^^ (-1))))) (su + (gI al i)) (i + 1)))))
def partO (al : List Int32) (pl : List Int32) (x : Int32)  : Int32 := partL al pl x 9 0 0 0
set_option maxHeartbeats 1000000 in
set_option maxRecDepth 100000 in
theorem c_partL {G : GT} {X : String → Heap → Prop} {H0 : Heap} {g0 : Nat → Nat} {se ac mp : Nat} {cnt x : Int32} {al pl : List Int32} {F : Int32 → Heap → Prop} {cc ss : Nat} : ∀ (k : Nat) (pa : Int32) (su : Int32) (i : Int32)  (H : Heap) (g : Nat → Nat), Se G H g se ac mp cnt → Ja G H g 30 ac 0 9 al → Ja G H g 31 mp 0 512 pl → Ext G [31] H0 g0 H g → (9 : Int32).toInt ≤ i.toInt + ((k : Nat) : Int) → ¬ i < 0 → (F (partL al pl x k pa su i) H) → V G kX8_partsOf 1 cc ss (qi F) X 7 [some (.ref se), some (.int x), some (.int pa), some (.int su), some (.int i), none] [] H := by
  intro k
  induction k with
  | zero =>
    intro pa su i H g hse hac hmp E hm hi0 kk
    refine V_iload_4 dX8_partsOf_7 ?_
    refine V_aload_0 dX8_partsOf_9 ?_
    refine V_getf dX8_partsOf_10 fl_X8_9 hse.1.ro rfl ?_
    refine V_alen (v := 9) dX8_partsOf_13 hac.1.ra (by rw [hac.2]; rfl) ?_
    refine V_icmp_ge (tgt := 76) dX8_partsOf_14 (by decide) (fun c_14 => ?_) (fun c_14 => ?_)
    · refine V_iload_3 dX8_partsOf_76 ?_
      refine V_if_ne (tgt := 86) dX8_partsOf_77 (by decide) (fun c_77 => ?_) (fun c_77 => ?_)
      · refine V_iload_2 dX8_partsOf_86 ?_
        exact V_reti dX8_partsOf_87 rfl rfl (by rw [partL, if_neg c_77] at kk; exact kk )
      · refine V_iload_2 dX8_partsOf_80 ?_
        refine V_iconst (v := 1) dX8_partsOf_81 rfl ?_
        refine V_iadd dX8_partsOf_82 ?_
        refine V_goto (tgt := 87) dX8_partsOf_83 (by decide) ?_
        exact V_reti dX8_partsOf_87 rfl rfl (by rw [partL, if_pos c_77] at kk; exact kk )
    · exact absurd (loop_end hm) c_14
  | succ k ih =>
    intro pa su i H g hse hac hmp E hm hi0 kk
    refine V_iload_4 dX8_partsOf_7 ?_
    refine V_aload_0 dX8_partsOf_9 ?_
    refine V_getf dX8_partsOf_10 fl_X8_9 hse.1.ro rfl ?_
    refine V_alen (v := 9) dX8_partsOf_13 hac.1.ra (by rw [hac.2]; rfl) ?_
    refine V_icmp_ge (tgt := 76) dX8_partsOf_14 (by decide) (fun c_14 => ?_) (fun c_14 => ?_)
    · refine V_iload_3 dX8_partsOf_76 ?_
      refine V_if_ne (tgt := 86) dX8_partsOf_77 (by decide) (fun c_77 => ?_) (fun c_77 => ?_)
      · refine V_iload_2 dX8_partsOf_86 ?_
        exact V_reti dX8_partsOf_87 rfl rfl (by rw [partL, if_pos c_14, if_neg c_77] at kk; exact kk )
      · refine V_iload_2 dX8_partsOf_80 ?_
        refine V_iconst (v := 1) dX8_partsOf_81 rfl ?_
        refine V_iadd dX8_partsOf_82 ?_
        refine V_goto (tgt := 87) dX8_partsOf_83 (by decide) ?_
        exact V_reti dX8_partsOf_87 rfl rfl (by rw [partL, if_pos c_14, if_pos c_77] at kk; exact kk )
    · refine V_iload_1 dX8_partsOf_17 ?_
      refine V_iconst (v := 1) dX8_partsOf_18 rfl ?_
      refine V_iload_4 dX8_partsOf_19 ?_
      refine V_ishl dX8_partsOf_21 ?_
      refine V_iconst (v := (-1)) dX8_partsOf_22 rfl ?_
      refine V_ixor dX8_partsOf_23 ?_
      refine V_iand dX8_partsOf_24 ?_
      refine V_istore_5 dX8_partsOf_25 rfl ?_
      refine V_iload_5 dX8_partsOf_27 ?_
      refine V_iload_1 dX8_partsOf_29 ?_
      refine V_icmp_eq (tgt := 70) dX8_partsOf_30 (by decide) (fun c_30 => ?_) (fun c_30 => ?_)
      · refine V_iinc_4 (v := 1) dX8_partsOf_70 rfl rfl ?_
        refine V_goto (tgt := 7) dX8_partsOf_73 (by decide) ?_
        refine V_drop 5 rfl ?_
        exact ih _ _ _ H g hse hac hmp E (loop_step c_14 hm) (nn_step c_14 hi0) (by rw [partL, if_neg c_14, if_pos c_30] at kk; exact kk)
      · refine V_iload_5 dX8_partsOf_33 ?_
        refine V_if_lt (tgt := 70) dX8_partsOf_35 (by decide) (fun c_35 => ?_) (fun c_35 => ?_)
        · refine V_iinc_4 (v := 1) dX8_partsOf_70 rfl rfl ?_
          refine V_goto (tgt := 7) dX8_partsOf_73 (by decide) ?_
          refine V_drop 5 rfl ?_
          exact ih _ _ _ H g hse hac hmp E (loop_step c_14 hm) (nn_step c_14 hi0) (by rw [partL, if_neg c_14, if_neg c_30, if_pos c_35] at kk; exact kk)
        · refine V_iload_5 dX8_partsOf_38 ?_
          refine V_aload_0 dX8_partsOf_40 ?_
          refine V_getf dX8_partsOf_41 fl_X8_15 hse.1.ro rfl ?_
          refine V_alen (v := 512) dX8_partsOf_44 hmp.1.ra (by rw [hmp.2]; rfl) ?_
          refine V_icmp_ge (tgt := 70) dX8_partsOf_45 (by decide) (fun c_45 => ?_) (fun c_45 => ?_)
          · refine V_iinc_4 (v := 1) dX8_partsOf_70 rfl rfl ?_
            refine V_goto (tgt := 7) dX8_partsOf_73 (by decide) ?_
            refine V_drop 5 rfl ?_
            exact ih _ _ _ H g hse hac hmp E (loop_step c_14 hm) (nn_step c_14 hi0) (by rw [partL, if_neg c_14, if_neg c_30, if_neg c_35, if_pos c_45] at kk; exact kk)
          · refine V_iload_3 dX8_partsOf_48 ?_
            refine V_aload_0 dX8_partsOf_49 ?_
            refine V_getf dX8_partsOf_50 fl_X8_9 hse.1.ro rfl ?_
            refine V_iload_4 dX8_partsOf_53 ?_
            refine V_iald (v := .int (gI al i)) dX8_partsOf_55 hac.1.ra (hac.2 ▸ inR (n := 9) rfl (by decide) hi0 c_14) rfl ?_
            refine V_iadd dX8_partsOf_56 ?_
            refine V_istore_3 dX8_partsOf_57 rfl ?_
            refine V_iload_2 dX8_partsOf_58 ?_
            refine V_aload_0 dX8_partsOf_59 ?_
            refine V_getf dX8_partsOf_60 fl_X8_15 hse.1.ro rfl ?_
            refine V_iload_5 dX8_partsOf_63 ?_
            refine V_iald (v := .int (gI pl (x &&& (((1 : Int32) <<< (i &&& 31)) ^^^ (-1))))) dX8_partsOf_65 hmp.1.ra (hmp.2 ▸ inR (n := 512) rfl (by decide) c_35 c_45) rfl ?_
            refine V_mmax dX8_partsOf_66 ml_X8_30 ex_maxS ex_mth ex_maxC (Nat.le_of_ble_eq_true rfl) (Nat.le_of_ble_eq_true rfl) ?_
            refine V_istore_2 dX8_partsOf_69 rfl ?_
            refine V_iinc_4 (v := 1) dX8_partsOf_70 rfl rfl ?_
            refine V_goto (tgt := 7) dX8_partsOf_73 (by decide) ?_
            refine V_drop 5 rfl ?_
            exact ih _ _ _ H g hse hac hmp E (loop_step c_14 hm) (nn_step c_14 hi0) (by rw [partL, if_neg c_14, if_neg c_30, if_neg c_35, if_neg c_45] at kk; exact kk)
set_option maxHeartbeats 1000000 in
set_option maxRecDepth 100000 in
theorem c_partO {G : GT} {X : String → Heap → Prop} {H : Heap} {g : Nat → Nat} {se ac mp : Nat} {cnt x : Int32} {al pl : List Int32}   (hse : Se G H g se ac mp cnt) (hac : Ja G H g 30 ac 0 9 al) (hmp : Ja G H g 31 mp 0 512 pl) {F : Int32 → Heap → Prop} (kk : F (partO al pl x) H) : Call G kX8_partsOf 1 0 0 [.ref se, .int x] H (qi F) X := by
  refine startL (L0 := [some (.ref se), some (.int x), none, none, none, none]) rfl rfl pl_X8_partsOf (Nat.le_of_ble_eq_true rfl) ?_
  refine V_iconst (v := 0) dX8_partsOf_0 rfl ?_
  refine V_istore_2 dX8_partsOf_1 rfl ?_
  refine V_iconst (v := 0) dX8_partsOf_2 rfl ?_
  refine V_istore_3 dX8_partsOf_3 rfl ?_
  refine V_iconst (v := 0) dX8_partsOf_4 rfl ?_
  refine V_istore_4 dX8_partsOf_5 rfl ?_
  exact c_partL   9 0 0 0 H g hse hac hmp (Ext.rf (ts := [31])) (by decide) (by decide) (by rw [partO] at kk; exact kk)
def bySL (bal : List Int32) (n : Int32) (ch : Int32) : Nat → Int32 → Int32 → Int32 → List Int32 → List Int32 → Int32 × Int32 × List Int32 × List Int32
  | 0, pa, i, cnt, al, pl => if ((1 : Int32) <<< (cnt &&& 31)) ≤ i then (cnt - pa, cnt, al, pl) else (cnt - pa, cnt, al, pl)
  | k + 1, pa, i, cnt, al, pl => if ((1 : Int32) <<< (cnt &&& 31)) ≤ i then (cnt - pa, cnt, al, pl) else (if 512 ≤ i then (cnt - pa, cnt, al, pl) else (bySL bal n ch k (partO al pl i) (i + 1) cnt al (sI pl i (partO al pl i))))
def byS (bal : List Int32) (n : Int32) (ch : Int32) (cnt : Int32) (al : List Int32) (pl : List Int32) : Int32 × Int32 × List Int32 × List Int32 := bySL bal n ch 512 0 1 ((collA bal n ch cnt al).1) ((collA bal n ch cnt al).2) pl
set_option maxHeartbeats 1000000 in
set_option maxRecDepth 100000 in
theorem c_bySL {G : GT} {X : String → Heap → Prop} {H0 : Heap} {g0 : Nat → Nat} {se ac mp : Nat} {bal ten : List Int32} {cs : List CaseC} {ps : List PrecC} {n ch td nx : Int32} {t a : Nat} (ht : t = 0 ∨ t = 10) {F : Int32 → Heap → Prop} {cc ss : Nat} : ∀ (k : Nat) (pa : Int32) (i : Int32) (cnt : Int32) (al : List Int32) (pl : List Int32) (H : Heap) (g : Nat → Nat), Se G H g se ac mp cnt → Ja G H g 30 ac 0 9 al → Ja G H g 31 mp 0 512 pl → MS G H g t a (bal, ten, cs, ps, n, ch, td, nx) → Ext G [29, 30, 31] H0 g0 H g → (512 : Int32).toInt ≤ i.toInt + ((k : Nat) : Int) → ¬ i < 0 → (∀ (H1 : Heap) (g1 : Nat → Nat), Se G H1 g1 se ac mp (bySL bal n ch k pa i cnt al pl).2.1 → Ja G H1 g1 30 ac 0 9 (bySL bal n ch k pa i cnt al pl).2.2.1 → Ja G H1 g1 31 mp 0 512 (bySL bal n ch k pa i cnt al pl).2.2.2 → Ext G [29, 30, 31] H0 g0 H1 g1 → F ((bySL bal n ch k pa i cnt al pl).1) H1) → V G kX8_bySets 3 cc ss (qi F) X 9 [some (.ref se), some (.ref a), some (.int pa), some (.int i)] [] H := by
  intro k
  induction k with
  | zero =>
    intro pa i cnt al pl H g hse hac hmp h E hm hi0 kk
    refine V_iload_3 dX8_bySets_9 ?_
    refine V_iconst (v := 1) dX8_bySets_10 rfl ?_
    refine V_aload_0 dX8_bySets_11 ?_
    refine V_getf dX8_bySets_12 fl_X8_18 hse.1.ro rfl ?_
    refine V_ishl dX8_bySets_15 ?_
    refine V_icmp_ge (tgt := 47) dX8_bySets_16 (by decide) (fun c_16 => ?_) (fun c_16 => ?_)
    · refine V_aload_0 dX8_bySets_47 ?_
      refine V_getf dX8_bySets_48 fl_X8_18 hse.1.ro rfl ?_
      refine V_iload_2 dX8_bySets_51 ?_
      refine V_isub dX8_bySets_52 ?_
      exact V_reti dX8_bySets_53 rfl rfl (by rw [bySL, if_pos c_16] at kk; exact kk H g hse hac hmp E)
    · refine V_iload_3 dX8_bySets_19 ?_
      refine V_aload_0 dX8_bySets_20 ?_
      refine V_getf dX8_bySets_21 fl_X8_15 hse.1.ro rfl ?_
      refine V_alen (v := 512) dX8_bySets_24 hmp.1.ra (by rw [hmp.2]; rfl) ?_
      refine V_icmp_ge (tgt := 47) dX8_bySets_25 (by decide) (fun c_25 => ?_) (fun c_25 => ?_)
      · refine V_aload_0 dX8_bySets_47 ?_
        refine V_getf dX8_bySets_48 fl_X8_18 hse.1.ro rfl ?_
        refine V_iload_2 dX8_bySets_51 ?_
        refine V_isub dX8_bySets_52 ?_
        exact V_reti dX8_bySets_53 rfl rfl (by rw [bySL, if_neg c_16] at kk; exact kk H g hse hac hmp E)
      · exact absurd (loop_end hm) c_25
  | succ k ih =>
    intro pa i cnt al pl H g hse hac hmp h E hm hi0 kk
    refine V_iload_3 dX8_bySets_9 ?_
    refine V_iconst (v := 1) dX8_bySets_10 rfl ?_
    refine V_aload_0 dX8_bySets_11 ?_
    refine V_getf dX8_bySets_12 fl_X8_18 hse.1.ro rfl ?_
    refine V_ishl dX8_bySets_15 ?_
    refine V_icmp_ge (tgt := 47) dX8_bySets_16 (by decide) (fun c_16 => ?_) (fun c_16 => ?_)
    · refine V_aload_0 dX8_bySets_47 ?_
      refine V_getf dX8_bySets_48 fl_X8_18 hse.1.ro rfl ?_
      refine V_iload_2 dX8_bySets_51 ?_
      refine V_isub dX8_bySets_52 ?_
      exact V_reti dX8_bySets_53 rfl rfl (by rw [bySL, if_pos c_16] at kk; exact kk H g hse hac hmp E)
    · refine V_iload_3 dX8_bySets_19 ?_
      refine V_aload_0 dX8_bySets_20 ?_
      refine V_getf dX8_bySets_21 fl_X8_15 hse.1.ro rfl ?_
      refine V_alen (v := 512) dX8_bySets_24 hmp.1.ra (by rw [hmp.2]; rfl) ?_
      refine V_icmp_ge (tgt := 47) dX8_bySets_25 (by decide) (fun c_25 => ?_) (fun c_25 => ?_)
      · refine V_aload_0 dX8_bySets_47 ?_
        refine V_getf dX8_bySets_48 fl_X8_18 hse.1.ro rfl ?_
        refine V_iload_2 dX8_bySets_51 ?_
        refine V_isub dX8_bySets_52 ?_
        exact V_reti dX8_bySets_53 rfl rfl (by rw [bySL, if_neg c_16, if_pos c_25] at kk; exact kk H g hse hac hmp E)
      · refine V_aload_0 dX8_bySets_28 ?_
        refine V_iload_3 dX8_bySets_29 ?_
        refine V_call_i (runV1 dX8_bySets_30 ce_X8_partsOf rfl ml_X8_26 im_X8_partsOf se_X8_partsOf hse.1.ro ⟨_, rfl, rfl⟩ (Nat.le_of_ble_eq_true rfl)) (by omega) (by omega) (by omega) (c_partO (x := i) hse hac hmp ?_)
        refine V_istore_2 dX8_bySets_33 rfl ?_
        refine V_aload_0 dX8_bySets_34 ?_
        refine V_getf dX8_bySets_35 fl_X8_15 hse.1.ro rfl ?_
        refine V_iload_3 dX8_bySets_38 ?_
        refine V_iload_2 dX8_bySets_39 ?_
        refine V_ias dX8_bySets_40 hmp.1 (by decide) (hmp.2 ▸ inR (n := 512) rfl (by decide) hi0 c_25) fun H1 hnew e1 z1 => ?_
        have hj : Ja G H1 g 31 mp 0 512 (sI pl i (partO al pl i)) := ⟨hnew, sI_len.trans hmp.2⟩
        replace hse := hse.fr e1 (by decide)
        replace hac := hac.fr e1 (by decide)
        replace h := h.fr e1 (tk_of ht (by decide))
        replace E := E.trans (e1.wide (by decide))
        replace hmp := hj
        clear hj hnew
        refine V_iinc_3 (v := 1) dX8_bySets_41 rfl rfl ?_
        refine V_goto (tgt := 9) dX8_bySets_44 (by decide) ?_
        exact ih _ _ _ _ _ H1 g hse hac hmp h E (loop_step c_25 hm) (nn_step c_25 hi0) (by rw [bySL, if_neg c_16, if_neg c_25] at kk; exact kk)
set_option maxHeartbeats 1000000 in
set_option maxRecDepth 100000 in
theorem c_byS {G : GT} {X : String → Heap → Prop} {H : Heap} {g : Nat → Nat} {se ac mp : Nat} {bal ten : List Int32} {cs : List CaseC} {ps : List PrecC} {n ch td nx : Int32} {t a : Nat} (ht : t = 0 ∨ t = 10) {cnt : Int32} {al : List Int32} {pl : List Int32} (hse : Se G H g se ac mp cnt) (hac : Ja G H g 30 ac 0 9 al) (hmp : Ja G H g 31 mp 0 512 pl) (h : MS G H g t a (bal, ten, cs, ps, n, ch, td, nx)) {F : Int32 → Heap → Prop} (kk : ∀ (H1 : Heap) (g1 : Nat → Nat), Se G H1 g1 se ac mp (byS bal n ch cnt al pl).2.1 → Ja G H1 g1 30 ac 0 9 (byS bal n ch cnt al pl).2.2.1 → Ja G H1 g1 31 mp 0 512 (byS bal n ch cnt al pl).2.2.2 → Ext G [29, 30, 31] H g H1 g1 → F ((byS bal n ch cnt al pl).1) H1) : Call G kX8_bySets 3 0 0 [.ref se, .ref a] H (qi F) X := by
  have E : Ext G [29, 30, 31] H g H g := Ext.rf
  refine startL (L0 := [some (.ref se), some (.ref a), none, none]) rfl rfl pl_X8_bySets (Nat.le_of_ble_eq_true rfl) ?_
  refine V_aload_0 dX8_bySets_0 ?_
  refine V_aload_1 dX8_bySets_1 ?_
  refine V_call_v (runV1 dX8_bySets_2 ce_X8_collectAccounts rfl ml_X8_22 im_X8_collectAccounts se_X8_collectAccounts hse.1.ro ⟨_, rfl, rfl⟩ (Nat.le_of_ble_eq_true rfl)) (by omega) (by omega) (by omega) (c_collA ht hse hac h fun H1 g1 hse_ hac_ e1 => ?_)
  replace hmp := hmp.fr e1 (by decide)
  replace h := h.fr e1 (tk_of ht (by decide))
  replace E := E.trans (e1.wide (by decide))
  replace hse : Se G H1 g1 se ac mp ((collA bal n ch cnt al).1) := hse_
  clear hse_
  replace hac : Ja G H1 g1 30 ac 0 9 ((collA bal n ch cnt al).2) := hac_
  clear hac_
  refine V_iconst (v := 0) dX8_bySets_5 rfl ?_
  refine V_istore_2 dX8_bySets_6 rfl ?_
  refine V_iconst (v := 1) dX8_bySets_7 rfl ?_
  refine V_istore_3 dX8_bySets_8 rfl ?_
  exact c_bySL ht  512 0 1 _ _ _ H1 g1 hse hac hmp h (Ext.rf (ts := [29, 30, 31])) (by decide) (by decide) (by rw [byS] at kk; exact fun Hz gz hse_ hac_ hmp_ ez => kk Hz gz hse_ hac_ hmp_ (E.trans ez))

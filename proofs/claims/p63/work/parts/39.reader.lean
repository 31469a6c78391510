theorem initRD {a b : Int32} : a.toInt ≤ b.toInt + (((a.toInt - b.toInt).toNat : Nat) : Int) := by omega
def rSign (tx : List Int32) (x : Int32) (p : Int32) : Int32 × Int32 := if p < 0 then (0, p) else (if (nI tx.length) ≤ p then (0, p) else (if (gI tx p) = x then (1, p + 1) else (0, p)))
set_option maxHeartbeats 1000000 in
set_option maxRecDepth 100000 in
theorem c_rSign {G : GT} {X : String → Heap → Prop} {H : Heap} {g : Nat → Nat} {rd ol tr : Nat} {tx : List Int32} {x : Int32} {p : Int32} (hrd : Ob G H g 40 rd 11 [.ref ol, .int p, .ref tr]) (htx : Sz G H g tr tx) {F : Int32 → Heap → Prop} (kk : ∀ (H1 : Heap) (g1 : Nat → Nat), Ob G H1 g1 40 rd 11 [.ref ol, .int (rSign tx x p).2, .ref tr] → Ext G [40] H g H1 g1 → F ((rSign tx x p).1) H1) : Call G kX7_readSign 5 0 0 [.ref rd, .int x] H (qi F) X := by
  have E : Ext G [40] H g H g := Ext.rf
  refine startL (L0 := [some (.ref rd), some (.int x)]) rfl rfl pl_X7_readSign (Nat.le_of_ble_eq_true rfl) ?_
  refine V_aload_0 dX7_readSign_0 ?_
  refine V_getf dX7_readSign_1 fl_X7_18 hrd.ro rfl ?_
  refine V_if_lt (tgt := 36) dX7_readSign_4 (by decide) (fun c_4 => ?_) (fun c_4 => ?_)
  · refine V_iconst (v := 0) dX7_readSign_36 rfl ?_
    exact V_retz dX7_readSign_37 rfl rfl rfl (by rw [rSign, if_pos c_4] at kk; exact kk H g hrd E)
  · refine V_aload_0 dX7_readSign_7 ?_
    refine V_getf dX7_readSign_8 fl_X7_18 hrd.ro rfl ?_
    refine V_aload_0 dX7_readSign_11 ?_
    refine V_getf dX7_readSign_12 fl_X7_22 hrd.ro rfl ?_
    obtain ⟨fst, hst⟩ := htx.str.o
    refine V_call_i (runV0 dX7_readSign_15 ce_J0_length_8abf5 rfl ml_X7_26 im_J0_length_8abf5 se_J0_length_8abf5 hst ⟨_, rfl, rfl⟩ (Nat.le_of_ble_eq_true rfl)) (by omega) (by omega) (by omega) (c_slen htx.str ?_)
    refine V_icmp_ge (tgt := 36) dX7_readSign_18 (by decide) (fun c_18 => ?_) (fun c_18 => ?_)
    · refine V_iconst (v := 0) dX7_readSign_36 rfl ?_
      exact V_retz dX7_readSign_37 rfl rfl rfl (by rw [rSign, if_neg c_4, if_pos c_18] at kk; exact kk H g hrd E)
    · refine V_aload_0 dX7_readSign_21 ?_
      refine V_getf dX7_readSign_22 fl_X7_22 hrd.ro rfl ?_
      refine V_aload_0 dX7_readSign_25 ?_
      refine V_getf dX7_readSign_26 fl_X7_18 hrd.ro rfl ?_
      obtain ⟨fst, hst⟩ := htx.str.o
      refine V_call_i (runV1 dX7_readSign_29 ce_J0_charAt_5068e rfl ml_X7_72 im_J0_charAt_5068e se_J0_charAt_5068e hst ⟨_, rfl, rfl⟩ (Nat.le_of_ble_eq_true rfl)) (by omega) (by omega) (by omega) (c_schar htx.str c_4 c_18 ?_)
      refine V_iload_1 dX7_readSign_32 ?_
      refine V_icmp_eq (tgt := 38) dX7_readSign_33 (by decide) (fun c_33 => ?_) (fun c_33 => ?_)
      · refine V_aload_0 dX7_readSign_38 ?_
        refine V_dup dX7_readSign_39 rfl ?_
        refine V_getf dX7_readSign_40 fl_X7_18 hrd.ro rfl ?_
        refine V_iconst (v := 1) dX7_readSign_43 rfl ?_
        refine V_iadd dX7_readSign_44 ?_
        refine V_put dX7_readSign_45 fp_X7_readSign_18 hrd (by decide) ⟨rfl, rfl⟩ (Nat.le_of_ble_eq_true rfl) rfl fun H1 hnew e1 z1 => ?_
        replace htx := htx.fr e1 (by decide)
        replace E := E.trans (e1.wide (by decide))
        replace hrd : Ob G H1 g 40 rd 11 [.ref ol, .int (p + 1), .ref tr] := hnew
        clear hnew
        refine V_iconst (v := 1) dX7_readSign_48 rfl ?_
        exact V_retz dX7_readSign_49 rfl rfl rfl (by rw [rSign, if_neg c_4, if_neg c_18, if_pos c_33] at kk; exact kk H1 g hrd E)
      · refine V_iconst (v := 0) dX7_readSign_36 rfl ?_
        exact V_retz dX7_readSign_37 rfl rfl rfl (by rw [rSign, if_neg c_4, if_neg c_18, if_neg c_33] at kk; exact kk H g hrd E)
def rNumL (tx : List Int32) (y : Int32) (s0 : Int32) (en : Int32) : Nat → Int32 → Int32 → Int32 → List Int32 → Int32 × Int32 × Int32 × List Int32
  | 0, nb, p, c, nm => if p < 0 then (nb, p, c, nm) else (nb, p, c, nm)
  | k + 1, nb, p, c, nm => if p < 0 then (nb, p, c, nm) else (if en ≤ p then (nb, p, c, nm) else (if (isDig (gI tx p)) = 0 then (nb, p, c, nm) else (rNumL tx y s0 en k ((nb * 10) + ((gI tx p) - 48)) (p + 1) c nm)))
def rNum (tx : List Int32) (y : Int32) (p : Int32) (c : Int32) (nm : List Int32) : Int32 × Int32 × Int32 × List Int32 := if ((rNumL tx y p (imin (nI tx.length) (p + y)) ((imin (nI tx.length) (p + y)).toInt - p.toInt).toNat 0 p c nm).2.1) ≤ p then (0, (rNumL tx y p (imin (nI tx.length) (p + y)) ((imin (nI tx.length) (p + y)).toInt - p.toInt).toNat 0 p c nm).2.1, (addNum ((rNumL tx y p (imin (nI tx.length) (p + y)) ((imin (nI tx.length) (p + y)).toInt - p.toInt).toNat 0 p c nm).1) ((rNumL tx y p (imin (nI tx.length) (p + y)) ((imin (nI tx.length) (p + y)).toInt - p.toInt).toNat 0 p c nm).2.2.1) ((rNumL tx y p (imin (nI tx.length) (p + y)) ((imin (nI tx.length) (p + y)).toInt - p.toInt).toNat 0 p c nm).2.2.2)).1, (addNum ((rNumL tx y p (imin (nI tx.length) (p + y)) ((imin (nI tx.length) (p + y)).toInt - p.toInt).toNat 0 p c nm).1) ((rNumL tx y p (imin (nI tx.length) (p + y)) ((imin (nI tx.length) (p + y)).toInt - p.toInt).toNat 0 p c nm).2.2.1) ((rNumL tx y p (imin (nI tx.length) (p + y)) ((imin (nI tx.length) (p + y)).toInt - p.toInt).toNat 0 p c nm).2.2.2)).2) else (1, (rNumL tx y p (imin (nI tx.length) (p + y)) ((imin (nI tx.length) (p + y)).toInt - p.toInt).toNat 0 p c nm).2.1, (addNum ((rNumL tx y p (imin (nI tx.length) (p + y)) ((imin (nI tx.length) (p + y)).toInt - p.toInt).toNat 0 p c nm).1) ((rNumL tx y p (imin (nI tx.length) (p + y)) ((imin (nI tx.length) (p + y)).toInt - p.toInt).toNat 0 p c nm).2.2.1) ((rNumL tx y p (imin (nI tx.length) (p + y)) ((imin (nI tx.length) (p + y)).toInt - p.toInt).toNat 0 p c nm).2.2.2)).1, (addNum ((rNumL tx y p (imin (nI tx.length) (p + y)) ((imin (nI tx.length) (p + y)).toInt - p.toInt).toNat 0 p c nm).1) ((rNumL tx y p (imin (nI tx.length) (p + y)) ((imin (nI tx.length) (p + y)).toInt - p.toInt).toNat 0 p c nm).2.2.1) ((rNumL tx y p (imin (nI tx.length) (p + y)) ((imin (nI tx.length) (p + y)).toInt - p.toInt).toNat 0 p c nm).2.2.2)).2)
set_option maxHeartbeats 1000000 in
set_option maxRecDepth 100000 in
theorem c_rNumL {G : GT} {X : String → Heap → Prop} {H0 : Heap} {g0 : Nat → Nat} {rd ol tr : Nat} {tx : List Int32} {od nu vb : Nat} {mt : List Int32} {y : Int32} {s0 : Int32} {en : Int32} (hen : ∀ i : Int32, ¬ en ≤ i → ¬ nI tx.length ≤ i) {Q : Option Value → Heap → Prop} {cc ss : Nat} : ∀ (k : Nat) (nb : Int32) (p : Int32) (c : Int32) (nm : List Int32) (H : Heap) (g : Nat → Nat), Ob G H g 40 rd 11 [.ref ol, .int p, .ref tr] → OrdW G H g od nu vb c mt → Ja G H g 43 nu 0 5 nm → Sz G H g tr tx → Ext G [40, 42, 43] H0 g0 H g → en.toInt ≤ p.toInt + ((k : Nat) : Int) → (∀ (H1 : Heap) (g1 : Nat → Nat), Ob G H1 g1 40 rd 11 [.ref ol, .int (rNumL tx y s0 en k nb p c nm).2.1, .ref tr] → OrdW G H1 g1 od nu vb (rNumL tx y s0 en k nb p c nm).2.2.1 mt → Ja G H1 g1 43 nu 0 5 (rNumL tx y s0 en k nb p c nm).2.2.2 → Ext G [40, 42, 43] H0 g0 H1 g1 → V G kX7_readNumber 5 cc ss Q X 91 [some (.ref rd), some (.ref od), some (.int y), some (.int s0), some (.int en), some (.int ((rNumL tx y s0 en k nb p c nm).1))] [] H1) → V G kX7_readNumber 5 cc ss Q X 23 [some (.ref rd), some (.ref od), some (.int y), some (.int s0), some (.int en), some (.int nb)] [] H := by
  intro k
  induction k with
  | zero =>
    intro nb p c nm H g hrd hod hnu htx E hm kk
    refine V_aload_0 dX7_readNumber_23 ?_
    refine V_getf dX7_readNumber_24 fl_X7_18 hrd.ro rfl ?_
    refine V_if_lt (tgt := 91) dX7_readNumber_27 (by decide) (fun c_27 => ?_) (fun c_27 => ?_)
    · exact (by rw [rNumL, if_pos c_27] at kk; exact kk H g hrd hod hnu E)
    · refine V_aload_0 dX7_readNumber_30 ?_
      refine V_getf dX7_readNumber_31 fl_X7_18 hrd.ro rfl ?_
      refine V_iload_4 dX7_readNumber_34 ?_
      refine V_icmp_ge (tgt := 91) dX7_readNumber_36 (by decide) (fun c_36 => ?_) (fun c_36 => ?_)
      · exact (by rw [rNumL, if_neg c_27] at kk; exact kk H g hrd hod hnu E)
      · exact absurd (loop_end hm) c_36
  | succ k ih =>
    intro nb p c nm H g hrd hod hnu htx E hm kk
    refine V_aload_0 dX7_readNumber_23 ?_
    refine V_getf dX7_readNumber_24 fl_X7_18 hrd.ro rfl ?_
    refine V_if_lt (tgt := 91) dX7_readNumber_27 (by decide) (fun c_27 => ?_) (fun c_27 => ?_)
    · exact (by rw [rNumL, if_pos c_27] at kk; exact kk H g hrd hod hnu E)
    · refine V_aload_0 dX7_readNumber_30 ?_
      refine V_getf dX7_readNumber_31 fl_X7_18 hrd.ro rfl ?_
      refine V_iload_4 dX7_readNumber_34 ?_
      refine V_icmp_ge (tgt := 91) dX7_readNumber_36 (by decide) (fun c_36 => ?_) (fun c_36 => ?_)
      · exact (by rw [rNumL, if_neg c_27, if_pos c_36] at kk; exact kk H g hrd hod hnu E)
      · refine V_aload_0 dX7_readNumber_39 ?_
        refine V_getf dX7_readNumber_40 fl_X7_22 hrd.ro rfl ?_
        refine V_aload_0 dX7_readNumber_43 ?_
        refine V_getf dX7_readNumber_44 fl_X7_18 hrd.ro rfl ?_
        obtain ⟨fst, hst⟩ := htx.str.o
        refine V_call_i (runV1 dX7_readNumber_47 ce_J0_charAt_5068e rfl ml_X7_72 im_J0_charAt_5068e se_J0_charAt_5068e hst ⟨_, rfl, rfl⟩ (Nat.le_of_ble_eq_true rfl)) (by omega) (by omega) (by omega) (c_schar htx.str c_27 (hen _ c_36) ?_)
        refine V_call_i (runSN1 dX7_readNumber_50 ce_X12_isDigit rfl mln_X7_90 st_X12_isDigit (Nat.le_of_ble_eq_true rfl)) (by omega) (by omega) (by omega) (c_isDig ?_)
        refine V_if_eq (tgt := 91) dX7_readNumber_53 (by decide) (fun c_53 => ?_) (fun c_53 => ?_)
        · exact (by rw [rNumL, if_neg c_27, if_neg c_36, if_pos c_53] at kk; exact kk H g hrd hod hnu E)
        · refine V_iload_5 dX7_readNumber_56 ?_
          refine V_bipush (v := 10) dX7_readNumber_58 (by decide) ?_
          refine V_imul dX7_readNumber_60 ?_
          refine V_aload_0 dX7_readNumber_61 ?_
          refine V_getf dX7_readNumber_62 fl_X7_22 hrd.ro rfl ?_
          refine V_aload_0 dX7_readNumber_65 ?_
          refine V_getf dX7_readNumber_66 fl_X7_18 hrd.ro rfl ?_
          obtain ⟨fst, hst⟩ := htx.str.o
          refine V_call_i (runV1 dX7_readNumber_69 ce_J0_charAt_5068e rfl ml_X7_72 im_J0_charAt_5068e se_J0_charAt_5068e hst ⟨_, rfl, rfl⟩ (Nat.le_of_ble_eq_true rfl)) (by omega) (by omega) (by omega) (c_schar htx.str c_27 (hen _ c_36) ?_)
          refine V_bipush (v := 48) dX7_readNumber_72 (by decide) ?_
          refine V_isub dX7_readNumber_74 ?_
          refine V_iadd dX7_readNumber_75 ?_
          refine V_istore_5 dX7_readNumber_76 rfl ?_
          refine V_aload_0 dX7_readNumber_78 ?_
          refine V_dup dX7_readNumber_79 rfl ?_
          refine V_getf dX7_readNumber_80 fl_X7_18 hrd.ro rfl ?_
          refine V_iconst (v := 1) dX7_readNumber_83 rfl ?_
          refine V_iadd dX7_readNumber_84 ?_
          refine V_put dX7_readNumber_85 fp_X7_readNumber_18 hrd (by decide) ⟨rfl, rfl⟩ (Nat.le_of_ble_eq_true rfl) rfl fun H1 hnew e1 z1 => ?_
          replace hod := hod.fr e1 (by decide) (by decide)
          replace hnu := hnu.fr e1 (by decide)
          replace htx := htx.fr e1 (by decide)
          replace E := E.trans (e1.wide (by decide))
          replace hrd : Ob G H1 g 40 rd 11 [.ref ol, .int (p + 1), .ref tr] := hnew
          clear hnew
          refine V_goto (tgt := 23) dX7_readNumber_88 (by decide) ?_
          exact ih _ _ _ _ H1 g hrd hod hnu htx E (loop_step c_36 hm)  (by rw [rNumL, if_neg c_27, if_neg c_36, if_neg c_53] at kk; exact kk)
set_option maxHeartbeats 1000000 in
set_option maxRecDepth 100000 in
theorem c_rNum {G : GT} {X : String → Heap → Prop} {H : Heap} {g : Nat → Nat} {rd ol tr : Nat} {tx : List Int32} {od nu vb : Nat} {mt : List Int32} {y : Int32} {p : Int32} {c : Int32} {nm : List Int32} (hrd : Ob G H g 40 rd 11 [.ref ol, .int p, .ref tr]) (hod : OrdW G H g od nu vb c mt) (hnu : Ja G H g 43 nu 0 5 nm) (htx : Sz G H g tr tx) {F : Int32 → Heap → Prop} (kk : ∀ (H1 : Heap) (g1 : Nat → Nat), Ob G H1 g1 40 rd 11 [.ref ol, .int (rNum tx y p c nm).2.1, .ref tr] → OrdW G H1 g1 od nu vb (rNum tx y p c nm).2.2.1 mt → Ja G H1 g1 43 nu 0 5 (rNum tx y p c nm).2.2.2 → Ext G [40, 42, 43] H g H1 g1 → F ((rNum tx y p c nm).1) H1) : Call G kX7_readNumber 5 0 0 [.ref rd, .ref od, .int y] H (qi F) X := by
  have E : Ext G [40, 42, 43] H g H g := Ext.rf
  refine startL (L0 := [some (.ref rd), some (.ref od), some (.int y), none, none, none]) rfl rfl pl_X7_readNumber (Nat.le_of_ble_eq_true rfl) ?_
  refine V_aload_0 dX7_readNumber_0 ?_
  refine V_getf dX7_readNumber_1 fl_X7_18 hrd.ro rfl ?_
  refine V_istore_3 dX7_readNumber_4 rfl ?_
  refine V_aload_0 dX7_readNumber_5 ?_
  refine V_getf dX7_readNumber_6 fl_X7_22 hrd.ro rfl ?_
  obtain ⟨fst, hst⟩ := htx.str.o
  refine V_call_i (runV0 dX7_readNumber_9 ce_J0_length_8abf5 rfl ml_X7_26 im_J0_length_8abf5 se_J0_length_8abf5 hst ⟨_, rfl, rfl⟩ (Nat.le_of_ble_eq_true rfl)) (by omega) (by omega) (by omega) (c_slen htx.str ?_)
  refine V_iload_3 dX7_readNumber_12 ?_
  refine V_iload_2 dX7_readNumber_13 ?_
  refine V_iadd dX7_readNumber_14 ?_
  refine V_mmin dX7_readNumber_15 ml_X7_87 ex_minS ex_mth ex_minC (Nat.le_of_ble_eq_true rfl) (Nat.le_of_ble_eq_true rfl) ?_
  refine V_istore_4 dX7_readNumber_18 rfl ?_
  refine V_iconst (v := 0) dX7_readNumber_20 rfl ?_
  refine V_istore_5 dX7_readNumber_21 rfl ?_
  refine c_rNumL (s0 := p) (en := imin (nI tx.length) (p + y))  (fun i h => (imin_nle h).1) ((imin (nI tx.length) (p + y)).toInt - p.toInt).toNat 0 _ _ _ H g hrd hod hnu htx (Ext.rf (ts := [40, 42, 43])) initRD  fun H1 g1 hrd_ hod_ hnu_ e1 => ?_
  replace htx := htx.fr e1 (by decide)
  replace E := E.trans (e1.wide (by decide))
  replace hrd := hrd_
  clear hrd_
  replace hod := hod_
  clear hod_
  replace hnu := hnu_
  clear hnu_
  refine V_aload_1 dX7_readNumber_91 ?_
  refine V_iload_5 dX7_readNumber_92 ?_
  obtain ⟨fod, hfo⟩ := hod.o
  refine V_call_v (runV1 dX7_readNumber_94 ce_X4_addNumber rfl ml_X7_93 im_X4_addNumber se_X4_addNumber hfo ⟨_, rfl, rfl⟩ (Nat.le_of_ble_eq_true rfl)) (by omega) (by omega) (by omega) (c_addN (x := ((rNumL tx y p (imin (nI tx.length) (p + y)) ((imin (nI tx.length) (p + y)).toInt - p.toInt).toNat 0 p c nm).1)) hod hnu fun H2 g2 hod_ hnu_ e2 => ?_)
  replace hrd := hrd.fr e2 (by decide)
  replace htx := htx.fr e2 (by decide)
  replace E := E.trans (e2.wide (by decide))
  replace hod := hod_
  replace hnu := hnu_
  clear hod_ hnu_
  refine V_aload_0 dX7_readNumber_97 ?_
  refine V_getf dX7_readNumber_98 fl_X7_18 hrd.ro rfl ?_
  refine V_iload_3 dX7_readNumber_101 ?_
  refine V_icmp_le (tgt := 109) dX7_readNumber_102 (by decide) (fun c_102 => ?_) (fun c_102 => ?_)
  · refine V_iconst (v := 0) dX7_readNumber_109 rfl ?_
    exact V_retz dX7_readNumber_110 rfl rfl rfl (by rw [rNum, if_pos c_102] at kk; exact kk H2 g2 hrd hod hnu E)
  · refine V_iconst (v := 1) dX7_readNumber_105 rfl ?_
    refine V_goto (tgt := 110) dX7_readNumber_106 (by decide) ?_
    exact V_retz dX7_readNumber_110 rfl rfl rfl (by rw [rNum, if_neg c_102] at kk; exact kk H2 g2 hrd hod hnu E)
def rMatL (tx : List Int32) (s0 : Int32) (en : Int32) : Nat → Int32 → Int32 → List Int32 → Int32 × Int32 × List Int32
  | 0, p, c, mt => if p < 0 then (p, c, mt) else (p, c, mt)
  | k + 1, p, c, mt => if p < 0 then (p, c, mt) else (if en ≤ p then (p, c, mt) else (if (isLet (gI tx p)) = 0 then (p, c, mt) else (rMatL tx s0 en k (p + 1) c mt)))
theorem le_succ_of {n i : Int32} (h : ¬ n ≤ i) : i + 1 ≤ n := by
  rw [Int32.le_iff_toInt_le, i_succ h]
  have := Int32.lt_iff_toInt_lt.mp (Int32.not_le.mp h)
  omega
theorem rm_le {tx : List Int32} {s0 en : Int32} : ∀ (k : Nat) (p c : Int32) (mt : List Int32), (rMatL tx s0 en k p c mt).1 ≤ en ∨ (rMatL tx s0 en k p c mt).1 = p := by
  intro k
  induction k with
  | zero => intro p c mt; rw [rMatL]; split <;> exact Or.inr rfl
  | succ k ih =>
    intro p c mt
    rw [rMatL]
    split
    · exact Or.inr rfl
    · split
      · exact Or.inr rfl
      · rename_i h
        split
        · exact Or.inr rfl
        · rcases ih (p + 1) c mt with q | q
          · exact Or.inl q
          · exact Or.inl (Int32.le_trans (Int32.le_of_eq q) (le_succ_of h))
theorem imin_le {x y : Int32} : imin x y ≤ x ∧ imin x y ≤ y := by
  unfold imin
  split
  · rename_i h
    exact ⟨Int32.le_of_lt h, Int32.le_refl _⟩
  · rename_i h
    exact ⟨Int32.le_refl _, Int32.not_lt.mp h⟩
theorem rm_sub {tx : List Int32} {a b : Int32} (hl : tx.length < 2 ^ 20) (h0 : ¬ a < 0) (hab : ¬ b ≤ a) (hle : b ≤ imin (nI tx.length) (a + 8) ∨ b = a) :
    0 < b.toNatClampNeg - a.toNatClampNeg ∧ a = nI a.toNatClampNeg ∧ b = nI (a.toNatClampNeg + (b.toNatClampNeg - a.toNatClampNeg)) ∧ a.toNatClampNeg + (b.toNatClampNeg - a.toNatClampNeg) ≤ tx.length ∧ b.toNatClampNeg - a.toNatClampNeg ≤ 8 := by
  have hle2 : b ≤ imin (nI tx.length) (a + 8) := by
    rcases hle with q | q
    · exact q
    · exact absurd (q ▸ Int32.le_refl _) hab
  have h1 := Int32.le_iff_toInt_le.mp (Int32.le_trans hle2 imin_le.1)
  have h2 := Int32.le_iff_toInt_le.mp (Int32.le_trans hle2 imin_le.2)
  have h3 := mt Int32.lt_iff_toInt_lt.mpr h0
  have h4 := mt Int32.le_iff_toInt_le.mpr hab
  rw [nI_toInt (by omega)] at h1
  have e0 : (0 : Int32).toInt = 0 := rfl
  have e8 : (8 : Int32).toInt = 8 := rfl
  rw [e0] at h3
  have h5 : (a + 8).toInt = a.toInt + 8 := by
    rw [Int32.toInt_add, e8, Int.bmod_eq_of_le (by omega) (by omega)]
  rw [h5] at h2
  have ca : a.toNatClampNeg = a.toInt.toNat := rfl
  have cb : b.toNatClampNeg = b.toInt.toNat := rfl
  rw [ca, cb]
  exact ⟨by omega, nI_ofT (by omega) (by omega), nI_ofT (by omega) (by omega), by omega, by omega⟩
def rMat (tx : List Int32) (p : Int32) (c : Int32) (mt : List Int32) : Int32 × Int32 × Int32 × List Int32 := if p < 0 then (0, (rMatL tx p (imin (nI tx.length) (p + 8)) ((imin (nI tx.length) (p + 8)).toInt - p.toInt).toNat p c mt).1, (rMatL tx p (imin (nI tx.length) (p + 8)) ((imin (nI tx.length) (p + 8)).toInt - p.toInt).toNat p c mt).2.1, (rMatL tx p (imin (nI tx.length) (p + 8)) ((imin (nI tx.length) (p + 8)).toInt - p.toInt).toNat p c mt).2.2) else (if p < ((rMatL tx p (imin (nI tx.length) (p + 8)) ((imin (nI tx.length) (p + 8)).toInt - p.toInt).toNat p c mt).1) then (1, (rMatL tx p (imin (nI tx.length) (p + 8)) ((imin (nI tx.length) (p + 8)).toInt - p.toInt).toNat p c mt).1, (rMatL tx p (imin (nI tx.length) (p + 8)) ((imin (nI tx.length) (p + 8)).toInt - p.toInt).toNat p c mt).2.1, ((tx.drop (p).toNatClampNeg).take (((rMatL tx p (imin (nI tx.length) (p + 8)) ((imin (nI tx.length) (p + 8)).toInt - p.toInt).toNat p c mt).1).toNatClampNeg - (p).toNatClampNeg))) else (0, (rMatL tx p (imin (nI tx.length) (p + 8)) ((imin (nI tx.length) (p + 8)).toInt - p.toInt).toNat p c mt).1, (rMatL tx p (imin (nI tx.length) (p + 8)) ((imin (nI tx.length) (p + 8)).toInt - p.toInt).toNat p c mt).2.1, (rMatL tx p (imin (nI tx.length) (p + 8)) ((imin (nI tx.length) (p + 8)).toInt - p.toInt).toNat p c mt).2.2))
set_option maxHeartbeats 1000000 in
set_option maxRecDepth 100000 in
theorem c_rMatL {G : GT} {X : String → Heap → Prop} {H0 : Heap} {g0 : Nat → Nat} {rd ol tr : Nat} {tx : List Int32} {od nu vb : Nat} {s0 : Int32} {en : Int32} (hen : ∀ i : Int32, ¬ en ≤ i → ¬ nI tx.length ≤ i) {Q : Option Value → Heap → Prop} {cc ss : Nat} : ∀ (k : Nat)  (p : Int32) (c : Int32) (mt : List Int32) (H : Heap) (g : Nat → Nat), Ob G H g 40 rd 11 [.ref ol, .int p, .ref tr] → OrdW G H g od nu vb c mt → Sz G H g tr tx → Ext G [33, 40, 42] H0 g0 H g → en.toInt ≤ p.toInt + ((k : Nat) : Int) → (∀ (H1 : Heap) (g1 : Nat → Nat), Ob G H1 g1 40 rd 11 [.ref ol, .int (rMatL tx s0 en k p c mt).1, .ref tr] → OrdW G H1 g1 od nu vb (rMatL tx s0 en k p c mt).2.1 (rMatL tx s0 en k p c mt).2.2 → Ext G [33, 40, 42] H0 g0 H1 g1 → V G kX7_readMatter 5 cc ss Q X 65 [some (.ref rd), some (.ref od), some (.int s0), some (.int en)] [] H1) → V G kX7_readMatter 5 cc ss Q X 20 [some (.ref rd), some (.ref od), some (.int s0), some (.int en)] [] H := by
  intro k
  induction k with
  | zero =>
    intro p c mt H g hrd hod htx E hm kk
    refine V_aload_0 dX7_readMatter_20 ?_
    refine V_getf dX7_readMatter_21 fl_X7_18 hrd.ro rfl ?_
    refine V_if_lt (tgt := 65) dX7_readMatter_24 (by decide) (fun c_24 => ?_) (fun c_24 => ?_)
    · exact (by rw [rMatL, if_pos c_24] at kk; exact kk H g hrd hod E)
    · refine V_aload_0 dX7_readMatter_27 ?_
      refine V_getf dX7_readMatter_28 fl_X7_18 hrd.ro rfl ?_
      refine V_iload_3 dX7_readMatter_31 ?_
      refine V_icmp_ge (tgt := 65) dX7_readMatter_32 (by decide) (fun c_32 => ?_) (fun c_32 => ?_)
      · exact (by rw [rMatL, if_neg c_24] at kk; exact kk H g hrd hod E)
      · exact absurd (loop_end hm) c_32
  | succ k ih =>
    intro p c mt H g hrd hod htx E hm kk
    refine V_aload_0 dX7_readMatter_20 ?_
    refine V_getf dX7_readMatter_21 fl_X7_18 hrd.ro rfl ?_
    refine V_if_lt (tgt := 65) dX7_readMatter_24 (by decide) (fun c_24 => ?_) (fun c_24 => ?_)
    · exact (by rw [rMatL, if_pos c_24] at kk; exact kk H g hrd hod E)
    · refine V_aload_0 dX7_readMatter_27 ?_
      refine V_getf dX7_readMatter_28 fl_X7_18 hrd.ro rfl ?_
      refine V_iload_3 dX7_readMatter_31 ?_
      refine V_icmp_ge (tgt := 65) dX7_readMatter_32 (by decide) (fun c_32 => ?_) (fun c_32 => ?_)
      · exact (by rw [rMatL, if_neg c_24, if_pos c_32] at kk; exact kk H g hrd hod E)
      · refine V_aload_0 dX7_readMatter_35 ?_
        refine V_getf dX7_readMatter_36 fl_X7_22 hrd.ro rfl ?_
        refine V_aload_0 dX7_readMatter_39 ?_
        refine V_getf dX7_readMatter_40 fl_X7_18 hrd.ro rfl ?_
        obtain ⟨fst, hst⟩ := htx.str.o
        refine V_call_i (runV1 dX7_readMatter_43 ce_J0_charAt_5068e rfl ml_X7_72 im_J0_charAt_5068e se_J0_charAt_5068e hst ⟨_, rfl, rfl⟩ (Nat.le_of_ble_eq_true rfl)) (by omega) (by omega) (by omega) (c_schar htx.str c_24 (hen _ c_32) ?_)
        refine V_call_i (runSN1 dX7_readMatter_46 ce_X12_isLetter rfl mln_X7_97 st_X12_isLetter (Nat.le_of_ble_eq_true rfl)) (by omega) (by omega) (by omega) (c_isLet ?_)
        refine V_if_eq (tgt := 65) dX7_readMatter_49 (by decide) (fun c_49 => ?_) (fun c_49 => ?_)
        · exact (by rw [rMatL, if_neg c_24, if_neg c_32, if_pos c_49] at kk; exact kk H g hrd hod E)
        · refine V_aload_0 dX7_readMatter_52 ?_
          refine V_dup dX7_readMatter_53 rfl ?_
          refine V_getf dX7_readMatter_54 fl_X7_18 hrd.ro rfl ?_
          refine V_iconst (v := 1) dX7_readMatter_57 rfl ?_
          refine V_iadd dX7_readMatter_58 ?_
          refine V_put dX7_readMatter_59 fp_X7_readMatter_18 hrd (by decide) ⟨rfl, rfl⟩ (Nat.le_of_ble_eq_true rfl) rfl fun H1 hnew e1 z1 => ?_
          replace hod := hod.fr e1 (by decide) (by decide)
          replace htx := htx.fr e1 (by decide)
          replace E := E.trans (e1.wide (by decide))
          replace hrd : Ob G H1 g 40 rd 11 [.ref ol, .int (p + 1), .ref tr] := hnew
          clear hnew
          refine V_goto (tgt := 20) dX7_readMatter_62 (by decide) ?_
          exact ih _ _ _ H1 g hrd hod htx E (loop_step c_32 hm)  (by rw [rMatL, if_neg c_24, if_neg c_32, if_neg c_49] at kk; exact kk)
set_option maxHeartbeats 1000000 in
set_option maxRecDepth 100000 in
theorem c_rMat {G : GT} {X : String → Heap → Prop} {H : Heap} {g : Nat → Nat} {rd ol tr : Nat} {tx : List Int32} {od nu vb : Nat} {p : Int32} {c : Int32} {mt : List Int32} (hrd : Ob G H g 40 rd 11 [.ref ol, .int p, .ref tr]) (hod : OrdW G H g od nu vb c mt) (htx : Sz G H g tr tx) {F : Int32 → Heap → Prop} (kk : ∀ (H1 : Heap) (g1 : Nat → Nat), Ob G H1 g1 40 rd 11 [.ref ol, .int (rMat tx p c mt).2.1, .ref tr] → OrdW G H1 g1 od nu vb (rMat tx p c mt).2.2.1 (rMat tx p c mt).2.2.2 → Ext G [33, 40, 42] H g H1 g1 → F ((rMat tx p c mt).1) H1) : Call G kX7_readMatter 5 2 12 [.ref rd, .ref od] H (qi F) X := by
  have E : Ext G [33, 40, 42] H g H g := Ext.rf
  refine startL (L0 := [some (.ref rd), some (.ref od), none, none]) rfl rfl pl_X7_readMatter (Nat.le_of_ble_eq_true rfl) ?_
  refine V_aload_0 dX7_readMatter_0 ?_
  refine V_getf dX7_readMatter_1 fl_X7_18 hrd.ro rfl ?_
  refine V_istore_2 dX7_readMatter_4 rfl ?_
  refine V_aload_0 dX7_readMatter_5 ?_
  refine V_getf dX7_readMatter_6 fl_X7_22 hrd.ro rfl ?_
  obtain ⟨fst, hst⟩ := htx.str.o
  refine V_call_i (runV0 dX7_readMatter_9 ce_J0_length_8abf5 rfl ml_X7_26 im_J0_length_8abf5 se_J0_length_8abf5 hst ⟨_, rfl, rfl⟩ (Nat.le_of_ble_eq_true rfl)) (by omega) (by omega) (by omega) (c_slen htx.str ?_)
  refine V_iload_2 dX7_readMatter_12 ?_
  refine V_bipush (v := 8) dX7_readMatter_13 (by decide) ?_
  refine V_iadd dX7_readMatter_15 ?_
  refine V_mmin dX7_readMatter_16 ml_X7_87 ex_minS ex_mth ex_minC (Nat.le_of_ble_eq_true rfl) (Nat.le_of_ble_eq_true rfl) ?_
  refine V_istore_3 dX7_readMatter_19 rfl ?_
  refine c_rMatL (s0 := p) (en := imin (nI tx.length) (p + 8))  (fun i h => (imin_nle h).1) ((imin (nI tx.length) (p + 8)).toInt - p.toInt).toNat _ _ _ H g hrd hod htx (Ext.rf (ts := [33, 40, 42])) initRD  fun H1 g1 hrd_ hod_ e1 => ?_
  replace htx := htx.fr e1 (by decide)
  replace E := E.trans (e1.wide (by decide))
  replace hrd := hrd_
  clear hrd_
  replace hod := hod_
  clear hod_
  refine V_iload_2 dX7_readMatter_65 ?_
  refine V_if_lt (tgt := 77) dX7_readMatter_66 (by decide) (fun c_66 => ?_) (fun c_66 => ?_)
  · refine V_iconst (v := 0) dX7_readMatter_77 rfl ?_
    exact V_retz dX7_readMatter_78 rfl rfl rfl (by rw [rMat, if_pos c_66] at kk; exact kk H1 g1 hrd hod E)
  · refine V_aload_0 dX7_readMatter_69 ?_
    refine V_getf dX7_readMatter_70 fl_X7_18 hrd.ro rfl ?_
    refine V_iload_2 dX7_readMatter_73 ?_
    refine V_icmp_gt (tgt := 79) dX7_readMatter_74 (by decide) (fun c_74 => ?_) (fun c_74 => ?_)
    · refine V_aload_1 dX7_readMatter_79 ?_
      refine V_aload_0 dX7_readMatter_80 ?_
      refine V_getf dX7_readMatter_81 fl_X7_22 hrd.ro rfl ?_
      refine V_iload_2 dX7_readMatter_84 ?_
      refine V_aload_0 dX7_readMatter_85 ?_
      refine V_getf dX7_readMatter_86 fl_X7_18 hrd.ro rfl ?_
      obtain ⟨fst, hst⟩ := htx.str.o
      have hsb := rm_sub (tx := tx) (a := p) (b := (rMatL tx p (imin (nI tx.length) (p + 8)) ((imin (nI tx.length) (p + 8)).toInt - p.toInt).toNat p c mt).1) htx.2.1 c_66 (Int32.not_le.mpr c_74) (rm_le _ _ _ _)
      have hk8 := hsb.2.2.2.2
      refine V_cst3 hsb.2.1 hsb.2.2.1 ?_
      refine V_call_a (runV2 dX7_readMatter_89 ce_J0_substring_37a41 rfl ml_X7_100 im_J0_substring_37a41 se_J0_substring_37a41 hst ⟨_, rfl, rfl⟩ (Nat.le_of_ble_eq_true rfl)) (by omega) (by omega) (by omega) (c_substr htx hsb.2.2.2.1 hsb.1 fun q H2 g2 hq e2 => ?_)
      replace hrd := hrd.fr e2 (by decide)
      replace hod := hod.fr e2 (by decide) (by decide)
      replace htx := htx.fr e2 (by decide)
      replace E := E.trans (e2.wide (by decide))
      obtain ⟨fod, hfo⟩ := hod.o
      refine V_call_v (runV1 dX7_readMatter_92 ce_X4_setMatter rfl ml_X7_104 im_X4_setMatter se_X4_setMatter hfo ⟨_, rfl, rfl⟩ (Nat.le_of_ble_eq_true rfl)) (by omega) (by omega) (by omega) (c_setMt hod hq fun H3 hod_ e3 => ?_)
      replace hrd := hrd.fr e3 (by decide)
      replace htx := htx.fr e3 (by decide)
      replace E := E.trans (e3.wide (by decide))
      replace hod := hod_
      clear hod_
      refine V_iconst (v := 1) dX7_readMatter_95 rfl ?_
      exact V_retz dX7_readMatter_96 rfl rfl rfl (by rw [rMat, if_neg c_66, if_pos c_74] at kk; exact kk H3 g2 hrd hod E)
    · refine V_iconst (v := 0) dX7_readMatter_77 rfl ?_
      exact V_retz dX7_readMatter_78 rfl rfl rfl (by rw [rMat, if_neg c_66, if_neg c_74] at kk; exact kk H1 g1 hrd hod E)

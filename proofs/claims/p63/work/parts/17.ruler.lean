theorem imin_nle {x y i : Int32} (h : ¬ imin x y ≤ i) : ¬ x ≤ i ∧ ¬ y ≤ i := by
  unfold imin at h
  have h2 := Int32.not_le.mp h
  split at h2
  · rename_i q
    exact ⟨Int32.not_le.mpr (Int32.lt_trans h2 q), Int32.not_le.mpr h2⟩
  · rename_i q
    exact ⟨Int32.not_le.mpr h2, Int32.not_le.mpr (Int32.lt_of_lt_of_le h2 (Int32.not_lt.mp q))⟩
theorem imin_le8 {x : Int32} : imin x 8 ≤ 8 := by
  unfold imin
  split
  · exact Int32.le_refl _
  · exact Int32.not_lt.mp (by assumption)
theorem stepM {x i : Int32} {k : Nat} (h : ¬ imin x 8 < i) (hm : (imin x 8).toInt < i.toInt + ((k + 1 : Nat) : Int)) : (imin x 8).toInt < (i + 1).toInt + (k : Int) :=
  loop_stepL h hm (by have h8 : (8 : Int32).toInt = 8 := rfl; have := Int32.le_iff_toInt_le.mp (imin_le8 (x := x)); omega)
theorem initM {n : Int32} : n.toInt < (0 : Int32).toInt + ((n.toNatClampNeg + 1 : Nat) : Int) := by
  have h : (0 : Int32).toInt = 0 := rfl
  rw [h]
  show n.toInt < 0 + ((n.toInt.toNat + 1 : Nat) : Int)
  omega
theorem sub1_nn {i : Int32} (h : ¬ i < 1) : ¬ i - 1 < 0 := by
  obtain ⟨j, hj, rfl⟩ : ∃ j : Nat, j < 2 ^ 31 ∧ i = nI j := nI_of (fun q => h (Int32.lt_trans q (by decide)))
  have h0 : 1 ≤ j := by
    rcases Nat.lt_or_ge j 1 with q | q
    · exact absurd ((nI_ltI (b := 1) hj (by decide)).mpr q) h
    · exact q
  rw [show (1 : Int32) = nI 1 from rfl, nI_sub h0]
  exact nI_pos (by omega)
theorem sub1_le {i : Int32} (h : ¬ i < 1) (h8 : ¬ 8 < i) : ¬ 8 ≤ i - 1 := by
  obtain ⟨j, hj, rfl⟩ : ∃ j : Nat, j < 2 ^ 31 ∧ i = nI j := nI_of (fun q => h (Int32.lt_trans q (by decide)))
  have h0 : 1 ≤ j := by
    rcases Nat.lt_or_ge j 1 with q | q
    · exact absurd ((nI_ltI (b := 1) hj (by decide)).mpr q) h
    · exact q
  have h1 : j ≤ 8 := by
    rcases Nat.lt_or_ge 8 j with q | q
    · exact absurd ((nI_ltI (a := 8) (by decide) hj).mpr q) h8
    · exact q
  rw [show (1 : Int32) = nI 1 from rfl, nI_sub h0, show (8 : Int32) = nI 8 from rfl]
  exact nI_ge (by omega) (by decide)
def putAL (l : List Int32) : Nat → Int32 → List Int32 → Int32 × List Int32
  | 0, i, lf => (imin (nI l.length) 8, lf)
  | k + 1, i, lf => if (imin (nI l.length) 8) ≤ i then (imin (nI l.length) 8, lf) else (putAL l k (i + 1) (sI lf i (gI l i)))
def putA (l : List Int32) (lf : List Int32) : Int32 × List Int32 := putAL l (imin (nI l.length) 8).toNatClampNeg 0 lf
set_option maxHeartbeats 1000000 in
set_option maxRecDepth 100000 in
theorem c_putAL {G : GT} {X : String → Heap → Prop} {H0 : Heap} {g0 : Nat → Nat} {w q : Nat} {l : List Int32} {F : Int32 → Heap → Prop} {cc ss : Nat} : ∀ (k : Nat) (i : Int32) (lf : List Int32) (H : Heap) (g : Nat → Nat), Ja G H g 24 q 1 8 lf → Sz G H g w l → Ext G [24] H0 g0 H g → (imin (nI l.length) 8).toInt ≤ i.toInt + ((k : Nat) : Int) → ¬ i < 0 → (∀ (H1 : Heap) (g1 : Nat → Nat), Ja G H1 g1 24 q 1 8 (putAL l k i lf).2 → Ext G [24] H0 g0 H1 g1 → F ((putAL l k i lf).1) H1) → V G kX6_putLetters 5 cc ss (qi F) X 12 [some (.ref w), some (.ref q), some (.int (imin (nI l.length) 8)), some (.int i)] [] H := by
  intro k
  induction k with
  | zero =>
    intro i lf H g hlf hs E hm hi0 kk
    refine V_iload_3 dX6_putLetters_12 ?_
    refine V_iload_2 dX6_putLetters_13 ?_
    refine V_icmp_ge (tgt := 31) dX6_putLetters_14 (by decide) (fun c_14 => ?_) (fun c_14 => ?_)
    · refine V_iload_2 dX6_putLetters_31 ?_
      exact V_reti dX6_putLetters_32 rfl rfl (by rw [putAL] at kk; exact kk H g hlf E)
    · exact absurd (loop_end hm) c_14
  | succ k ih =>
    intro i lf H g hlf hs E hm hi0 kk
    refine V_iload_3 dX6_putLetters_12 ?_
    refine V_iload_2 dX6_putLetters_13 ?_
    refine V_icmp_ge (tgt := 31) dX6_putLetters_14 (by decide) (fun c_14 => ?_) (fun c_14 => ?_)
    · refine V_iload_2 dX6_putLetters_31 ?_
      exact V_reti dX6_putLetters_32 rfl rfl (by rw [putAL, if_pos c_14] at kk; exact kk H g hlf E)
    · refine V_aload_1 dX6_putLetters_17 ?_
      refine V_iload_3 dX6_putLetters_18 ?_
      refine V_aload_0 dX6_putLetters_19 ?_
      refine V_iload_3 dX6_putLetters_20 ?_
      have h14 := imin_nle c_14
      obtain ⟨fst, hst⟩ := hs.str.o
      refine V_call_i (runV1 dX6_putLetters_21 ce_J0_charAt_5068e rfl ml_X6_56 im_J0_charAt_5068e se_J0_charAt_5068e hst ⟨_, rfl, rfl⟩ (Nat.le_of_ble_eq_true rfl)) (by omega) (by omega) (by omega) (c_schar hs.str hi0 h14.1 ?_)
      refine V_cas dX6_putLetters_24 hlf.1 (by decide) (hlf.2 ▸ inR (n := 8) rfl (by decide) hi0 h14.2) (chr_n (asc_at hs.1 _)) fun H1 hnew e1 z1 => ?_
      have hj : Ja G H1 g 24 q 1 8 (sI lf i (gI l i)) := ⟨hnew, sI_len.trans hlf.2⟩
      replace hs := hs.fr e1 (by decide)
      replace E := E.trans (e1.wide (by decide))
      replace hlf := hj
      clear hj hnew
      refine V_iinc_3 (v := 1) dX6_putLetters_25 rfl rfl ?_
      refine V_goto (tgt := 12) dX6_putLetters_28 (by decide) ?_
      exact ih _ _ H1 g hlf hs E (loop_step c_14 hm) (nn_step c_14 hi0) (by rw [putAL, if_neg c_14] at kk; exact kk)
set_option maxHeartbeats 1000000 in
set_option maxRecDepth 100000 in
theorem c_putA {G : GT} {X : String → Heap → Prop} {H : Heap} {g : Nat → Nat} {w q : Nat} {l : List Int32} {lf : List Int32} (hlf : Ja G H g 24 q 1 8 lf) (hs : Sz G H g w l) {F : Int32 → Heap → Prop} (kk : ∀ (H1 : Heap) (g1 : Nat → Nat), Ja G H1 g1 24 q 1 8 (putA l lf).2 → Ext G [24] H g H1 g1 → F ((putA l lf).1) H1) : Call G kX6_putLetters 5 0 0 [.ref w, .ref q] H (qi F) X := by
  have E : Ext G [24] H g H g := Ext.rf
  refine startL (L0 := [some (.ref w), some (.ref q), none, none]) rfl rfl pl_X6_putLetters (Nat.le_of_ble_eq_true rfl) ?_
  refine V_aload_0 dX6_putLetters_0 ?_
  obtain ⟨fst, hst⟩ := hs.str.o
  refine V_call_i (runV0 dX6_putLetters_1 ce_J0_length_8abf5 rfl ml_X6_50 im_J0_length_8abf5 se_J0_length_8abf5 hst ⟨_, rfl, rfl⟩ (Nat.le_of_ble_eq_true rfl)) (by omega) (by omega) (by omega) (c_slen hs.str ?_)
  refine V_aload_1 dX6_putLetters_4 ?_
  refine V_alen (v := 8) dX6_putLetters_5 hlf.1.ra (by rw [hlf.2]; rfl) ?_
  refine V_mmin dX6_putLetters_6 ml_X6_37 ex_minS ex_mth ex_minC (Nat.le_of_ble_eq_true rfl) (Nat.le_of_ble_eq_true rfl) ?_
  refine V_istore_2 dX6_putLetters_9 rfl ?_
  refine V_iconst (v := 0) dX6_putLetters_10 rfl ?_
  refine V_istore_3 dX6_putLetters_11 rfl ?_
  exact c_putAL   (imin (nI l.length) 8).toNatClampNeg 0 _ H g hlf hs (Ext.rf (ts := [24])) loop_init (by decide) (by rw [putA] at kk; exact fun Hz gz hlf_ ez => kk Hz gz hlf_ (E.trans ez))
theorem putAL_1 {l : List Int32} : ∀ (k : Nat) (i : Int32) (lf : List Int32), (putAL l k i lf).1 = imin (nI l.length) 8 := by
  intro k
  induction k with
  | zero => intro i lf; rfl
  | succ k ih =>
    intro i lf
    rw [putAL]
    split
    · rfl
    · exact ih _ _
theorem putA_1 {l lf : List Int32} : (putA l lf).1 = imin (nI l.length) 8 := putAL_1 _ _ _
def putBL (l : List Int32) : Nat → Int32 → List Int32 → Int32 × List Int32
  | 0, i, lf => (imin (nI l.length) 8, lf)
  | k + 1, i, lf => if (imin (nI l.length) 8) ≤ i then (imin (nI l.length) 8, lf) else (putBL l k (i + 1) (sI lf i (gI l i)))
def putB (l : List Int32) (lf : List Int32) : Int32 × List Int32 := putBL l (imin (nI l.length) 8).toNatClampNeg 0 lf
set_option maxHeartbeats 1000000 in
set_option maxRecDepth 100000 in
theorem c_putBL {G : GT} {X : String → Heap → Prop} {H0 : Heap} {g0 : Nat → Nat} {w q : Nat} {l : List Int32} {F : Int32 → Heap → Prop} {cc ss : Nat} : ∀ (k : Nat) (i : Int32) (lf : List Int32) (H : Heap) (g : Nat → Nat), Ja G H g 25 q 1 8 lf → Sz G H g w l → Ext G [25] H0 g0 H g → (imin (nI l.length) 8).toInt ≤ i.toInt + ((k : Nat) : Int) → ¬ i < 0 → (∀ (H1 : Heap) (g1 : Nat → Nat), Ja G H1 g1 25 q 1 8 (putBL l k i lf).2 → Ext G [25] H0 g0 H1 g1 → F ((putBL l k i lf).1) H1) → V G kX6_putLetters 5 cc ss (qi F) X 12 [some (.ref w), some (.ref q), some (.int (imin (nI l.length) 8)), some (.int i)] [] H := by
  intro k
  induction k with
  | zero =>
    intro i lf H g hlf hs E hm hi0 kk
    refine V_iload_3 dX6_putLetters_12 ?_
    refine V_iload_2 dX6_putLetters_13 ?_
    refine V_icmp_ge (tgt := 31) dX6_putLetters_14 (by decide) (fun c_14 => ?_) (fun c_14 => ?_)
    · refine V_iload_2 dX6_putLetters_31 ?_
      exact V_reti dX6_putLetters_32 rfl rfl (by rw [putBL] at kk; exact kk H g hlf E)
    · exact absurd (loop_end hm) c_14
  | succ k ih =>
    intro i lf H g hlf hs E hm hi0 kk
    refine V_iload_3 dX6_putLetters_12 ?_
    refine V_iload_2 dX6_putLetters_13 ?_
    refine V_icmp_ge (tgt := 31) dX6_putLetters_14 (by decide) (fun c_14 => ?_) (fun c_14 => ?_)
    · refine V_iload_2 dX6_putLetters_31 ?_
      exact V_reti dX6_putLetters_32 rfl rfl (by rw [putBL, if_pos c_14] at kk; exact kk H g hlf E)
    · refine V_aload_1 dX6_putLetters_17 ?_
      refine V_iload_3 dX6_putLetters_18 ?_
      refine V_aload_0 dX6_putLetters_19 ?_
      refine V_iload_3 dX6_putLetters_20 ?_
      have h14 := imin_nle c_14
      obtain ⟨fst, hst⟩ := hs.str.o
      refine V_call_i (runV1 dX6_putLetters_21 ce_J0_charAt_5068e rfl ml_X6_56 im_J0_charAt_5068e se_J0_charAt_5068e hst ⟨_, rfl, rfl⟩ (Nat.le_of_ble_eq_true rfl)) (by omega) (by omega) (by omega) (c_schar hs.str hi0 h14.1 ?_)
      refine V_cas dX6_putLetters_24 hlf.1 (by decide) (hlf.2 ▸ inR (n := 8) rfl (by decide) hi0 h14.2) (chr_n (asc_at hs.1 _)) fun H1 hnew e1 z1 => ?_
      have hj : Ja G H1 g 25 q 1 8 (sI lf i (gI l i)) := ⟨hnew, sI_len.trans hlf.2⟩
      replace hs := hs.fr e1 (by decide)
      replace E := E.trans (e1.wide (by decide))
      replace hlf := hj
      clear hj hnew
      refine V_iinc_3 (v := 1) dX6_putLetters_25 rfl rfl ?_
      refine V_goto (tgt := 12) dX6_putLetters_28 (by decide) ?_
      exact ih _ _ H1 g hlf hs E (loop_step c_14 hm) (nn_step c_14 hi0) (by rw [putBL, if_neg c_14] at kk; exact kk)
set_option maxHeartbeats 1000000 in
set_option maxRecDepth 100000 in
theorem c_putB {G : GT} {X : String → Heap → Prop} {H : Heap} {g : Nat → Nat} {w q : Nat} {l : List Int32} {lf : List Int32} (hlf : Ja G H g 25 q 1 8 lf) (hs : Sz G H g w l) {F : Int32 → Heap → Prop} (kk : ∀ (H1 : Heap) (g1 : Nat → Nat), Ja G H1 g1 25 q 1 8 (putB l lf).2 → Ext G [25] H g H1 g1 → F ((putB l lf).1) H1) : Call G kX6_putLetters 5 0 0 [.ref w, .ref q] H (qi F) X := by
  have E : Ext G [25] H g H g := Ext.rf
  refine startL (L0 := [some (.ref w), some (.ref q), none, none]) rfl rfl pl_X6_putLetters (Nat.le_of_ble_eq_true rfl) ?_
  refine V_aload_0 dX6_putLetters_0 ?_
  obtain ⟨fst, hst⟩ := hs.str.o
  refine V_call_i (runV0 dX6_putLetters_1 ce_J0_length_8abf5 rfl ml_X6_50 im_J0_length_8abf5 se_J0_length_8abf5 hst ⟨_, rfl, rfl⟩ (Nat.le_of_ble_eq_true rfl)) (by omega) (by omega) (by omega) (c_slen hs.str ?_)
  refine V_aload_1 dX6_putLetters_4 ?_
  refine V_alen (v := 8) dX6_putLetters_5 hlf.1.ra (by rw [hlf.2]; rfl) ?_
  refine V_mmin dX6_putLetters_6 ml_X6_37 ex_minS ex_mth ex_minC (Nat.le_of_ble_eq_true rfl) (Nat.le_of_ble_eq_true rfl) ?_
  refine V_istore_2 dX6_putLetters_9 rfl ?_
  refine V_iconst (v := 0) dX6_putLetters_10 rfl ?_
  refine V_istore_3 dX6_putLetters_11 rfl ?_
  exact c_putBL   (imin (nI l.length) 8).toNatClampNeg 0 _ H g hlf hs (Ext.rf (ts := [25])) loop_init (by decide) (by rw [putB] at kk; exact fun Hz gz hlf_ ez => kk Hz gz hlf_ (E.trans ez))
theorem putBL_1 {l : List Int32} : ∀ (k : Nat) (i : Int32) (lf : List Int32), (putBL l k i lf).1 = imin (nI l.length) 8 := by
  intro k
  induction k with
  | zero => intro i lf; rfl
  | succ k ih =>
    intro i lf
    rw [putBL]
    split
    · rfl
    · exact ih _ _
theorem putB_1 {l lf : List Int32} : (putB l lf).1 = imin (nI l.length) 8 := putBL_1 _ _ _
theorem vp_in_iff2 {i : Int32} (h0 : ¬ i < 0) (h1 : ¬ 8 ≤ i) : vp_in i 8 := inR (n := 8) rfl (by decide) h0 h1
def sameL (lf : List Int32) (ls : List Int32) (x : Int32) (y : Int32)  : Int32 := if x < 1 then 0 else (if 8 < x then 0 else (if y < 1 then 0 else (if 8 < y then 0 else (if (gI lf (x - 1)) = (gI ls (y - 1)) then 1 else 0))))
set_option maxHeartbeats 1000000 in
set_option maxRecDepth 100000 in
theorem c_sameL {G : GT} {X : String → Heap → Prop} {H : Heap} {g : Nat → Nat} {ru qf qs qt : Nat} {lf ls : List Int32} {x y : Int32}   (hlf : Ja G H g 24 qf 1 8 lf) (hls : Ja G H g 25 qs 1 8 ls) (hru : Rz G H g ru 10 [.ref qf, .ref qs, .ref qt]) {F : Int32 → Heap → Prop} (kk : F (sameL lf ls x y) H) : Call G kX6_sameLetter 0 0 0 [.ref ru, .int x, .int y] H (qi F) X := by
  refine startL (L0 := [some (.ref ru), some (.int x), some (.int y)]) rfl rfl pl_X6_sameLetter (Nat.le_of_ble_eq_true rfl) ?_
  refine V_iload_1 dX6_sameLetter_0 ?_
  refine V_iconst (v := 1) dX6_sameLetter_1 rfl ?_
  refine V_icmp_lt (tgt := 51) dX6_sameLetter_2 (by decide) (fun c_2 => ?_) (fun c_2 => ?_)
  · refine V_iconst (v := 0) dX6_sameLetter_51 rfl ?_
    exact V_retz dX6_sameLetter_52 rfl rfl rfl (by rw [sameL, if_pos c_2] at kk; exact kk )
  · refine V_iload_1 dX6_sameLetter_5 ?_
    refine V_aload_0 dX6_sameLetter_6 ?_
    refine V_getf dX6_sameLetter_7 fl_X6_9 hru.1 rfl ?_
    refine V_alen (v := 8) dX6_sameLetter_10 hlf.1.ra (by rw [hlf.2]; rfl) ?_
    refine V_icmp_gt (tgt := 51) dX6_sameLetter_11 (by decide) (fun c_11 => ?_) (fun c_11 => ?_)
    · refine V_iconst (v := 0) dX6_sameLetter_51 rfl ?_
      exact V_retz dX6_sameLetter_52 rfl rfl rfl (by rw [sameL, if_neg c_2, if_pos c_11] at kk; exact kk )
    · refine V_iload_2 dX6_sameLetter_14 ?_
      refine V_iconst (v := 1) dX6_sameLetter_15 rfl ?_
      refine V_icmp_lt (tgt := 51) dX6_sameLetter_16 (by decide) (fun c_16 => ?_) (fun c_16 => ?_)
      · refine V_iconst (v := 0) dX6_sameLetter_51 rfl ?_
        exact V_retz dX6_sameLetter_52 rfl rfl rfl (by rw [sameL, if_neg c_2, if_neg c_11, if_pos c_16] at kk; exact kk )
      · refine V_iload_2 dX6_sameLetter_19 ?_
        refine V_aload_0 dX6_sameLetter_20 ?_
        refine V_getf dX6_sameLetter_21 fl_X6_15 hru.1 rfl ?_
        refine V_alen (v := 8) dX6_sameLetter_24 hls.1.ra (by rw [hls.2]; rfl) ?_
        refine V_icmp_gt (tgt := 51) dX6_sameLetter_25 (by decide) (fun c_25 => ?_) (fun c_25 => ?_)
        · refine V_iconst (v := 0) dX6_sameLetter_51 rfl ?_
          exact V_retz dX6_sameLetter_52 rfl rfl rfl (by rw [sameL, if_neg c_2, if_neg c_11, if_neg c_16, if_pos c_25] at kk; exact kk )
        · refine V_aload_0 dX6_sameLetter_28 ?_
          refine V_getf dX6_sameLetter_29 fl_X6_9 hru.1 rfl ?_
          refine V_iload_1 dX6_sameLetter_32 ?_
          refine V_iconst (v := 1) dX6_sameLetter_33 rfl ?_
          refine V_isub dX6_sameLetter_34 ?_
          refine V_cald (v := .int (gI lf (x - 1))) dX6_sameLetter_35 hlf.1.ra (hlf.2 ▸ vp_in_iff2 (sub1_nn c_2) (sub1_le c_2 c_11)) rfl ?_
          refine V_aload_0 dX6_sameLetter_36 ?_
          refine V_getf dX6_sameLetter_37 fl_X6_15 hru.1 rfl ?_
          refine V_iload_2 dX6_sameLetter_40 ?_
          refine V_iconst (v := 1) dX6_sameLetter_41 rfl ?_
          refine V_isub dX6_sameLetter_42 ?_
          refine V_cald (v := .int (gI ls (y - 1))) dX6_sameLetter_43 hls.1.ra (hls.2 ▸ vp_in_iff2 (sub1_nn c_16) (sub1_le c_16 c_25)) rfl ?_
          refine V_icmp_ne (tgt := 51) dX6_sameLetter_44 (by decide) (fun c_44 => ?_) (fun c_44 => ?_)
          · refine V_iconst (v := 0) dX6_sameLetter_51 rfl ?_
            exact V_retz dX6_sameLetter_52 rfl rfl rfl (by rw [sameL, if_neg c_2, if_neg c_11, if_neg c_16, if_neg c_25, if_neg c_44] at kk; exact kk )
          · refine V_iconst (v := 1) dX6_sameLetter_47 rfl ?_
            refine V_goto (tgt := 52) dX6_sameLetter_48 (by decide) ?_
            exact V_retz dX6_sameLetter_52 rfl rfl rfl (by rw [sameL, if_neg c_2, if_neg c_11, if_neg c_16, if_neg c_25, if_pos c_44] at kk; exact kk )
def cellA (lt : List Int32) (x : Int32) (y : Int32)  : Int32 := if ((x * 9) + y) < 0 then 0 else (if 81 ≤ ((x * 9) + y) then 0 else (gI lt ((x * 9) + y)))
set_option maxHeartbeats 1000000 in
set_option maxRecDepth 100000 in
theorem c_cellA {G : GT} {X : String → Heap → Prop} {H : Heap} {g : Nat → Nat} {ru qf qs qt : Nat} {lt : List Int32} {x y : Int32}   (hlt : Ja G H g 26 qt 0 81 lt) (hru : Rz G H g ru 10 [.ref qf, .ref qs, .ref qt]) {F : Int32 → Heap → Prop} (kk : F (cellA lt x y) H) : Call G kX6_cellAt 0 0 0 [.ref ru, .int x, .int y] H (qi F) X := by
  refine startL (L0 := [some (.ref ru), some (.int x), some (.int y), none]) rfl rfl pl_X6_cellAt (Nat.le_of_ble_eq_true rfl) ?_
  refine V_iload_1 dX6_cellAt_0 ?_
  refine V_bipush (v := 9) dX6_cellAt_1 (by decide) ?_
  refine V_imul dX6_cellAt_3 ?_
  refine V_iload_2 dX6_cellAt_4 ?_
  refine V_iadd dX6_cellAt_5 ?_
  refine V_istore_3 dX6_cellAt_6 rfl ?_
  refine V_iload_3 dX6_cellAt_7 ?_
  refine V_if_lt (tgt := 29) dX6_cellAt_8 (by decide) (fun c_8 => ?_) (fun c_8 => ?_)
  · refine V_iconst (v := 0) dX6_cellAt_29 rfl ?_
    exact V_reti dX6_cellAt_30 rfl rfl (by rw [cellA, if_pos c_8] at kk; exact kk )
  · refine V_iload_3 dX6_cellAt_11 ?_
    refine V_aload_0 dX6_cellAt_12 ?_
    refine V_getf dX6_cellAt_13 fl_X6_18 hru.1 rfl ?_
    refine V_alen (v := 81) dX6_cellAt_16 hlt.1.ra (by rw [hlt.2]; rfl) ?_
    refine V_icmp_ge (tgt := 29) dX6_cellAt_17 (by decide) (fun c_17 => ?_) (fun c_17 => ?_)
    · refine V_iconst (v := 0) dX6_cellAt_29 rfl ?_
      exact V_reti dX6_cellAt_30 rfl rfl (by rw [cellA, if_neg c_8, if_pos c_17] at kk; exact kk )
    · refine V_aload_0 dX6_cellAt_20 ?_
      refine V_getf dX6_cellAt_21 fl_X6_18 hru.1 rfl ?_
      refine V_iload_3 dX6_cellAt_24 ?_
      refine V_iald (v := .int (gI lt ((x * 9) + y))) dX6_cellAt_25 hlt.1.ra (hlt.2 ▸ inR (n := 81) rfl (by decide) c_8 c_17) rfl ?_
      refine V_goto (tgt := 30) dX6_cellAt_26 (by decide) ?_
      exact V_reti dX6_cellAt_30 rfl rfl (by rw [cellA, if_neg c_8, if_neg c_17] at kk; exact kk )
def putCe (x : Int32) (y : Int32) (z : Int32) (lt : List Int32) : List Int32 := if ((x * 9) + y) < 0 then lt else (if 81 ≤ ((x * 9) + y) then lt else (sI lt ((x * 9) + y) z))
set_option maxHeartbeats 1000000 in
set_option maxRecDepth 100000 in
theorem c_putCe {G : GT} {X : String → Heap → Prop} {H : Heap} {g : Nat → Nat} {ru qf qs qt : Nat} {x y z : Int32} {lt : List Int32} (hlt : Ja G H g 26 qt 0 81 lt) (hru : Rz G H g ru 10 [.ref qf, .ref qs, .ref qt]) {F : Heap → Prop} (kk : ∀ (H1 : Heap) (g1 : Nat → Nat), Ja G H1 g1 26 qt 0 81 (putCe x y z lt) → Ext G [26] H g H1 g1 → F H1) : Call G kX6_putCell 0 0 0 [.ref ru, .int x, .int y, .int z] H (qv F) X := by
  have E : Ext G [26] H g H g := Ext.rf
  refine startL (L0 := [some (.ref ru), some (.int x), some (.int y), some (.int z), none]) rfl rfl pl_X6_putCell (Nat.le_of_ble_eq_true rfl) ?_
  refine V_iload_1 dX6_putCell_0 ?_
  refine V_bipush (v := 9) dX6_putCell_1 (by decide) ?_
  refine V_imul dX6_putCell_3 ?_
  refine V_iload_2 dX6_putCell_4 ?_
  refine V_iadd dX6_putCell_5 ?_
  refine V_istore_4 dX6_putCell_6 rfl ?_
  refine V_iload_4 dX6_putCell_8 ?_
  refine V_if_lt (tgt := 31) dX6_putCell_10 (by decide) (fun c_10 => ?_) (fun c_10 => ?_)
  · exact V_retv dX6_putCell_31 rfl (by rw [putCe, if_pos c_10] at kk; exact kk H g hlt E)
  · refine V_iload_4 dX6_putCell_13 ?_
    refine V_aload_0 dX6_putCell_15 ?_
    refine V_getf dX6_putCell_16 fl_X6_18 hru.1 rfl ?_
    refine V_alen (v := 81) dX6_putCell_19 hlt.1.ra (by rw [hlt.2]; rfl) ?_
    refine V_icmp_ge (tgt := 31) dX6_putCell_20 (by decide) (fun c_20 => ?_) (fun c_20 => ?_)
    · exact V_retv dX6_putCell_31 rfl (by rw [putCe, if_neg c_10, if_pos c_20] at kk; exact kk H g hlt E)
    · refine V_aload_0 dX6_putCell_23 ?_
      refine V_getf dX6_putCell_24 fl_X6_18 hru.1 rfl ?_
      refine V_iload_4 dX6_putCell_27 ?_
      refine V_iload_3 dX6_putCell_29 ?_
      refine V_ias dX6_putCell_30 hlt.1 (by decide) (hlt.2 ▸ inR (n := 81) rfl (by decide) c_10 c_20) fun H1 hnew e1 z1 => ?_
      have hj : Ja G H1 g 26 qt 0 81 (sI lt ((x * 9) + y) z) := ⟨hnew, sI_len.trans hlt.2⟩
      replace hru := hru.fr e1 (by decide)
      replace E := E.trans (e1.wide (by decide))
      replace hlt := hj
      clear hj hnew
      exact V_retv dX6_putCell_31 rfl (by rw [putCe, if_neg c_10, if_neg c_20] at kk; exact kk H1 g hlt E)
def begD (lf : List Int32) (ls : List Int32) (lt : List Int32) (x : Int32) (y : Int32)  : Int32 := if x = 0 then (x + y) else (if y = 0 then (x + y) else (if (sameL lf ls x y) = 0 then (if x < 2 then (imin ((imin (cellA lt (x - 1) y) (cellA lt x (y - 1))) + 1) ((cellA lt (x - 1) (y - 1)) + 1)) else (if y < 2 then (imin ((imin (cellA lt (x - 1) y) (cellA lt x (y - 1))) + 1) ((cellA lt (x - 1) (y - 1)) + 1)) else (if (sameL lf ls x (y - 1)) = 0 then (imin ((imin (cellA lt (x - 1) y) (cellA lt x (y - 1))) + 1) ((cellA lt (x - 1) (y - 1)) + 1)) else (if (sameL lf ls (x - 1) y) = 0 then (imin ((imin (cellA lt (x - 1) y) (cellA lt x (y - 1))) + 1) ((cellA lt (x - 1) (y - 1)) + 1)) else (imin (imin ((imin (cellA lt (x - 1) y) (cellA lt x (y - 1))) + 1) ((cellA lt (x - 1) (y - 1)) + 1)) ((cellA lt (x - 2) (y - 2)) + 1)))))) else (if x < 2 then (imin ((imin (cellA lt (x - 1) y) (cellA lt x (y - 1))) + 1) ((cellA lt (x - 1) (y - 1)) + 0)) else (if y < 2 then (imin ((imin (cellA lt (x - 1) y) (cellA lt x (y - 1))) + 1) ((cellA lt (x - 1) (y - 1)) + 0)) else (if (sameL lf ls x (y - 1)) = 0 then (imin ((imin (cellA lt (x - 1) y) (cellA lt x (y - 1))) + 1) ((cellA lt (x - 1) (y - 1)) + 0)) else (if (sameL lf ls (x - 1) y) = 0 then (imin ((imin (cellA lt (x - 1) y) (cellA lt x (y - 1))) + 1) ((cellA lt (x - 1) (y - 1)) + 0)) else (imin (imin ((imin (cellA lt (x - 1) y) (cellA lt x (y - 1))) + 1) ((cellA lt (x - 1) (y - 1)) + 0)) ((cellA lt (x - 2) (y - 2)) + 1))))))))
set_option maxHeartbeats 1000000 in
set_option maxRecDepth 100000 in
theorem c_begD {G : GT} {X : String → Heap → Prop} {H : Heap} {g : Nat → Nat} {ru qf qs qt : Nat} {lf ls lt : List Int32} {x y : Int32}   (hlf : Ja G H g 24 qf 1 8 lf) (hls : Ja G H g 25 qs 1 8 ls) (hlt : Ja G H g 26 qt 0 81 lt) (hru : Rz G H g ru 10 [.ref qf, .ref qs, .ref qt]) {F : Int32 → Heap → Prop} (kk : F (begD lf ls lt x y) H) : Call G kX6_beginningsDistance 1 0 0 [.ref ru, .int x, .int y] H (qi F) X := by
  refine startL (L0 := [some (.ref ru), some (.int x), some (.int y), none]) rfl rfl pl_X6_beginningsDistance (Nat.le_of_ble_eq_true rfl) ?_
  refine V_iload_1 dX6_beginningsDistance_0 ?_
  refine V_if_eq (tgt := 8) dX6_beginningsDistance_1 (by decide) (fun c_1 => ?_) (fun c_1 => ?_)
  · refine V_iload_1 dX6_beginningsDistance_8 ?_
    refine V_iload_2 dX6_beginningsDistance_9 ?_
    refine V_iadd dX6_beginningsDistance_10 ?_
    exact V_reti dX6_beginningsDistance_11 rfl rfl (by rw [begD, if_pos c_1] at kk; exact kk )
  · refine V_iload_2 dX6_beginningsDistance_4 ?_
    refine V_if_ne (tgt := 12) dX6_beginningsDistance_5 (by decide) (fun c_5 => ?_) (fun c_5 => ?_)
    · refine V_aload_0 dX6_beginningsDistance_12 ?_
      refine V_iload_1 dX6_beginningsDistance_13 ?_
      refine V_iconst (v := 1) dX6_beginningsDistance_14 rfl ?_
      refine V_isub dX6_beginningsDistance_15 ?_
      refine V_iload_2 dX6_beginningsDistance_16 ?_
      refine V_call_i (runV2 dX6_beginningsDistance_17 ce_X6_cellAt rfl ml_X6_34 im_X6_cellAt se_X6_cellAt hru.1 ⟨_, rfl, rfl⟩ (Nat.le_of_ble_eq_true rfl)) (by omega) (by omega) (by omega) (c_cellA (x := (x - 1)) (y := y) hlt hru ?_)
      refine V_aload_0 dX6_beginningsDistance_20 ?_
      refine V_iload_1 dX6_beginningsDistance_21 ?_
      refine V_iload_2 dX6_beginningsDistance_22 ?_
      refine V_iconst (v := 1) dX6_beginningsDistance_23 rfl ?_
      refine V_isub dX6_beginningsDistance_24 ?_
      refine V_call_i (runV2 dX6_beginningsDistance_25 ce_X6_cellAt rfl ml_X6_34 im_X6_cellAt se_X6_cellAt hru.1 ⟨_, rfl, rfl⟩ (Nat.le_of_ble_eq_true rfl)) (by omega) (by omega) (by omega) (c_cellA (x := x) (y := (y - 1)) hlt hru ?_)
      refine V_mmin dX6_beginningsDistance_28 ml_X6_37 ex_minS ex_mth ex_minC (Nat.le_of_ble_eq_true rfl) (Nat.le_of_ble_eq_true rfl) ?_
      refine V_iconst (v := 1) dX6_beginningsDistance_31 rfl ?_
      refine V_iadd dX6_beginningsDistance_32 ?_
      refine V_istore_3 dX6_beginningsDistance_33 rfl ?_
      refine V_iload_3 dX6_beginningsDistance_34 ?_
      refine V_aload_0 dX6_beginningsDistance_35 ?_
      refine V_iload_1 dX6_beginningsDistance_36 ?_
      refine V_iconst (v := 1) dX6_beginningsDistance_37 rfl ?_
      refine V_isub dX6_beginningsDistance_38 ?_
      refine V_iload_2 dX6_beginningsDistance_39 ?_
      refine V_iconst (v := 1) dX6_beginningsDistance_40 rfl ?_
      refine V_isub dX6_beginningsDistance_41 ?_
      refine V_call_i (runV2 dX6_beginningsDistance_42 ce_X6_cellAt rfl ml_X6_34 im_X6_cellAt se_X6_cellAt hru.1 ⟨_, rfl, rfl⟩ (Nat.le_of_ble_eq_true rfl)) (by omega) (by omega) (by omega) (c_cellA (x := (x - 1)) (y := (y - 1)) hlt hru ?_)
      refine V_aload_0 dX6_beginningsDistance_45 ?_
      refine V_iload_1 dX6_beginningsDistance_46 ?_
      refine V_iload_2 dX6_beginningsDistance_47 ?_
      refine V_call_i (runV2 dX6_beginningsDistance_48 ce_X6_sameLetter rfl ml_X6_42 im_X6_sameLetter se_X6_sameLetter hru.1 ⟨_, rfl, rfl⟩ (Nat.le_of_ble_eq_true rfl)) (by omega) (by omega) (by omega) (c_sameL (x := x) (y := y) hlf hls hru ?_)
      refine V_if_eq (tgt := 58) dX6_beginningsDistance_51 (by decide) (fun c_51 => ?_) (fun c_51 => ?_)
      · refine V_iconst (v := 1) dX6_beginningsDistance_58 rfl ?_
        refine V_iadd dX6_beginningsDistance_59 ?_
        refine V_mmin dX6_beginningsDistance_60 ml_X6_37 ex_minS ex_mth ex_minC (Nat.le_of_ble_eq_true rfl) (Nat.le_of_ble_eq_true rfl) ?_
        refine V_istore_3 dX6_beginningsDistance_63 rfl ?_
        refine V_iload_1 dX6_beginningsDistance_64 ?_
        refine V_iconst (v := 2) dX6_beginningsDistance_65 rfl ?_
        refine V_icmp_lt (tgt := 113) dX6_beginningsDistance_66 (by decide) (fun c_66 => ?_) (fun c_66 => ?_)
        · refine V_iload_3 dX6_beginningsDistance_113 ?_
          exact V_reti dX6_beginningsDistance_114 rfl rfl (by rw [begD, if_neg c_1, if_neg c_5, if_pos c_51, if_pos c_66] at kk; exact kk )
        · refine V_iload_2 dX6_beginningsDistance_69 ?_
          refine V_iconst (v := 2) dX6_beginningsDistance_70 rfl ?_
          refine V_icmp_lt (tgt := 113) dX6_beginningsDistance_71 (by decide) (fun c_71 => ?_) (fun c_71 => ?_)
          · refine V_iload_3 dX6_beginningsDistance_113 ?_
            exact V_reti dX6_beginningsDistance_114 rfl rfl (by rw [begD, if_neg c_1, if_neg c_5, if_pos c_51, if_neg c_66, if_pos c_71] at kk; exact kk )
          · refine V_aload_0 dX6_beginningsDistance_74 ?_
            refine V_iload_1 dX6_beginningsDistance_75 ?_
            refine V_iload_2 dX6_beginningsDistance_76 ?_
            refine V_iconst (v := 1) dX6_beginningsDistance_77 rfl ?_
            refine V_isub dX6_beginningsDistance_78 ?_
            refine V_call_i (runV2 dX6_beginningsDistance_79 ce_X6_sameLetter rfl ml_X6_42 im_X6_sameLetter se_X6_sameLetter hru.1 ⟨_, rfl, rfl⟩ (Nat.le_of_ble_eq_true rfl)) (by omega) (by omega) (by omega) (c_sameL (x := x) (y := (y - 1)) hlf hls hru ?_)
            refine V_if_eq (tgt := 113) dX6_beginningsDistance_82 (by decide) (fun c_82 => ?_) (fun c_82 => ?_)
            · refine V_iload_3 dX6_beginningsDistance_113 ?_
              exact V_reti dX6_beginningsDistance_114 rfl rfl (by rw [begD, if_neg c_1, if_neg c_5, if_pos c_51, if_neg c_66, if_neg c_71, if_pos c_82] at kk; exact kk )
            · refine V_aload_0 dX6_beginningsDistance_85 ?_
              refine V_iload_1 dX6_beginningsDistance_86 ?_
              refine V_iconst (v := 1) dX6_beginningsDistance_87 rfl ?_
              refine V_isub dX6_beginningsDistance_88 ?_
              refine V_iload_2 dX6_beginningsDistance_89 ?_
              refine V_call_i (runV2 dX6_beginningsDistance_90 ce_X6_sameLetter rfl ml_X6_42 im_X6_sameLetter se_X6_sameLetter hru.1 ⟨_, rfl, rfl⟩ (Nat.le_of_ble_eq_true rfl)) (by omega) (by omega) (by omega) (c_sameL (x := (x - 1)) (y := y) hlf hls hru ?_)
              refine V_if_eq (tgt := 113) dX6_beginningsDistance_93 (by decide) (fun c_93 => ?_) (fun c_93 => ?_)
              · refine V_iload_3 dX6_beginningsDistance_113 ?_
                exact V_reti dX6_beginningsDistance_114 rfl rfl (by rw [begD, if_neg c_1, if_neg c_5, if_pos c_51, if_neg c_66, if_neg c_71, if_neg c_82, if_pos c_93] at kk; exact kk )
              · refine V_iload_3 dX6_beginningsDistance_96 ?_
                refine V_aload_0 dX6_beginningsDistance_97 ?_
                refine V_iload_1 dX6_beginningsDistance_98 ?_
                refine V_iconst (v := 2) dX6_beginningsDistance_99 rfl ?_
                refine V_isub dX6_beginningsDistance_100 ?_
                refine V_iload_2 dX6_beginningsDistance_101 ?_
                refine V_iconst (v := 2) dX6_beginningsDistance_102 rfl ?_
                refine V_isub dX6_beginningsDistance_103 ?_
                refine V_call_i (runV2 dX6_beginningsDistance_104 ce_X6_cellAt rfl ml_X6_34 im_X6_cellAt se_X6_cellAt hru.1 ⟨_, rfl, rfl⟩ (Nat.le_of_ble_eq_true rfl)) (by omega) (by omega) (by omega) (c_cellA (x := (x - 2)) (y := (y - 2)) hlt hru ?_)
                refine V_iconst (v := 1) dX6_beginningsDistance_107 rfl ?_
                refine V_iadd dX6_beginningsDistance_108 ?_
                refine V_mmin dX6_beginningsDistance_109 ml_X6_37 ex_minS ex_mth ex_minC (Nat.le_of_ble_eq_true rfl) (Nat.le_of_ble_eq_true rfl) ?_
                refine V_istore_3 dX6_beginningsDistance_112 rfl ?_
                refine V_iload_3 dX6_beginningsDistance_113 ?_
                exact V_reti dX6_beginningsDistance_114 rfl rfl (by rw [begD, if_neg c_1, if_neg c_5, if_pos c_51, if_neg c_66, if_neg c_71, if_neg c_82, if_neg c_93] at kk; exact kk )
      · refine V_iconst (v := 0) dX6_beginningsDistance_54 rfl ?_
        refine V_goto (tgt := 59) dX6_beginningsDistance_55 (by decide) ?_
        refine V_iadd dX6_beginningsDistance_59 ?_
        refine V_mmin dX6_beginningsDistance_60 ml_X6_37 ex_minS ex_mth ex_minC (Nat.le_of_ble_eq_true rfl) (Nat.le_of_ble_eq_true rfl) ?_
        refine V_istore_3 dX6_beginningsDistance_63 rfl ?_
        refine V_iload_1 dX6_beginningsDistance_64 ?_
        refine V_iconst (v := 2) dX6_beginningsDistance_65 rfl ?_
        refine V_icmp_lt (tgt := 113) dX6_beginningsDistance_66 (by decide) (fun c_66 => ?_) (fun c_66 => ?_)
        · refine V_iload_3 dX6_beginningsDistance_113 ?_
          exact V_reti dX6_beginningsDistance_114 rfl rfl (by rw [begD, if_neg c_1, if_neg c_5, if_neg c_51, if_pos c_66] at kk; exact kk )
        · refine V_iload_2 dX6_beginningsDistance_69 ?_
          refine V_iconst (v := 2) dX6_beginningsDistance_70 rfl ?_
          refine V_icmp_lt (tgt := 113) dX6_beginningsDistance_71 (by decide) (fun c_71 => ?_) (fun c_71 => ?_)
          · refine V_iload_3 dX6_beginningsDistance_113 ?_
            exact V_reti dX6_beginningsDistance_114 rfl rfl (by rw [begD, if_neg c_1, if_neg c_5, if_neg c_51, if_neg c_66, if_pos c_71] at kk; exact kk )
          · refine V_aload_0 dX6_beginningsDistance_74 ?_
            refine V_iload_1 dX6_beginningsDistance_75 ?_
            refine V_iload_2 dX6_beginningsDistance_76 ?_
            refine V_iconst (v := 1) dX6_beginningsDistance_77 rfl ?_
            refine V_isub dX6_beginningsDistance_78 ?_
            refine V_call_i (runV2 dX6_beginningsDistance_79 ce_X6_sameLetter rfl ml_X6_42 im_X6_sameLetter se_X6_sameLetter hru.1 ⟨_, rfl, rfl⟩ (Nat.le_of_ble_eq_true rfl)) (by omega) (by omega) (by omega) (c_sameL (x := x) (y := (y - 1)) hlf hls hru ?_)
            refine V_if_eq (tgt := 113) dX6_beginningsDistance_82 (by decide) (fun c_82 => ?_) (fun c_82 => ?_)
            · refine V_iload_3 dX6_beginningsDistance_113 ?_
              exact V_reti dX6_beginningsDistance_114 rfl rfl (by rw [begD, if_neg c_1, if_neg c_5, if_neg c_51, if_neg c_66, if_neg c_71, if_pos c_82] at kk; exact kk )
            · refine V_aload_0 dX6_beginningsDistance_85 ?_
              refine V_iload_1 dX6_beginningsDistance_86 ?_
              refine V_iconst (v := 1) dX6_beginningsDistance_87 rfl ?_
              refine V_isub dX6_beginningsDistance_88 ?_
              refine V_iload_2 dX6_beginningsDistance_89 ?_
              refine V_call_i (runV2 dX6_beginningsDistance_90 ce_X6_sameLetter rfl ml_X6_42 im_X6_sameLetter se_X6_sameLetter hru.1 ⟨_, rfl, rfl⟩ (Nat.le_of_ble_eq_true rfl)) (by omega) (by omega) (by omega) (c_sameL (x := (x - 1)) (y := y) hlf hls hru ?_)
              refine V_if_eq (tgt := 113) dX6_beginningsDistance_93 (by decide) (fun c_93 => ?_) (fun c_93 => ?_)
              · refine V_iload_3 dX6_beginningsDistance_113 ?_
                exact V_reti dX6_beginningsDistance_114 rfl rfl (by rw [begD, if_neg c_1, if_neg c_5, if_neg c_51, if_neg c_66, if_neg c_71, if_neg c_82, if_pos c_93] at kk; exact kk )
              · refine V_iload_3 dX6_beginningsDistance_96 ?_
                refine V_aload_0 dX6_beginningsDistance_97 ?_
                refine V_iload_1 dX6_beginningsDistance_98 ?_
                refine V_iconst (v := 2) dX6_beginningsDistance_99 rfl ?_
                refine V_isub dX6_beginningsDistance_100 ?_
                refine V_iload_2 dX6_beginningsDistance_101 ?_
                refine V_iconst (v := 2) dX6_beginningsDistance_102 rfl ?_
                refine V_isub dX6_beginningsDistance_103 ?_
                refine V_call_i (runV2 dX6_beginningsDistance_104 ce_X6_cellAt rfl ml_X6_34 im_X6_cellAt se_X6_cellAt hru.1 ⟨_, rfl, rfl⟩ (Nat.le_of_ble_eq_true rfl)) (by omega) (by omega) (by omega) (c_cellA (x := (x - 2)) (y := (y - 2)) hlt hru ?_)
                refine V_iconst (v := 1) dX6_beginningsDistance_107 rfl ?_
                refine V_iadd dX6_beginningsDistance_108 ?_
                refine V_mmin dX6_beginningsDistance_109 ml_X6_37 ex_minS ex_mth ex_minC (Nat.le_of_ble_eq_true rfl) (Nat.le_of_ble_eq_true rfl) ?_
                refine V_istore_3 dX6_beginningsDistance_112 rfl ?_
                refine V_iload_3 dX6_beginningsDistance_113 ?_
                exact V_reti dX6_beginningsDistance_114 rfl rfl (by rw [begD, if_neg c_1, if_neg c_5, if_neg c_51, if_neg c_66, if_neg c_71, if_neg c_82, if_neg c_93] at kk; exact kk )
    · refine V_iload_1 dX6_beginningsDistance_8 ?_
      refine V_iload_2 dX6_beginningsDistance_9 ?_
      refine V_iadd dX6_beginningsDistance_10 ?_
      exact V_reti dX6_beginningsDistance_11 rfl rfl (by rw [begD, if_neg c_1, if_pos c_5] at kk; exact kk )
def byBI (l1 : List Int32) (l2 : List Int32) (i : Int32) : Nat → Int32 → List Int32 → List Int32 → List Int32 → Int32 × List Int32 × List Int32 × List Int32
  | 0, j, lf, ls, lt => (j, lf, ls, lt)
  | k + 1, j, lf, ls, lt => if (imin (nI l2.length) 8) < j then (j, lf, ls, lt) else (byBI l1 l2 i k (j + 1) lf ls (putCe i j (begD lf ls lt i j) lt))
def byBL (l1 : List Int32) (l2 : List Int32) : Nat → Int32 → List Int32 → List Int32 → List Int32 → Int32 × List Int32 × List Int32 × List Int32
  | 0, i, lf, ls, lt => (cellA lt (imin (nI l1.length) 8) (imin (nI l2.length) 8), lf, ls, lt)
  | k + 1, i, lf, ls, lt => if (imin (nI l1.length) 8) < i then (cellA lt (imin (nI l1.length) 8) (imin (nI l2.length) 8), lf, ls, lt) else (byBL l1 l2 k (i + 1) ((byBI l1 l2 i ((imin (nI l2.length) 8).toNatClampNeg + 1) 0 lf ls lt).2.1) ((byBI l1 l2 i ((imin (nI l2.length) 8).toNatClampNeg + 1) 0 lf ls lt).2.2.1) ((byBI l1 l2 i ((imin (nI l2.length) 8).toNatClampNeg + 1) 0 lf ls lt).2.2.2))
def byB (l1 : List Int32) (l2 : List Int32) (lf : List Int32) (ls : List Int32) (lt : List Int32) : Int32 × List Int32 × List Int32 × List Int32 := byBL l1 l2 ((imin (nI l1.length) 8).toNatClampNeg + 1) 0 ((putA l1 lf).2) ((putB l2 ls).2) lt
set_option maxHeartbeats 1000000 in
set_option maxRecDepth 100000 in
theorem c_byBI {G : GT} {X : String → Heap → Prop} {H0 : Heap} {g0 : Nat → Nat} {ru qf qs qt : Nat} {w1 w2 : Nat} {l1 l2 : List Int32} {i : Int32} {Q : Option Value → Heap → Prop} {cc ss : Nat} : ∀ (k : Nat) (j : Int32) (lf : List Int32) (ls : List Int32) (lt : List Int32) (H : Heap) (g : Nat → Nat), Ja G H g 24 qf 1 8 lf → Ja G H g 25 qs 1 8 ls → Ja G H g 26 qt 0 81 lt → Rz G H g ru 10 [.ref qf, .ref qs, .ref qt] → Sz G H g w1 l1 → Sz G H g w2 l2 → Ext G [24, 25, 26] H0 g0 H g → (imin (nI l2.length) 8).toInt < j.toInt + ((k : Nat) : Int) → (∀ (H1 : Heap) (g1 : Nat → Nat), Ja G H1 g1 24 qf 1 8 (byBI l1 l2 i k j lf ls lt).2.1 → Ja G H1 g1 25 qs 1 8 (byBI l1 l2 i k j lf ls lt).2.2.1 → Ja G H1 g1 26 qt 0 81 (byBI l1 l2 i k j lf ls lt).2.2.2 → Ext G [24, 25, 26] H0 g0 H1 g1 → V G kX6_byBeginnings 6 cc ss Q X 60 [some (.ref ru), some (.ref w1), some (.ref w2), some (.int (imin (nI l1.length) 8)), some (.int (imin (nI l2.length) 8)), some (.int i), some (.int ((byBI l1 l2 i k j lf ls lt).1))] [] H1) → V G kX6_byBeginnings 6 cc ss Q X 31 [some (.ref ru), some (.ref w1), some (.ref w2), some (.int (imin (nI l1.length) 8)), some (.int (imin (nI l2.length) 8)), some (.int i), some (.int j)] [] H := by
  intro k
  induction k with
  | zero =>
    intro j lf ls lt H g hlf hls hlt hru hs1 hs2 E hm kk
    refine V_iload_6 dX6_byBeginnings_31 ?_
    refine V_iload_4 dX6_byBeginnings_33 ?_
    refine V_icmp_gt (tgt := 60) dX6_byBeginnings_35 (by decide) (fun c_35 => ?_) (fun c_35 => ?_)
    · exact (by rw [byBI] at kk; exact kk H g hlf hls hlt E)
    · exact absurd (loop_endL hm) c_35
  | succ k ih =>
    intro j lf ls lt H g hlf hls hlt hru hs1 hs2 E hm kk
    refine V_iload_6 dX6_byBeginnings_31 ?_
    refine V_iload_4 dX6_byBeginnings_33 ?_
    refine V_icmp_gt (tgt := 60) dX6_byBeginnings_35 (by decide) (fun c_35 => ?_) (fun c_35 => ?_)
    · exact (by rw [byBI, if_pos c_35] at kk; exact kk H g hlf hls hlt E)
    · refine V_aload_0 dX6_byBeginnings_38 ?_
      refine V_iload_5 dX6_byBeginnings_39 ?_
      refine V_iload_6 dX6_byBeginnings_41 ?_
      refine V_aload_0 dX6_byBeginnings_43 ?_
      refine V_iload_5 dX6_byBeginnings_44 ?_
      refine V_iload_6 dX6_byBeginnings_46 ?_
      refine V_call_i (runV2 dX6_byBeginnings_48 ce_X6_beginningsDistance rfl ml_X6_26 im_X6_beginningsDistance se_X6_beginningsDistance hru.1 ⟨_, rfl, rfl⟩ (Nat.le_of_ble_eq_true rfl)) (by omega) (by omega) (by omega) (c_begD (x := i) (y := j) hlf hls hlt hru ?_)
      refine V_call_v (runV3 dX6_byBeginnings_51 ce_X6_putCell rfl ml_X6_30 im_X6_putCell se_X6_putCell hru.1 ⟨_, rfl, rfl⟩ (Nat.le_of_ble_eq_true rfl)) (by omega) (by omega) (by omega) (c_putCe (x := i) (y := j) (z := (begD lf ls lt i j)) hlt hru fun H1 g1 hlt_ e1 => ?_)
      replace hlf := hlf.fr e1 (by decide)
      replace hls := hls.fr e1 (by decide)
      replace hru := hru.fr e1 (by decide)
      replace hs1 := hs1.fr e1 (by decide)
      replace hs2 := hs2.fr e1 (by decide)
      replace E := E.trans (e1.wide (by decide))
      replace hlt : Ja G H1 g1 26 qt 0 81 (putCe i j (begD lf ls lt i j) lt) := hlt_
      clear hlt_
      refine V_iinc_6 (v := 1) dX6_byBeginnings_54 rfl rfl ?_
      refine V_goto (tgt := 31) dX6_byBeginnings_57 (by decide) ?_
      exact ih _ _ _ _ H1 g1 hlf hls hlt hru hs1 hs2 E (stepM c_35 hm)  (by rw [byBI, if_neg c_35] at kk; exact kk)
set_option maxHeartbeats 1000000 in
set_option maxRecDepth 100000 in
theorem c_byBL {G : GT} {X : String → Heap → Prop} {H0 : Heap} {g0 : Nat → Nat} {ru qf qs qt : Nat} {w1 w2 : Nat} {l1 l2 : List Int32} {F : Int32 → Heap → Prop} {cc ss : Nat} : ∀ (k : Nat) (i : Int32) (lf : List Int32) (ls : List Int32) (lt : List Int32) (H : Heap) (g : Nat → Nat), Ja G H g 24 qf 1 8 lf → Ja G H g 25 qs 1 8 ls → Ja G H g 26 qt 0 81 lt → Rz G H g ru 10 [.ref qf, .ref qs, .ref qt] → Sz G H g w1 l1 → Sz G H g w2 l2 → Ext G [24, 25, 26] H0 g0 H g → (imin (nI l1.length) 8).toInt < i.toInt + ((k : Nat) : Int) → (∀ (H1 : Heap) (g1 : Nat → Nat), Ja G H1 g1 24 qf 1 8 (byBL l1 l2 k i lf ls lt).2.1 → Ja G H1 g1 25 qs 1 8 (byBL l1 l2 k i lf ls lt).2.2.1 → Ja G H1 g1 26 qt 0 81 (byBL l1 l2 k i lf ls lt).2.2.2 → Ext G [24, 25, 26] H0 g0 H1 g1 → F ((byBL l1 l2 k i lf ls lt).1) H1) → V G kX6_byBeginnings 6 cc ss (qi F) X 22 [some (.ref ru), some (.ref w1), some (.ref w2), some (.int (imin (nI l1.length) 8)), some (.int (imin (nI l2.length) 8)), some (.int i), none] [] H := by
  intro k
  induction k with
  | zero =>
    intro i lf ls lt H g hlf hls hlt hru hs1 hs2 E hm kk
    refine V_iload_5 dX6_byBeginnings_22 ?_
    refine V_iload_3 dX6_byBeginnings_24 ?_
    refine V_icmp_gt (tgt := 66) dX6_byBeginnings_25 (by decide) (fun c_25 => ?_) (fun c_25 => ?_)
    · refine V_aload_0 dX6_byBeginnings_66 ?_
      refine V_iload_3 dX6_byBeginnings_67 ?_
      refine V_iload_4 dX6_byBeginnings_68 ?_
      refine V_call_i (runV2 dX6_byBeginnings_70 ce_X6_cellAt rfl ml_X6_34 im_X6_cellAt se_X6_cellAt hru.1 ⟨_, rfl, rfl⟩ (Nat.le_of_ble_eq_true rfl)) (by omega) (by omega) (by omega) (c_cellA (x := (imin (nI l1.length) 8)) (y := (imin (nI l2.length) 8)) hlt hru ?_)
      exact V_reti dX6_byBeginnings_73 rfl rfl (by rw [byBL] at kk; exact kk H g hlf hls hlt E)
    · exact absurd (loop_endL hm) c_25
  | succ k ih =>
    intro i lf ls lt H g hlf hls hlt hru hs1 hs2 E hm kk
    refine V_iload_5 dX6_byBeginnings_22 ?_
    refine V_iload_3 dX6_byBeginnings_24 ?_
    refine V_icmp_gt (tgt := 66) dX6_byBeginnings_25 (by decide) (fun c_25 => ?_) (fun c_25 => ?_)
    · refine V_aload_0 dX6_byBeginnings_66 ?_
      refine V_iload_3 dX6_byBeginnings_67 ?_
      refine V_iload_4 dX6_byBeginnings_68 ?_
      refine V_call_i (runV2 dX6_byBeginnings_70 ce_X6_cellAt rfl ml_X6_34 im_X6_cellAt se_X6_cellAt hru.1 ⟨_, rfl, rfl⟩ (Nat.le_of_ble_eq_true rfl)) (by omega) (by omega) (by omega) (c_cellA (x := (imin (nI l1.length) 8)) (y := (imin (nI l2.length) 8)) hlt hru ?_)
      exact V_reti dX6_byBeginnings_73 rfl rfl (by rw [byBL, if_pos c_25] at kk; exact kk H g hlf hls hlt E)
    · refine V_iconst (v := 0) dX6_byBeginnings_28 rfl ?_
      refine V_istore_6 dX6_byBeginnings_29 rfl ?_
      refine c_byBI (i := i)   ((imin (nI l2.length) 8).toNatClampNeg + 1) 0 _ _ _ H g hlf hls hlt hru hs1 hs2 (Ext.rf (ts := [24, 25, 26])) initM  fun H1 g1 hlf_ hls_ hlt_ e1 => ?_
      refine V_drop 6 rfl ?_
      replace hru := hru.fr e1 (by decide)
      replace hs1 := hs1.fr e1 (by decide)
      replace hs2 := hs2.fr e1 (by decide)
      replace E := E.trans (e1.wide (by decide))
      replace hlf := hlf_
      clear hlf_
      replace hls := hls_
      clear hls_
      replace hlt := hlt_
      clear hlt_
      refine V_iinc_5 (v := 1) dX6_byBeginnings_60 rfl rfl ?_
      refine V_goto (tgt := 22) dX6_byBeginnings_63 (by decide) ?_
      exact ih _ _ _ _ H1 g1 hlf hls hlt hru hs1 hs2 E (stepM c_25 hm)  (by rw [byBL, if_neg c_25] at kk; exact kk)
set_option maxHeartbeats 1000000 in
set_option maxRecDepth 100000 in
theorem c_byB {G : GT} {X : String → Heap → Prop} {H : Heap} {g : Nat → Nat} {ru qf qs qt : Nat} {w1 w2 : Nat} {l1 l2 : List Int32} {lf : List Int32} {ls : List Int32} {lt : List Int32} (hlf : Ja G H g 24 qf 1 8 lf) (hls : Ja G H g 25 qs 1 8 ls) (hlt : Ja G H g 26 qt 0 81 lt) (hru : Rz G H g ru 10 [.ref qf, .ref qs, .ref qt]) (hs1 : Sz G H g w1 l1) (hs2 : Sz G H g w2 l2) {F : Int32 → Heap → Prop} (kk : ∀ (H1 : Heap) (g1 : Nat → Nat), Ja G H1 g1 24 qf 1 8 (byB l1 l2 lf ls lt).2.1 → Ja G H1 g1 25 qs 1 8 (byB l1 l2 lf ls lt).2.2.1 → Ja G H1 g1 26 qt 0 81 (byB l1 l2 lf ls lt).2.2.2 → Ext G [24, 25, 26] H g H1 g1 → F ((byB l1 l2 lf ls lt).1) H1) : Call G kX6_byBeginnings 6 0 0 [.ref ru, .ref w1, .ref w2] H (qi F) X := by
  have E : Ext G [24, 25, 26] H g H g := Ext.rf
  refine startL (L0 := [some (.ref ru), some (.ref w1), some (.ref w2), none, none, none, none]) rfl rfl pl_X6_byBeginnings (Nat.le_of_ble_eq_true rfl) ?_
  refine V_aload_1 dX6_byBeginnings_0 ?_
  refine V_aload_0 dX6_byBeginnings_1 ?_
  refine V_getf dX6_byBeginnings_2 fl_X6_9 hru.1 rfl ?_
  refine V_call_i (runS2 dX6_byBeginnings_5 ce_X6_putLetters rfl ml_X6_22 st_X6_putLetters (Nat.le_of_ble_eq_true rfl)) (by omega) (by omega) (by omega) (c_putA hlf hs1 fun H1 g1 hnew e1 => ?_)
  rw [putA_1]
  replace hls := hls.fr e1 (by decide)
  replace hlt := hlt.fr e1 (by decide)
  replace hru := hru.fr e1 (by decide)
  replace hs1 := hs1.fr e1 (by decide)
  replace hs2 := hs2.fr e1 (by decide)
  replace E := E.trans (e1.wide (by decide))
  replace hlf := hnew
  clear hnew
  refine V_istore_3 dX6_byBeginnings_8 rfl ?_
  refine V_aload_2 dX6_byBeginnings_9 ?_
  refine V_aload_0 dX6_byBeginnings_10 ?_
  refine V_getf dX6_byBeginnings_11 fl_X6_15 hru.1 rfl ?_
  refine V_call_i (runS2 dX6_byBeginnings_14 ce_X6_putLetters rfl ml_X6_22 st_X6_putLetters (Nat.le_of_ble_eq_true rfl)) (by omega) (by omega) (by omega) (c_putB hls hs2 fun H2 g2 hnew e2 => ?_)
  rw [putB_1]
  replace hlf := hlf.fr e2 (by decide)
  replace hlt := hlt.fr e2 (by decide)
  replace hru := hru.fr e2 (by decide)
  replace hs1 := hs1.fr e2 (by decide)
  replace hs2 := hs2.fr e2 (by decide)
  replace E := E.trans (e2.wide (by decide))
  replace hls := hnew
  clear hnew
  refine V_istore_4 dX6_byBeginnings_17 rfl ?_
  refine V_iconst (v := 0) dX6_byBeginnings_19 rfl ?_
  refine V_istore_5 dX6_byBeginnings_20 rfl ?_
  exact c_byBL   ((imin (nI l1.length) 8).toNatClampNeg + 1) 0 _ _ _ H2 g2 hlf hls hlt hru hs1 hs2 (Ext.rf (ts := [24, 25, 26])) initM  (by rw [byB] at kk; exact fun Hz gz hlf_ hls_ hlt_ ez => kk Hz gz hlf_ hls_ hlt_ (E.trans ez))

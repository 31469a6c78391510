theorem V_retz {G : GT} {K : MT} {d c s : Nat} {F : Int32 → Heap → Prop} {X : String → Heap → Prop} {H : Heap} {L : List (Option Value)} {pc : Nat} {v w : Int32} {ty : FieldType} (hd : decode K.2.1 pc = .ok (.ireturn, 1)) (hr : K.2.2.2.1 = some ty) (hn : narrow ty (.int v) = .int v) (hv : v = w) (k : F w H) : V G K d c s (qi F) X pc L [.int v] H := by
  subst hv
  exact V_zret hd hr hn ⟨_, rfl, k⟩
theorem loop_end {n i : Int32} (h : n.toInt ≤ i.toInt + ((0 : Nat) : Int)) : n ≤ i := Int32.le_iff_toInt_le.mpr (by omega)
theorem i_succ {n i : Int32} (h : ¬ n ≤ i) : (i + 1).toInt = i.toInt + 1 := by
  have h1 : i.toInt < n.toInt := Int32.lt_iff_toInt_lt.mp (Int32.not_le.mp h)
  have h2 : n.toInt < 2 ^ 31 := Int32.toInt_lt n
  have h3 : -(2 ^ 31) ≤ i.toInt := Int32.le_toInt i
  rw [Int32.toInt_add, show (1 : Int32).toInt = 1 from rfl]
  exact Int.bmod_eq_of_le (by omega) (by omega)
theorem loop_step {n i : Int32} {k : Nat} (h : ¬ n ≤ i) (hm : n.toInt ≤ i.toInt + ((k + 1 : Nat) : Int)) : n.toInt ≤ (i + 1).toInt + (k : Int) := by
  rw [i_succ h]; omega
theorem loop_init {n : Int32} : n.toInt ≤ (0 : Int32).toInt + (n.toNatClampNeg : Int) := by
  have h : (0 : Int32).toInt = 0 := rfl
  rw [h]
  show n.toInt ≤ 0 + ((n.toInt.toNat : Nat) : Int)
  omega
theorem nn_step {n i : Int32} (h : ¬ n ≤ i) (h0 : ¬ i < 0) : ¬ i + 1 < 0 := by
  rw [Int32.lt_iff_toInt_lt, i_succ h]
  rw [Int32.lt_iff_toInt_lt] at h0
  have h : (0 : Int32).toInt = 0 := rfl
  omega
def bondsOfL (ten : List Int32) (n : Int32) (x : Int32) : Nat → Int32 → Int32 → Int32
  | 0, s, i => s
  | k + 1, s, i => if n ≤ i then s else (if (rd ten 64 (x * 8 + i)) ≤ 0 then (bondsOfL ten n x k s (i + 1)) else (bondsOfL ten n x k (s + 1) (i + 1)))
def bondsOf (ten : List Int32) (n : Int32) (x : Int32) : Int32 := bondsOfL ten n x n.toNatClampNeg 0 0
set_option maxHeartbeats 4000000 in
set_option maxRecDepth 100000 in
theorem c_bondsOfL {G : GT} {H : Heap} {g : Nat → Nat} {t a : Nat} {X : String → Heap → Prop} {bal ten : List Int32} {cs : List CaseC} {ps : List PrecC} {n ch td nx : Int32} (h : MS G H g t a (bal, ten, cs, ps, n, ch, td, nx)) {x : Int32} {F : Int32 → Heap → Prop} : ∀ (k : Nat) (s i : Int32), n.toInt ≤ i.toInt + (k : Nat) → F (bondsOfL ten n x k s i) H → V G kX9_bondsOf 2 0 0 (qi F) X 4 [some (.ref a), some (.int x), some (.int s), some (.int i)] [] H := by
  obtain ⟨hbl, htl, b, k0, u, v, ho, hbal, hten, hcs, hps⟩ := id h
  intro k
  induction k with
  | zero =>
    intro s i hm  kk
    refine V_iload_3 dX9_bondsOf_4 ?_
    refine V_aload_0 dX9_bondsOf_5 ?_
    refine V_getf dX9_bondsOf_6 fl_X9_28 ho.ro rfl ?_
    refine V_icmp_ge (tgt := 30) dX9_bondsOf_9 (by decide) (fun c_9 => ?_) (fun c_9 => ?_)
    · refine V_iload_2 dX9_bondsOf_30 ?_
      exact V_reti dX9_bondsOf_31 rfl rfl (by rw [bondsOfL] at kk; exact kk)
    · exact absurd (loop_end hm) c_9
  | succ k ih =>
    intro s i hm  kk
    refine V_iload_3 dX9_bondsOf_4 ?_
    refine V_aload_0 dX9_bondsOf_5 ?_
    refine V_getf dX9_bondsOf_6 fl_X9_28 ho.ro rfl ?_
    refine V_icmp_ge (tgt := 30) dX9_bondsOf_9 (by decide) (fun c_9 => ?_) (fun c_9 => ?_)
    · refine V_iload_2 dX9_bondsOf_30 ?_
      exact V_reti dX9_bondsOf_31 rfl rfl (by rw [bondsOfL, if_pos c_9] at kk; exact kk)
    · refine V_aload_0 dX9_bondsOf_12 ?_
      refine V_iload_1 dX9_bondsOf_13 ?_
      refine V_iload_3 dX9_bondsOf_14 ?_
      refine V_call_i (runV2 dX9_bondsOf_15 ce_X9_tensionBetween rfl ml_X9_71 im_X9_tensionBetween se_X9_tensionBetween ho.ro ⟨_, rfl, rfl⟩ (Nat.le_of_ble_eq_true rfl)) (by omega) (by omega) (by omega) (c_tensionBetween h x i ?_)
      refine V_if_le (tgt := 24) dX9_bondsOf_18 (by decide) (fun c_18 => ?_) (fun c_18 => ?_)
      · refine V_iinc_3 (v := 1) dX9_bondsOf_24 rfl rfl ?_
        refine V_goto (tgt := 4) dX9_bondsOf_27 (by decide) ?_
        exact ih _ _ (loop_step c_9 hm)  (by rw [bondsOfL, if_neg c_9, if_pos c_18] at kk; exact kk)
      · refine V_iinc_2 (v := 1) dX9_bondsOf_21 rfl rfl ?_
        refine V_iinc_3 (v := 1) dX9_bondsOf_24 rfl rfl ?_
        refine V_goto (tgt := 4) dX9_bondsOf_27 (by decide) ?_
        exact ih _ _ (loop_step c_9 hm)  (by rw [bondsOfL, if_neg c_9, if_neg c_18] at kk; exact kk)
set_option maxHeartbeats 4000000 in
set_option maxRecDepth 100000 in
theorem c_bondsOf {G : GT} {H : Heap} {g : Nat → Nat} {t a : Nat} {X : String → Heap → Prop} {bal ten : List Int32} {cs : List CaseC} {ps : List PrecC} {n ch td nx : Int32} (h : MS G H g t a (bal, ten, cs, ps, n, ch, td, nx)) {x : Int32} {F : Int32 → Heap → Prop} (kk : F (bondsOf ten n x) H) : Call G kX9_bondsOf 2 0 0 [.ref a, .int x] H (qi F) X := by
  obtain ⟨hbl, htl, b, k0, u, v, ho, hbal, hten, hcs, hps⟩ := id h
  refine startL (L0 := [some (.ref a), some (.int x), none, none]) rfl rfl pl_X9_bondsOf (Nat.le_of_ble_eq_true rfl) ?_
  refine V_iconst (v := 0) dX9_bondsOf_0 rfl ?_
  refine V_istore_2 dX9_bondsOf_1 rfl ?_
  refine V_iconst (v := 0) dX9_bondsOf_2 rfl ?_
  refine V_istore_3 dX9_bondsOf_3 rfl ?_
  exact c_bondsOfL h _ _ _ loop_init  (by rw [bondsOf] at kk; exact kk)
def ranksB (bal : List Int32) (ten : List Int32) (n : Int32) (x : Int32) (y : Int32) : Int32 := if (rd bal 8 x) = (rd bal 8 y) then (if (bondsOf ten n x) = (bondsOf ten n y) then (if y ≤ x then 0 else 1) else (if (bondsOf ten n x) ≤ (bondsOf ten n y) then 0 else 1)) else (if (rd bal 8 x) ≤ (rd bal 8 y) then 0 else 1)
set_option maxHeartbeats 4000000 in
set_option maxRecDepth 100000 in
theorem c_ranksB {G : GT} {H : Heap} {g : Nat → Nat} {t a : Nat} {X : String → Heap → Prop} {bal ten : List Int32} {cs : List CaseC} {ps : List PrecC} {n ch td nx : Int32} (h : MS G H g t a (bal, ten, cs, ps, n, ch, td, nx)) {x y : Int32} {F : Int32 → Heap → Prop} (kk : F (ranksB bal ten n x y) H) : Call G kX9_buttonRanksBefore 3 0 0 [.ref a, .int x, .int y] H (qi F) X := by
  obtain ⟨hbl, htl, b, k0, u, v, ho, hbal, hten, hcs, hps⟩ := id h
  refine startL (L0 := [some (.ref a), some (.int x), some (.int y)]) rfl rfl pl_X9_buttonRanksBefore (Nat.le_of_ble_eq_true rfl) ?_
  refine V_aload_0 dX9_buttonRanksBefore_0 ?_
  refine V_iload_1 dX9_buttonRanksBefore_1 ?_
  refine V_call_i (runV1 dX9_buttonRanksBefore_2 ce_X9_balanceOf rfl ml_X9_79 im_X9_balanceOf se_X9_balanceOf ho.ro ⟨_, rfl, rfl⟩ (Nat.le_of_ble_eq_true rfl)) (by omega) (by omega) (by omega) (c_balanceOf h x ?_)
  refine V_aload_0 dX9_buttonRanksBefore_5 ?_
  refine V_iload_2 dX9_buttonRanksBefore_6 ?_
  refine V_call_i (runV1 dX9_buttonRanksBefore_7 ce_X9_balanceOf rfl ml_X9_79 im_X9_balanceOf se_X9_balanceOf ho.ro ⟨_, rfl, rfl⟩ (Nat.le_of_ble_eq_true rfl)) (by omega) (by omega) (by omega) (c_balanceOf h y ?_)
  refine V_icmp_eq (tgt := 32) dX9_buttonRanksBefore_10 (by decide) (fun c_10 => ?_) (fun c_10 => ?_)
  · refine V_aload_0 dX9_buttonRanksBefore_32 ?_
    refine V_iload_1 dX9_buttonRanksBefore_33 ?_
    refine V_call_i (runV1 dX9_buttonRanksBefore_34 ce_X9_bondsOf rfl ml_X9_83 im_X9_bondsOf se_X9_bondsOf ho.ro ⟨_, rfl, rfl⟩ (Nat.le_of_ble_eq_true rfl)) (by omega) (by omega) (by omega) (c_bondsOf h (x := x) ?_)
    refine V_aload_0 dX9_buttonRanksBefore_37 ?_
    refine V_iload_2 dX9_buttonRanksBefore_38 ?_
    refine V_call_i (runV1 dX9_buttonRanksBefore_39 ce_X9_bondsOf rfl ml_X9_83 im_X9_bondsOf se_X9_bondsOf ho.ro ⟨_, rfl, rfl⟩ (Nat.le_of_ble_eq_true rfl)) (by omega) (by omega) (by omega) (c_bondsOf h (x := y) ?_)
    refine V_icmp_eq (tgt := 64) dX9_buttonRanksBefore_42 (by decide) (fun c_42 => ?_) (fun c_42 => ?_)
    · refine V_iload_1 dX9_buttonRanksBefore_64 ?_
      refine V_iload_2 dX9_buttonRanksBefore_65 ?_
      refine V_icmp_ge (tgt := 73) dX9_buttonRanksBefore_66 (by decide) (fun c_66 => ?_) (fun c_66 => ?_)
      · refine V_iconst (v := 0) dX9_buttonRanksBefore_73 rfl ?_
        exact V_retz dX9_buttonRanksBefore_74 rfl rfl rfl (by rw [ranksB, if_pos c_10, if_pos c_42, if_pos c_66] at kk; exact kk)
      · refine V_iconst (v := 1) dX9_buttonRanksBefore_69 rfl ?_
        refine V_goto (tgt := 74) dX9_buttonRanksBefore_70 (by decide) ?_
        exact V_retz dX9_buttonRanksBefore_74 rfl rfl rfl (by rw [ranksB, if_pos c_10, if_pos c_42, if_neg c_66] at kk; exact kk)
    · refine V_aload_0 dX9_buttonRanksBefore_45 ?_
      refine V_iload_1 dX9_buttonRanksBefore_46 ?_
      refine V_call_i (runV1 dX9_buttonRanksBefore_47 ce_X9_bondsOf rfl ml_X9_83 im_X9_bondsOf se_X9_bondsOf ho.ro ⟨_, rfl, rfl⟩ (Nat.le_of_ble_eq_true rfl)) (by omega) (by omega) (by omega) (c_bondsOf h (x := x) ?_)
      refine V_aload_0 dX9_buttonRanksBefore_50 ?_
      refine V_iload_2 dX9_buttonRanksBefore_51 ?_
      refine V_call_i (runV1 dX9_buttonRanksBefore_52 ce_X9_bondsOf rfl ml_X9_83 im_X9_bondsOf se_X9_bondsOf ho.ro ⟨_, rfl, rfl⟩ (Nat.le_of_ble_eq_true rfl)) (by omega) (by omega) (by omega) (c_bondsOf h (x := y) ?_)
      refine V_icmp_le (tgt := 62) dX9_buttonRanksBefore_55 (by decide) (fun c_55 => ?_) (fun c_55 => ?_)
      · refine V_iconst (v := 0) dX9_buttonRanksBefore_62 rfl ?_
        exact V_retz dX9_buttonRanksBefore_63 rfl rfl rfl (by rw [ranksB, if_pos c_10, if_neg c_42, if_pos c_55] at kk; exact kk)
      · refine V_iconst (v := 1) dX9_buttonRanksBefore_58 rfl ?_
        refine V_goto (tgt := 63) dX9_buttonRanksBefore_59 (by decide) ?_
        exact V_retz dX9_buttonRanksBefore_63 rfl rfl rfl (by rw [ranksB, if_pos c_10, if_neg c_42, if_neg c_55] at kk; exact kk)
  · refine V_aload_0 dX9_buttonRanksBefore_13 ?_
    refine V_iload_1 dX9_buttonRanksBefore_14 ?_
    refine V_call_i (runV1 dX9_buttonRanksBefore_15 ce_X9_balanceOf rfl ml_X9_79 im_X9_balanceOf se_X9_balanceOf ho.ro ⟨_, rfl, rfl⟩ (Nat.le_of_ble_eq_true rfl)) (by omega) (by omega) (by omega) (c_balanceOf h x ?_)
    refine V_aload_0 dX9_buttonRanksBefore_18 ?_
    refine V_iload_2 dX9_buttonRanksBefore_19 ?_
    refine V_call_i (runV1 dX9_buttonRanksBefore_20 ce_X9_balanceOf rfl ml_X9_79 im_X9_balanceOf se_X9_balanceOf ho.ro ⟨_, rfl, rfl⟩ (Nat.le_of_ble_eq_true rfl)) (by omega) (by omega) (by omega) (c_balanceOf h y ?_)
    refine V_icmp_le (tgt := 30) dX9_buttonRanksBefore_23 (by decide) (fun c_23 => ?_) (fun c_23 => ?_)
    · refine V_iconst (v := 0) dX9_buttonRanksBefore_30 rfl ?_
      exact V_retz dX9_buttonRanksBefore_31 rfl rfl rfl (by rw [ranksB, if_neg c_10, if_pos c_23] at kk; exact kk)
    · refine V_iconst (v := 1) dX9_buttonRanksBefore_26 rfl ?_
      refine V_goto (tgt := 31) dX9_buttonRanksBefore_27 (by decide) ?_
      exact V_retz dX9_buttonRanksBefore_31 rfl rfl rfl (by rw [ranksB, if_neg c_10, if_neg c_23] at kk; exact kk)
def buttonsBeforeL (bal : List Int32) (ten : List Int32) (n : Int32) (x : Int32) : Nat → Int32 → Int32 → Int32
  | 0, s, i => s
  | k + 1, s, i => if n ≤ i then s else (if (ranksB bal ten n i x) = 0 then (buttonsBeforeL bal ten n x k s (i + 1)) else (buttonsBeforeL bal ten n x k (s + 1) (i + 1)))
def buttonsBefore (bal : List Int32) (ten : List Int32) (n : Int32) (x : Int32) : Int32 := buttonsBeforeL bal ten n x n.toNatClampNeg 0 0
set_option maxHeartbeats 4000000 in
set_option maxRecDepth 100000 in
theorem c_buttonsBeforeL {G : GT} {H : Heap} {g : Nat → Nat} {t a : Nat} {X : String → Heap → Prop} {bal ten : List Int32} {cs : List CaseC} {ps : List PrecC} {n ch td nx : Int32} (h : MS G H g t a (bal, ten, cs, ps, n, ch, td, nx)) {x : Int32} {F : Int32 → Heap → Prop} : ∀ (k : Nat) (s i : Int32), n.toInt ≤ i.toInt + (k : Nat) → F (buttonsBeforeL bal ten n x k s i) H → V G kX9_buttonsBefore 4 0 0 (qi F) X 4 [some (.ref a), some (.int x), some (.int s), some (.int i)] [] H := by
  obtain ⟨hbl, htl, b, k0, u, v, ho, hbal, hten, hcs, hps⟩ := id h
  intro k
  induction k with
  | zero =>
    intro s i hm  kk
    refine V_iload_3 dX9_buttonsBefore_4 ?_
    refine V_aload_0 dX9_buttonsBefore_5 ?_
    refine V_getf dX9_buttonsBefore_6 fl_X9_28 ho.ro rfl ?_
    refine V_icmp_ge (tgt := 30) dX9_buttonsBefore_9 (by decide) (fun c_9 => ?_) (fun c_9 => ?_)
    · refine V_iload_2 dX9_buttonsBefore_30 ?_
      exact V_reti dX9_buttonsBefore_31 rfl rfl (by rw [buttonsBeforeL] at kk; exact kk)
    · exact absurd (loop_end hm) c_9
  | succ k ih =>
    intro s i hm  kk
    refine V_iload_3 dX9_buttonsBefore_4 ?_
    refine V_aload_0 dX9_buttonsBefore_5 ?_
    refine V_getf dX9_buttonsBefore_6 fl_X9_28 ho.ro rfl ?_
    refine V_icmp_ge (tgt := 30) dX9_buttonsBefore_9 (by decide) (fun c_9 => ?_) (fun c_9 => ?_)
    · refine V_iload_2 dX9_buttonsBefore_30 ?_
      exact V_reti dX9_buttonsBefore_31 rfl rfl (by rw [buttonsBeforeL, if_pos c_9] at kk; exact kk)
    · refine V_aload_0 dX9_buttonsBefore_12 ?_
      refine V_iload_3 dX9_buttonsBefore_13 ?_
      refine V_iload_1 dX9_buttonsBefore_14 ?_
      refine V_call_i (runV2 dX9_buttonsBefore_15 ce_X9_buttonRanksBefore rfl ml_X9_75 im_X9_buttonRanksBefore se_X9_buttonRanksBefore ho.ro ⟨_, rfl, rfl⟩ (Nat.le_of_ble_eq_true rfl)) (by omega) (by omega) (by omega) (c_ranksB h (x := i) (y := x) ?_)
      refine V_if_eq (tgt := 24) dX9_buttonsBefore_18 (by decide) (fun c_18 => ?_) (fun c_18 => ?_)
      · refine V_iinc_3 (v := 1) dX9_buttonsBefore_24 rfl rfl ?_
        refine V_goto (tgt := 4) dX9_buttonsBefore_27 (by decide) ?_
        exact ih _ _ (loop_step c_9 hm)  (by rw [buttonsBeforeL, if_neg c_9, if_pos c_18] at kk; exact kk)
      · refine V_iinc_2 (v := 1) dX9_buttonsBefore_21 rfl rfl ?_
        refine V_iinc_3 (v := 1) dX9_buttonsBefore_24 rfl rfl ?_
        refine V_goto (tgt := 4) dX9_buttonsBefore_27 (by decide) ?_
        exact ih _ _ (loop_step c_9 hm)  (by rw [buttonsBeforeL, if_neg c_9, if_neg c_18] at kk; exact kk)
set_option maxHeartbeats 4000000 in
set_option maxRecDepth 100000 in
theorem c_buttonsBefore {G : GT} {H : Heap} {g : Nat → Nat} {t a : Nat} {X : String → Heap → Prop} {bal ten : List Int32} {cs : List CaseC} {ps : List PrecC} {n ch td nx : Int32} (h : MS G H g t a (bal, ten, cs, ps, n, ch, td, nx)) {x : Int32} {F : Int32 → Heap → Prop} (kk : F (buttonsBefore bal ten n x) H) : Call G kX9_buttonsBefore 4 0 0 [.ref a, .int x] H (qi F) X := by
  obtain ⟨hbl, htl, b, k0, u, v, ho, hbal, hten, hcs, hps⟩ := id h
  refine startL (L0 := [some (.ref a), some (.int x), none, none]) rfl rfl pl_X9_buttonsBefore (Nat.le_of_ble_eq_true rfl) ?_
  refine V_iconst (v := 0) dX9_buttonsBefore_0 rfl ?_
  refine V_istore_2 dX9_buttonsBefore_1 rfl ?_
  refine V_iconst (v := 0) dX9_buttonsBefore_2 rfl ?_
  refine V_istore_3 dX9_buttonsBefore_3 rfl ?_
  exact c_buttonsBeforeL h _ _ _ loop_init  (by rw [buttonsBefore] at kk; exact kk)
def c0 : CaseC := (0, 0, 0, 0, 0, 0, [], 0, 0, 0, 0, 0, 0, 0)
def p0 : PrecC := ([], 0)
def gC (l : List CaseC) (i : Int32) : CaseC := l.getD i.toNatClampNeg c0
def gP (l : List PrecC) (i : Int32) : PrecC := l.getD i.toNatClampNeg p0
abbrev cId (x : CaseC) : Int32 := x.1
abbrev cPl (x : CaseC) : Int32 := x.2.1
abbrev cDf (x : CaseC) : Int32 := x.2.2.1
abbrev cCl (x : CaseC) : Int32 := x.2.2.2.1
abbrev cDu (x : CaseC) : Int32 := x.2.2.2.2.1
abbrev cDl (x : CaseC) : Int32 := x.2.2.2.2.2.1
abbrev cMt (x : CaseC) : List Int32 := x.2.2.2.2.2.2.1
abbrev cSd (x : CaseC) : Int32 := x.2.2.2.2.2.2.2.1
abbrev cPc (x : CaseC) : Int32 := x.2.2.2.2.2.2.2.2.1
abbrev cAw (x : CaseC) : Int32 := x.2.2.2.2.2.2.2.2.2.1
abbrev cCo (x : CaseC) : Int32 := x.2.2.2.2.2.2.2.2.2.2.1
abbrev cDb (x : CaseC) : Int32 := x.2.2.2.2.2.2.2.2.2.2.2.1
abbrev cAa (x : CaseC) : Int32 := x.2.2.2.2.2.2.2.2.2.2.2.2.1
abbrev cAp (x : CaseC) : Int32 := x.2.2.2.2.2.2.2.2.2.2.2.2.2
abbrev cFs (x : CaseC) (m : Nat) : List Value := [.int (cId x), .int (cPl x), .int (cDf x), .int (cCl x), .int (cDu x), .int (cDl x), .ref m, .int (cSd x), .int (cPc x), .int (cAw x), .int (cCo x), .int (cDb x), .int (cAa x), .int (cAp x)]
theorem isCase.md {G : GT} {H : Heap} {g : Nat → Nat} {r : Nat} {x : CaseC} (h : isCase G H g r x) : ∃ m : Nat, Rz G H g r 5 (cFs x m) ∧ Sz G H g m (cMt x) := ⟨h.choose, h.choose_spec.1, h.choose_spec.2.1⟩
theorem isCase.nr {G : GT} {H : Heap} {g : Nat → Nat} {r : Nat} {x : CaseC} (h : isCase G H g r x) : (narrow .char (.int (cSd x)) = .int (cSd x) ∧ fits .char (.int (cSd x)) = true) ∧ narrow .boolean (.int (cAp x)) = .int (cAp x) ∧ fits .boolean (.int (cAp x)) = true ∧ ¬ cDu x < 0 := h.choose_spec.2.2
theorem isCase.mk {G : GT} {H : Heap} {g : Nat → Nat} {r m : Nat} {x : CaseC} (h1 : Rz G H g r 5 (cFs x m)) (h2 : Sz G H g m (cMt x)) (h3 : (narrow .char (.int (cSd x)) = .int (cSd x) ∧ fits .char (.int (cSd x)) = true) ∧ narrow .boolean (.int (cAp x)) = .int (cAp x) ∧ fits .boolean (.int (cAp x)) = true ∧ ¬ cDu x < 0) : isCase G H g r x := ⟨m, h1, h2, h3⟩
theorem c_clget {G : GT} {H : Heap} {g : Nat → Nat} {t a : Nat} {X : String → Heap → Prop} {xs : List CaseC} (h : CL G H g t a xs) {i : Int32} (h0 : ¬ i < 0) (h1 : ¬ nI xs.length ≤ i) {F : Nat → Heap → Prop} (kk : ∀ r, isCase G H g r (gC xs i) → F r H) : Call G kJx4a65c_get_915e3 3 0 0 [.ref a, .int i] H (qa F) X := by
  obtain ⟨rs, h2, h3, h4⟩ := h
  obtain ⟨j, hj, rfl⟩ := nI_of h0
  obtain ⟨b, mc, -, -, hlen, -⟩ := id h2
  have hl : j < xs.length := by
    rcases Nat.lt_or_ge j xs.length with q | q
    · exact q
    · exact absurd (nI_le q hj) h1
  have e1 : rs[j]? = some (rs[j]'(by omega)) := List.getElem?_eq_getElem _
  have e2 : xs[j]? = some (xs[j]'hl) := List.getElem?_eq_getElem _
  refine c_alget h2 e1 (kk _ ?_)
  have e3 : gC xs (nI j) = xs[j] := by unfold gC; rw [nI_clamp hj, List.getD_eq_getElem?_getD, e2]; rfl
  rw [e3]
  exact h4 j _ _ e1 e2
theorem c_clsize {G : GT} {H : Heap} {g : Nat → Nat} {t a : Nat} {X : String → Heap → Prop} {xs : List CaseC} (h : CL G H g t a xs) {F : Int32 → Heap → Prop} (kk : F (nI xs.length) H) : Call G kJx4a65c_size_8abf5 1 0 0 [.ref a] H (qi F) X := by
  obtain ⟨rs, h2, h3, h4⟩ := h
  exact c_alsize h2 (h3 ▸ kk)
theorem CL.ro {G : GT} {H : Heap} {g : Nat → Nat} {t a : Nat} {xs : List CaseC} (h : CL G H g t a xs) : ∃ fs, ro G H a 4 fs := by
  obtain ⟨rs, ⟨b, mc, ho, -⟩, -⟩ := h
  exact ⟨_, ho.ro⟩
theorem PL.ro {G : GT} {H : Heap} {g : Nat → Nat} {t a : Nat} {xs : List PrecC} (h : PL G H g t a xs) : ∃ fs, ro G H a 4 fs := by
  obtain ⟨rs, ⟨b, mc, ho, -⟩, -⟩ := h
  exact ⟨_, ho.ro⟩
theorem c_plget {G : GT} {H : Heap} {g : Nat → Nat} {t a : Nat} {X : String → Heap → Prop} {xs : List PrecC} (h : PL G H g t a xs) {i : Int32} (h0 : ¬ i < 0) (h1 : ¬ nI xs.length ≤ i) {F : Nat → Heap → Prop} (kk : ∀ r m, Rz G H g r 9 [.ref m, .int (gP xs i).2] → Sz G H g m (gP xs i).1 → F r H) : Call G kJx4a65c_get_915e3 3 0 0 [.ref a, .int i] H (qa F) X := by
  obtain ⟨rs, h2, h3, h4⟩ := h
  obtain ⟨j, hj, rfl⟩ := nI_of h0
  obtain ⟨b, mc, -, -, hlen, -⟩ := id h2
  have hl : j < xs.length := by
    rcases Nat.lt_or_ge j xs.length with q | q
    · exact q
    · exact absurd (nI_le q hj) h1
  have e1 : rs[j]? = some (rs[j]'(by omega)) := List.getElem?_eq_getElem _
  have e2 : xs[j]? = some (xs[j]'hl) := List.getElem?_eq_getElem _
  have e3 : gP xs (nI j) = xs[j] := by unfold gP; rw [nI_clamp hj, List.getD_eq_getElem?_getD, e2]; rfl
  obtain ⟨m, h5, h6⟩ := h4 j _ _ e1 e2
  exact c_alget h2 e1 (kk _ m (by rw [e3]; exact h5) (by rw [e3]; exact h6))
theorem c_plsize {G : GT} {H : Heap} {g : Nat → Nat} {t a : Nat} {X : String → Heap → Prop} {xs : List PrecC} (h : PL G H g t a xs) {F : Int32 → Heap → Prop} (kk : F (nI xs.length) H) : Call G kJx4a65c_size_8abf5 1 0 0 [.ref a] H (qi F) X := by
  obtain ⟨rs, h2, h3, h4⟩ := h
  exact c_alsize h2 (h3 ▸ kk)
theorem c_plempty {G : GT} {H : Heap} {g : Nat → Nat} {t a : Nat} {X : String → Heap → Prop} {xs : List PrecC} (h : PL G H g t a xs) {F : Int32 → Heap → Prop} (kk : F (b2i (decide (xs = []))) H) : Call G kJx4a65c_isEmpty_aae02 1 0 0 [.ref a] H (qi F) X := by
  obtain ⟨rs, h2, h3, h4⟩ := h
  refine c_alempty h2 ?_
  have e : decide (rs = []) = decide (xs = []) := by
    cases rs <;> cases xs <;> simp_all
  rw [e]
  exact kk
def caseB (x : CaseC) (y : CaseC) : Int32 := if (cCl x) = (cCl y) then (if (cDl x) = (cDl y) then (if (cId y) ≤ (cId x) then 0 else 1) else (if (cDl y) ≤ (cDl x) then 0 else 1)) else (if (cCl x) ≤ (cCl y) then 0 else 1)
set_option maxHeartbeats 4000000 in
set_option maxRecDepth 100000 in
theorem c_caseB {G : GT} {H : Heap} {g : Nat → Nat} {r q mr mq : Nat} {X : String → Heap → Prop} {x y : CaseC} (hr : Rz G H g r 5 (cFs x mr)) (hq : Rz G H g q 5 (cFs y mq)) {F : Int32 → Heap → Prop} (kk : F (caseB x y) H) : Call G kX1_ranksBefore 0 0 0 [.ref r, .ref q] H (qi F) X := by
  refine startL (L0 := [some (.ref r), some (.ref q)]) rfl rfl pl_X1_ranksBefore (Nat.le_of_ble_eq_true rfl) ?_
  refine V_aload_0 dX1_ranksBefore_0 ?_
  refine V_getf dX1_ranksBefore_1 fl_X1_44 hr.1 rfl ?_
  refine V_aload_1 dX1_ranksBefore_4 ?_
  refine V_getf dX1_ranksBefore_5 fl_X1_44 hq.1 rfl ?_
  refine V_icmp_eq (tgt := 28) dX1_ranksBefore_8 (by decide) (fun c_8 => ?_) (fun c_8 => ?_)
  · refine V_aload_0 dX1_ranksBefore_28 ?_
    refine V_getf dX1_ranksBefore_29 fl_X1_50 hr.1 rfl ?_
    refine V_aload_1 dX1_ranksBefore_32 ?_
    refine V_getf dX1_ranksBefore_33 fl_X1_50 hq.1 rfl ?_
    refine V_icmp_eq (tgt := 56) dX1_ranksBefore_36 (by decide) (fun c_36 => ?_) (fun c_36 => ?_)
    · refine V_aload_0 dX1_ranksBefore_56 ?_
      refine V_getf dX1_ranksBefore_57 fl_X1_35 hr.1 rfl ?_
      refine V_aload_1 dX1_ranksBefore_60 ?_
      refine V_getf dX1_ranksBefore_61 fl_X1_35 hq.1 rfl ?_
      refine V_icmp_ge (tgt := 71) dX1_ranksBefore_64 (by decide) (fun c_64 => ?_) (fun c_64 => ?_)
      · refine V_iconst (v := 0) dX1_ranksBefore_71 rfl ?_
        exact V_retz dX1_ranksBefore_72 rfl rfl rfl (by rw [caseB, if_pos c_8, if_pos c_36, if_pos c_64] at kk; exact kk)
      · refine V_iconst (v := 1) dX1_ranksBefore_67 rfl ?_
        refine V_goto (tgt := 72) dX1_ranksBefore_68 (by decide) ?_
        exact V_retz dX1_ranksBefore_72 rfl rfl rfl (by rw [caseB, if_pos c_8, if_pos c_36, if_neg c_64] at kk; exact kk)
    · refine V_aload_0 dX1_ranksBefore_39 ?_
      refine V_getf dX1_ranksBefore_40 fl_X1_50 hr.1 rfl ?_
      refine V_aload_1 dX1_ranksBefore_43 ?_
      refine V_getf dX1_ranksBefore_44 fl_X1_50 hq.1 rfl ?_
      refine V_icmp_ge (tgt := 54) dX1_ranksBefore_47 (by decide) (fun c_47 => ?_) (fun c_47 => ?_)
      · refine V_iconst (v := 0) dX1_ranksBefore_54 rfl ?_
        exact V_retz dX1_ranksBefore_55 rfl rfl rfl (by rw [caseB, if_pos c_8, if_neg c_36, if_pos c_47] at kk; exact kk)
      · refine V_iconst (v := 1) dX1_ranksBefore_50 rfl ?_
        refine V_goto (tgt := 55) dX1_ranksBefore_51 (by decide) ?_
        exact V_retz dX1_ranksBefore_55 rfl rfl rfl (by rw [caseB, if_pos c_8, if_neg c_36, if_neg c_47] at kk; exact kk)
  · refine V_aload_0 dX1_ranksBefore_11 ?_
    refine V_getf dX1_ranksBefore_12 fl_X1_44 hr.1 rfl ?_
    refine V_aload_1 dX1_ranksBefore_15 ?_
    refine V_getf dX1_ranksBefore_16 fl_X1_44 hq.1 rfl ?_
    refine V_icmp_le (tgt := 26) dX1_ranksBefore_19 (by decide) (fun c_19 => ?_) (fun c_19 => ?_)
    · refine V_iconst (v := 0) dX1_ranksBefore_26 rfl ?_
      exact V_retz dX1_ranksBefore_27 rfl rfl rfl (by rw [caseB, if_neg c_8, if_pos c_19] at kk; exact kk)
    · refine V_iconst (v := 1) dX1_ranksBefore_22 rfl ?_
      refine V_goto (tgt := 27) dX1_ranksBefore_23 (by decide) ?_
      exact V_retz dX1_ranksBefore_27 rfl rfl rfl (by rw [caseB, if_neg c_8, if_neg c_19] at kk; exact kk)
def posOfL (cs : List CaseC) (x : Int32) : Nat → Int32 → Int32
  | 0, i => (-1)
  | k + 1, i => if (nI cs.length) ≤ i then (-1) else (if (cId (gC cs i)) = x then i else (posOfL cs x k (i + 1)))
def posOf (cs : List CaseC) (x : Int32) : Int32 := posOfL cs x (nI cs.length).toNatClampNeg 0
set_option maxHeartbeats 4000000 in
set_option maxRecDepth 100000 in
theorem c_posOfL {G : GT} {H : Heap} {g : Nat → Nat} {t a : Nat} {X : String → Heap → Prop} {bal ten : List Int32} {cs : List CaseC} {ps : List PrecC} {n ch td nx : Int32} (h : MS G H g t a (bal, ten, cs, ps, n, ch, td, nx)) {x : Int32} {F : Int32 → Heap → Prop} : ∀ (k : Nat) (i : Int32), (nI cs.length).toInt ≤ i.toInt + (k : Nat) → ¬ i < 0 → F (posOfL cs x k i) H → V G kX9_positionOf 4 0 0 (qi F) X 2 [some (.ref a), some (.int x), some (.int i)] [] H := by
  obtain ⟨hbl, htl, b, k0, u, v, ho, hbal, hten, hcs, hps⟩ := id h; obtain ⟨fu, hu⟩ := hcs.ro; obtain ⟨fw, hw⟩ := hps.ro
  intro k
  induction k with
  | zero =>
    intro i hm hi0 kk
    refine V_iload_2 dX9_positionOf_2 ?_
    refine V_aload_0 dX9_positionOf_3 ?_
    refine V_getf dX9_positionOf_4 fl_X9_21 ho.ro rfl ?_
    refine V_call_i (runV0 dX9_positionOf_7 ce_Jx4a65c_size_8abf5 rfl ml_X9_48 im_Jx4a65c_size_8abf5 se_Jx4a65c_size_8abf5 hu ⟨_, rfl, rfl⟩ (Nat.le_of_ble_eq_true rfl)) (by omega) (by omega) (by omega) (c_clsize hcs ?_)
    refine V_icmp_ge (tgt := 39) dX9_positionOf_10 (by decide) (fun c_10 => ?_) (fun c_10 => ?_)
    · refine V_iconst (v := (-1)) dX9_positionOf_39 rfl ?_
      exact V_reti dX9_positionOf_40 rfl rfl (by rw [posOfL] at kk; exact kk)
    · exact absurd (loop_end hm) c_10
  | succ k ih =>
    intro i hm hi0 kk
    refine V_iload_2 dX9_positionOf_2 ?_
    refine V_aload_0 dX9_positionOf_3 ?_
    refine V_getf dX9_positionOf_4 fl_X9_21 ho.ro rfl ?_
    refine V_call_i (runV0 dX9_positionOf_7 ce_Jx4a65c_size_8abf5 rfl ml_X9_48 im_Jx4a65c_size_8abf5 se_Jx4a65c_size_8abf5 hu ⟨_, rfl, rfl⟩ (Nat.le_of_ble_eq_true rfl)) (by omega) (by omega) (by omega) (c_clsize hcs ?_)
    refine V_icmp_ge (tgt := 39) dX9_positionOf_10 (by decide) (fun c_10 => ?_) (fun c_10 => ?_)
    · refine V_iconst (v := (-1)) dX9_positionOf_39 rfl ?_
      exact V_reti dX9_positionOf_40 rfl rfl (by rw [posOfL, if_pos c_10] at kk; exact kk)
    · refine V_aload_0 dX9_positionOf_13 ?_
      refine V_getf dX9_positionOf_14 fl_X9_21 ho.ro rfl ?_
      refine V_iload_2 dX9_positionOf_17 ?_
      refine V_call_a (runV1 dX9_positionOf_18 ce_Jx4a65c_get_915e3 rfl ml_X9_52 im_Jx4a65c_get_915e3 se_Jx4a65c_get_915e3 hu ⟨_, rfl, rfl⟩ (Nat.le_of_ble_eq_true rfl)) (by omega) (by omega) (by omega) (c_clget hcs hi0 c_10 fun r hx => ?_)
      obtain ⟨mr, hr, hrm⟩ := hx.md
      refine V_castS (ci := 5) dX9_positionOf_21 rfl ck_X9_56 hr.1 ?_
      refine V_getf dX9_positionOf_24 fl_X9_86 hr.1 rfl ?_
      refine V_iload_1 dX9_positionOf_27 ?_
      refine V_icmp_ne (tgt := 33) dX9_positionOf_28 (by decide) (fun c_28 => ?_) (fun c_28 => ?_)
      · refine V_iinc_2 (v := 1) dX9_positionOf_33 rfl rfl ?_
        refine V_goto (tgt := 2) dX9_positionOf_36 (by decide) ?_
        exact ih _ (loop_step c_10 hm) (nn_step c_10 hi0) (by rw [posOfL, if_neg c_10, if_neg c_28] at kk; exact kk)
      · refine V_iload_2 dX9_positionOf_31 ?_
        exact V_reti dX9_positionOf_32 rfl rfl (by rw [posOfL, if_neg c_10, if_pos c_28] at kk; exact kk)
set_option maxHeartbeats 4000000 in
set_option maxRecDepth 100000 in
theorem c_posOf {G : GT} {H : Heap} {g : Nat → Nat} {t a : Nat} {X : String → Heap → Prop} {bal ten : List Int32} {cs : List CaseC} {ps : List PrecC} {n ch td nx : Int32} (h : MS G H g t a (bal, ten, cs, ps, n, ch, td, nx)) {x : Int32} {F : Int32 → Heap → Prop} (kk : F (posOf cs x) H) : Call G kX9_positionOf 4 0 0 [.ref a, .int x] H (qi F) X := by
  obtain ⟨hbl, htl, b, k0, u, v, ho, hbal, hten, hcs, hps⟩ := id h; obtain ⟨fu, hu⟩ := hcs.ro; obtain ⟨fw, hw⟩ := hps.ro
  refine startL (L0 := [some (.ref a), some (.int x), none]) rfl rfl pl_X9_positionOf (Nat.le_of_ble_eq_true rfl) ?_
  refine V_iconst (v := 0) dX9_positionOf_0 rfl ?_
  refine V_istore_2 dX9_positionOf_1 rfl ?_
  exact c_posOfL h _ _ loop_init (by decide) (by rw [posOf] at kk; exact kk)
def casesBeforeL (cs : List CaseC) (x : CaseC) : Nat → Int32 → Int32 → Int32
  | 0, s, i => s
  | k + 1, s, i => if (nI cs.length) ≤ i then s else (if (caseB (gC cs i) x) = 0 then (casesBeforeL cs x k s (i + 1)) else (casesBeforeL cs x k (s + 1) (i + 1)))
def casesBefore (cs : List CaseC) (x : CaseC) : Int32 := casesBeforeL cs x (nI cs.length).toNatClampNeg 0 0
set_option maxHeartbeats 4000000 in
set_option maxRecDepth 100000 in
theorem c_casesBeforeL {G : GT} {H : Heap} {g : Nat → Nat} {t a : Nat} {X : String → Heap → Prop} {bal ten : List Int32} {cs : List CaseC} {ps : List PrecC} {n ch td nx : Int32} (h : MS G H g t a (bal, ten, cs, ps, n, ch, td, nx)) {q mq : Nat} {x : CaseC} (hq : Rz G H g q 5 (cFs x mq)) {F : Int32 → Heap → Prop} : ∀ (k : Nat) (s i : Int32), (nI cs.length).toInt ≤ i.toInt + (k : Nat) → ¬ i < 0 → F (casesBeforeL cs x k s i) H → V G kX9_casesBefore 4 0 0 (qi F) X 4 [some (.ref a), some (.ref q), some (.int s), some (.int i)] [] H := by
  obtain ⟨hbl, htl, b, k0, u, v, ho, hbal, hten, hcs, hps⟩ := id h; obtain ⟨fu, hu⟩ := hcs.ro; obtain ⟨fw, hw⟩ := hps.ro
  intro k
  induction k with
  | zero =>
    intro s i hm hi0 kk
    refine V_iload_3 dX9_casesBefore_4 ?_
    refine V_aload_0 dX9_casesBefore_5 ?_
    refine V_getf dX9_casesBefore_6 fl_X9_21 ho.ro rfl ?_
    refine V_call_i (runV0 dX9_casesBefore_9 ce_Jx4a65c_size_8abf5 rfl ml_X9_48 im_Jx4a65c_size_8abf5 se_Jx4a65c_size_8abf5 hu ⟨_, rfl, rfl⟩ (Nat.le_of_ble_eq_true rfl)) (by omega) (by omega) (by omega) (c_clsize hcs ?_)
    refine V_icmp_ge (tgt := 42) dX9_casesBefore_12 (by decide) (fun c_12 => ?_) (fun c_12 => ?_)
    · refine V_iload_2 dX9_casesBefore_42 ?_
      exact V_reti dX9_casesBefore_43 rfl rfl (by rw [casesBeforeL] at kk; exact kk)
    · exact absurd (loop_end hm) c_12
  | succ k ih =>
    intro s i hm hi0 kk
    refine V_iload_3 dX9_casesBefore_4 ?_
    refine V_aload_0 dX9_casesBefore_5 ?_
    refine V_getf dX9_casesBefore_6 fl_X9_21 ho.ro rfl ?_
    refine V_call_i (runV0 dX9_casesBefore_9 ce_Jx4a65c_size_8abf5 rfl ml_X9_48 im_Jx4a65c_size_8abf5 se_Jx4a65c_size_8abf5 hu ⟨_, rfl, rfl⟩ (Nat.le_of_ble_eq_true rfl)) (by omega) (by omega) (by omega) (c_clsize hcs ?_)
    refine V_icmp_ge (tgt := 42) dX9_casesBefore_12 (by decide) (fun c_12 => ?_) (fun c_12 => ?_)
    · refine V_iload_2 dX9_casesBefore_42 ?_
      exact V_reti dX9_casesBefore_43 rfl rfl (by rw [casesBeforeL, if_pos c_12] at kk; exact kk)
    · refine V_aload_0 dX9_casesBefore_15 ?_
      refine V_getf dX9_casesBefore_16 fl_X9_21 ho.ro rfl ?_
      refine V_iload_3 dX9_casesBefore_19 ?_
      refine V_call_a (runV1 dX9_casesBefore_20 ce_Jx4a65c_get_915e3 rfl ml_X9_52 im_Jx4a65c_get_915e3 se_Jx4a65c_get_915e3 hu ⟨_, rfl, rfl⟩ (Nat.le_of_ble_eq_true rfl)) (by omega) (by omega) (by omega) (c_clget hcs hi0 c_12 fun r hx => ?_)
      obtain ⟨mr, hr, hrm⟩ := hx.md
      refine V_castS (ci := 5) dX9_casesBefore_23 rfl ck_X9_56 hr.1 ?_
      refine V_aload_1 dX9_casesBefore_26 ?_
      refine V_call_i (runV1 dX9_casesBefore_27 ce_X1_ranksBefore rfl ml_X9_89 im_X1_ranksBefore se_X1_ranksBefore hr.1 ⟨_, rfl, rfl⟩ (Nat.le_of_ble_eq_true rfl)) (by omega) (by omega) (by omega) (c_caseB hr hq ?_)
      refine V_if_eq (tgt := 36) dX9_casesBefore_30 (by decide) (fun c_30 => ?_) (fun c_30 => ?_)
      · refine V_iinc_3 (v := 1) dX9_casesBefore_36 rfl rfl ?_
        refine V_goto (tgt := 4) dX9_casesBefore_39 (by decide) ?_
        exact ih _ _ (loop_step c_12 hm) (nn_step c_12 hi0) (by rw [casesBeforeL, if_neg c_12, if_pos c_30] at kk; exact kk)
      · refine V_iinc_2 (v := 1) dX9_casesBefore_33 rfl rfl ?_
        refine V_iinc_3 (v := 1) dX9_casesBefore_36 rfl rfl ?_
        refine V_goto (tgt := 4) dX9_casesBefore_39 (by decide) ?_
        exact ih _ _ (loop_step c_12 hm) (nn_step c_12 hi0) (by rw [casesBeforeL, if_neg c_12, if_neg c_30] at kk; exact kk)
set_option maxHeartbeats 4000000 in
set_option maxRecDepth 100000 in
theorem c_casesBefore {G : GT} {H : Heap} {g : Nat → Nat} {t a : Nat} {X : String → Heap → Prop} {bal ten : List Int32} {cs : List CaseC} {ps : List PrecC} {n ch td nx : Int32} (h : MS G H g t a (bal, ten, cs, ps, n, ch, td, nx)) {q mq : Nat} {x : CaseC} (hq : Rz G H g q 5 (cFs x mq)) {F : Int32 → Heap → Prop} (kk : F (casesBefore cs x) H) : Call G kX9_casesBefore 4 0 0 [.ref a, .ref q] H (qi F) X := by
  obtain ⟨hbl, htl, b, k0, u, v, ho, hbal, hten, hcs, hps⟩ := id h; obtain ⟨fu, hu⟩ := hcs.ro; obtain ⟨fw, hw⟩ := hps.ro
  refine startL (L0 := [some (.ref a), some (.ref q), none, none]) rfl rfl pl_X9_casesBefore (Nat.le_of_ble_eq_true rfl) ?_
  refine V_iconst (v := 0) dX9_casesBefore_0 rfl ?_
  refine V_istore_2 dX9_casesBefore_1 rfl ?_
  refine V_iconst (v := 0) dX9_casesBefore_2 rfl ?_
  refine V_istore_3 dX9_casesBefore_3 rfl ?_
  exact c_casesBeforeL h hq _ _ _ loop_init (by decide) (by rw [casesBefore] at kk; exact kk)

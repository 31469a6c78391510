theorem nI_s2 {j : Nat} : 1 + nI j = nI (1 + j) := by
  show Int32.ofNat 1 + Int32.ofNat j = Int32.ofNat (1 + j)
  rw [← Int32.ofNat_add]
/-- the remainder, never negative -/
def someV (x n : Int32) : Int32 := if x - x / n * n < 0 then x - x / n * n + n else x - x / n * n
theorem someV_nI (x : Int32) {k : Nat} (h1 : 1 ≤ k) (hk : k < 2 ^ 30) : ∃ j : Nat, j < k ∧ someV x (nI k) = nI j := by
  have hn : (nI k).toInt = (k : Int) := nI_toInt (by omega)
  have hlo : -(2 ^ 31) ≤ x.toInt := Int32.le_toInt x
  have hhi : x.toInt < 2 ^ 31 := Int32.toInt_lt x
  have hq : (x / nI k).toInt = x.toInt.tdiv k := by
    rw [Int32.toInt_div, hn]
    have h2 : (x.toInt.tdiv k).natAbs ≤ x.toInt.natAbs := by rw [Int.natAbs_tdiv]; exact Nat.div_le_self _ _
    by_cases hk1 : k = 1
    · subst hk1; rw [show ((1 : Nat) : Int) = 1 from rfl, Int.tdiv_one]; exact Int.bmod_eq_of_le (by omega) (by omega)
    · have h3 : (x.toInt.tdiv k).natAbs ≤ 2 ^ 30 := by
        rw [Int.natAbs_tdiv]
        have h4 : x.toInt.natAbs ≤ 2 ^ 31 := by omega
        have : x.toInt.natAbs / (k : Int).natAbs ≤ 2 ^ 31 / 2 := Nat.div_le_div h4 (by omega) (by omega)
        omega
      exact Int.bmod_eq_of_le (by omega) (by omega)
  have ha := Int.mul_tdiv_add_tmod x.toInt k
  have hb : (x.toInt.tmod k).natAbs < k := by
    rw [Int.natAbs_tmod]; exact Nat.mod_lt _ (by omega)
  have hm : (x - x / nI k * nI k).toInt = x.toInt.tmod k := by
    rw [Int32.toInt_sub, Int32.toInt_mul, hq, hn]
    have e : x.toInt.tdiv k * k = x.toInt - x.toInt.tmod k := by rw [Int.mul_comm]; omega
    have hs : (x.toInt.tdiv k * k).natAbs ≤ x.toInt.natAbs := by
      rw [Int.natAbs_mul, Int.natAbs_tdiv]; exact Nat.div_mul_le_self _ _
    rw [Int.bmod_eq_of_le (n := x.toInt.tdiv ↑k * ↑k) (by omega) (by omega), e]
    rw [Int.bmod_eq_of_le (by omega) (by omega)]; omega
  unfold someV
  have hneg : x - x / nI k * nI k < 0 ↔ x.toInt.tmod k < 0 := by rw [Int32.lt_iff_toInt_lt, hm]; rfl
  by_cases h : x.toInt.tmod k < 0
  · rw [if_pos (hneg.mpr h)]
    refine ⟨(x.toInt.tmod k + k).toNat, by omega, nI_ofT ?_ (by omega)⟩
    rw [Int32.toInt_add, hm, hn, Int.bmod_eq_of_le (by omega) (by omega)]; omega
  · rw [if_neg (fun z => h (hneg.mp z))]
    exact ⟨(x.toInt.tmod k).toNat, by omega, nI_ofT (by rw [hm]; omega) (by omega)⟩
def atV (l : List Int32) (x : Int32) : Int32 := if x < nI l.length then gI l x else 0
theorem i2c_s {x : Int32} : ((97 + someV x 3).toUInt32 % 65536).toInt32 = 97 + someV x 3 := by
  obtain ⟨j, hj, e⟩ := someV_nI x (k := 3) (by omega) (by omega)
  have e' : someV x 3 = nI j := e
  rw [e']
  have : j = 0 ∨ j = 1 ∨ j = 2 := by omega
  rcases this with rfl | rfl | rfl <;> decide
theorem let_s {x : Int32} : 0 ≤ 97 + someV x 3 ∧ 97 + someV x 3 < 128 ∧ ¬ isLet (97 + someV x 3) = 0 := by
  obtain ⟨j, hj, e⟩ := someV_nI x (k := 3) (by omega) (by omega)
  have e' : someV x 3 = nI j := e
  rw [e']
  have : j = 0 ∨ j = 1 ∨ j = 2 := by omega
  rcases this with rfl | rfl | rfl <;> decide
def worL (z n : Int32) : Nat → Int32 → List Int32 → List Int32
  | 0, _, w => w
  | k + 1, i, w => if n ≤ i then w else worL z n k (i + 1) (w ++ [97 + someV (z >>> ((2 * i) &&& 31)) 3])
def worN (z : Int32) : Int32 := 1 + someV (z >>> ((9 : Int32) &&& 31)) (if (z >>> ((8 : Int32) &&& 31)) &&& 1 = 0 then 3 else 8)
def worV (z : Int32) : List Int32 := worL z (worN z) 8 0 []
theorem worN_8 (z : Int32) : ∃ j : Nat, 1 ≤ j ∧ j ≤ 8 ∧ worN z = nI j := by
  unfold worN
  split
  · obtain ⟨j, hj, e⟩ := someV_nI (z >>> ((9 : Int32) &&& 31)) (k := 3) (by omega) (by omega)
    exact ⟨1 + j, by omega, by omega, by rw [show (3 : Int32) = nI 3 from rfl, e]; exact nI_s2⟩
  · obtain ⟨j, hj, e⟩ := someV_nI (z >>> ((9 : Int32) &&& 31)) (k := 8) (by omega) (by omega)
    exact ⟨1 + j, by omega, by omega, by rw [show (8 : Int32) = nI 8 from rfl, e]; exact nI_s2⟩
theorem worL_ok {z n : Int32} : ∀ (k : Nat) (i : Int32) (w : List Int32), (∀ c ∈ w, ¬ isLet c = 0) → w.length ≤ (worL z n k i w).length ∧ (worL z n k i w).length ≤ w.length + k ∧ ∀ c ∈ worL z n k i w, ¬ isLet c = 0 := by
  intro k
  induction k with
  | zero => intro i w h; rw [worL]; exact ⟨Nat.le_refl _, Nat.le_refl _, h⟩
  | succ k ih =>
    intro i w h
    rw [worL]
    split
    · exact ⟨Nat.le_refl _, Nat.le_add_right _ _, h⟩
    · obtain ⟨a, b, c⟩ := ih (i + 1) (w ++ [97 + someV (z >>> ((2 * i) &&& 31)) 3]) (fun c hc => by
        rcases List.mem_append.mp hc with hc | hc
        · exact h c hc
        · rw [List.mem_singleton.mp hc]; exact let_s.2.2)
      rw [List.length_append, List.length_singleton] at a b
      exact ⟨by omega, by omega, c⟩
theorem worV_ok (z : Int32) : (worV z).length ≤ 8 ∧ ∀ c ∈ worV z, ¬ isLet c = 0 := by
  obtain ⟨a, b, c⟩ := worL_ok (z := z) (n := worN z) 8 0 [] (fun c hc => absurd hc List.not_mem_nil)
  exact ⟨b, c⟩
set_option maxHeartbeats 1000000 in
set_option maxRecDepth 100000 in
theorem c_some {G : GT} {X : String → Heap → Prop} {H : Heap} {x y : Int32} (hy : ¬ y = 0) {F : Int32 → Heap → Prop} (kk : F (someV x y) H) : Call G kL_some 0 0 0 [.int x, .int y] H (qi F) X := by
  refine startL (L0 := [some (.int x), some (.int y), none]) rfl rfl pl_L_some (Nat.le_of_ble_eq_true rfl) ?_
  refine V_iload_0 dL_some_0 ?_
  refine V_iload_1 dL_some_1 ?_
  refine V_irem dL_some_2 hy ?_
  refine V_istore_2 dL_some_3 rfl ?_
  refine V_iload_2 dL_some_4 ?_
  refine V_if_ge (tgt := 14) dL_some_5 (by decide) (fun c_5 => ?_) (fun c_5 => ?_)
  · refine V_iload_2 dL_some_14 ?_
    exact V_reti dL_some_15 rfl rfl (by rw [someV, if_neg (Int32.not_lt.mpr c_5)] at kk; exact kk)
  · refine V_iload_2 dL_some_8 ?_
    refine V_iload_1 dL_some_9 ?_
    refine V_iadd dL_some_10 ?_
    refine V_goto (tgt := 15) dL_some_11 (by decide) ?_
    exact V_reti dL_some_15 rfl rfl (by rw [someV, if_pos (Int32.not_le.mp c_5)] at kk; exact kk)
set_option maxHeartbeats 1000000 in
set_option maxRecDepth 100000 in
theorem c_at {G : GT} {X : String → Heap → Prop} {H : Heap} {g : Nat → Nat} {a : Nat} {l : List Int32} (h : Zi G H g a l) {x : Int32} (hx : ¬ x < 0) {F : Int32 → Heap → Prop} (kk : F (atV l x) H) : Call G kL_at 0 0 0 [.ref a, .int x] H (qi F) X := by
  have hl := h.1.2
  refine startL (L0 := [some (.ref a), some (.int x)]) rfl rfl pl_L_at (Nat.le_of_ble_eq_true rfl) ?_
  refine V_iload_1 dL_at_0 ?_
  refine V_aload_0 dL_at_1 ?_
  refine V_alen (v := nI l.length) dL_at_2 h.ra rfl ?_
  refine V_icmp_ge (tgt := 12) dL_at_3 (by decide) (fun c_3 => ?_) (fun c_3 => ?_)
  · refine V_iconst (v := 0) dL_at_12 rfl ?_
    exact V_reti dL_at_13 rfl rfl (by rw [atV, if_neg (Int32.not_lt.mpr c_3)] at kk; exact kk)
  · refine V_aload_0 dL_at_6 ?_
    refine V_iload_1 dL_at_7 ?_
    refine V_iald (v := .int (gI l x)) dL_at_8 h.ra (inR rfl (by omega) hx c_3) rfl ?_
    refine V_goto (tgt := 13) dL_at_9 (by decide) ?_
    exact V_reti dL_at_13 rfl rfl (by rw [atV, if_pos (Int32.not_le.mp c_3)] at kk; exact kk)
set_option maxHeartbeats 1000000 in
set_option maxRecDepth 100000 in
theorem c_worL {G : GT} {X : String → Heap → Prop} {H0 : Heap} {g0 : Nat → Nat} {z n : Int32} {F : Nat → Heap → Prop} {cc ss : Nat} : ∀ (k : Nat) (i : Int32) (w : List Int32) (q : Nat) (H : Heap) (g : Nat → Nat), Sz G H g q w → Ext G [33, 42] H0 g0 H g → n.toInt ≤ i.toInt + ((k : Nat) : Int) → ¬ i < 0 → w.length + k ≤ 8 → (∀ (q1 : Nat) (H1 : Heap) (g1 : Nat → Nat), Sz G H1 g1 q1 (worL z n k i w) → Ext G [33, 42] H0 g0 H1 g1 → F q1 H1) → V G kL_word 7 (cc + 8 * k) (ss + 800 * k) (qa F) X 30 [some (.int z), some (.ref q), some (.int n), some (.int i)] [] H := by
  intro k
  induction k with
  | zero =>
    intro i w q H g hq E hm hi hl kk
    refine V_iload_3 dL_word_30 ?_
    refine V_iload_2 dL_word_31 ?_
    refine V_icmp_ge (tgt := 72) dL_word_32 (by decide) (fun c_32 => ?_) (fun c_32 => ?_)
    · refine V_aload_1 dL_word_72 ?_
      exact V_reta dL_word_73 rfl (Or.inl ⟨_, rfl⟩) (kk q H g (by rw [worL]; exact hq) E)
    · exact absurd (loop_end hm) c_32
  | succ k ih =>
    intro i w q H g hq E hm hi hl kk
    refine V_iload_3 dL_word_30 ?_
    refine V_iload_2 dL_word_31 ?_
    refine V_icmp_ge (tgt := 72) dL_word_32 (by decide) (fun c_32 => ?_) (fun c_32 => ?_)
    · refine V_aload_1 dL_word_72 ?_
      exact V_reta dL_word_73 rfl (Or.inl ⟨_, rfl⟩) (kk q H g (by rw [worL, if_pos c_32]; exact hq) E)
    · refine V_mk2 (g := g) 42 4 dL_word_35 nw_L_209 rfl (by omega) (by omega) fun b H1 g1 hb e1 z1 => ?_
      have hq1 := hq.fr e1 (by simp)
      have E1 := E.trans (e1.wide (by simp))
      refine V_dup dL_word_38 rfl ?_
      refine V_call_v (runI0 dL_word_39 ce_J4_init_da8c8 rfl rfl rfl ml_L_211 im_J4_init_da8c8 (Nat.le_of_ble_eq_true rfl)) (by omega) (by omega) (by omega) (c_soInit hb (by decide) fun H2 g2 hs e2 => ?_)
      have hq2 := hq1.fr e2 (by decide)
      have E2 := E1.trans (e2.wide (by decide))
      refine V_aload_1 dL_word_42 ?_
      obtain ⟨fb, hfb⟩ := hs.o
      refine V_call_a (runV1 dL_word_43 ce_J4_append_15ec4 rfl ml_L_212 im_J4_append_15ec4 se_J4_append_15ec4 hfb ⟨_, rfl, rfl⟩ (Nat.le_of_ble_eq_true rfl)) (by omega) (by omega) (by omega) (c_soS hs hq2 (by show 0 + w.length ≤ 142; omega) (Or.inl (by omega)) (by decide) fun H3 g3 hs3 e3 => ?_)
      have E3 := E2.trans (e3.wide (by decide))
      refine V_bipush (v := 97) dL_word_46 (by decide) ?_
      refine V_iload_0 dL_word_48 ?_
      refine V_iconst (v := 2) dL_word_49 rfl ?_
      refine V_iload_3 dL_word_50 ?_
      refine V_imul dL_word_51 ?_
      refine V_ishr dL_word_52 ?_
      refine V_iconst (v := 3) dL_word_53 rfl ?_
      refine V_call_i (runS2 dL_word_54 ce_L_some rfl ml_L_206 st_L_some (Nat.le_of_ble_eq_true rfl)) (by omega) (by omega) (by omega) (c_some (by decide) ?_)
      refine V_iadd dL_word_57 ?_
      refine V_i2c dL_word_58 i2c_s ?_
      obtain ⟨fb3, hfb3⟩ := hs3.o
      refine V_call_a (runV1 dL_word_59 ce_J4_append_cf468 rfl ml_L_216 im_J4_append_cf468 se_J4_append_cf468 hfb3 ⟨_, rfl, rfl⟩ (Nat.le_of_ble_eq_true rfl)) (by omega) (by omega) (by omega) (c_soC hs3 ⟨let_s.1, let_s.2.1⟩ (by rw [List.nil_append]; omega) (by decide) fun H4 g4 hs4 e4 => ?_)
      have E4 := E3.trans (e4.wide (by decide))
      obtain ⟨fb4, hfb4⟩ := hs4.o
      have hl9 : ([] ++ w ++ [97 + someV (z >>> ((2 * i) &&& 31)) 3]).length ≤ 9 := by rw [List.nil_append, List.length_append, List.length_singleton]; omega
      refine V_call_a (runV0 dL_word_62 ce_J4_toString_0e30d rfl ml_L_219 im_J4_toString_0e30d se_J4_toString_0e30d hfb4 ⟨_, rfl, rfl⟩ (Nat.le_of_ble_eq_true rfl)) (by omega) (by omega) (by omega) (c_soToS hs4 (by decide) (by omega) fun q2 H5 g5 hq5 e5 => ?_)
      have E5 := E4.trans (e5.wide (by decide))
      rw [List.nil_append] at hq5
      refine V_astore_1 dL_word_65 rfl ?_
      refine V_iinc_3 (v := 1) dL_word_66 rfl rfl ?_
      refine V_goto (tgt := 30) dL_word_69 (by decide) ?_
      exact V_mono (c2 := cc + 8 * k) (s2 := ss + 800 * k) (by omega) (by omega) (ih (i + 1) _ q2 H5 g5 hq5 E5 (loop_step c_32 hm) (nn_step c_32 hi) (by rw [List.length_append, List.length_singleton]; omega) (by rw [worL, if_neg c_32] at kk; exact kk))
set_option maxHeartbeats 1000000 in
set_option maxRecDepth 100000 in
theorem c_word {G : GT} {X : String → Heap → Prop} {H : Heap} {g : Nat → Nat} {z : Int32} {F : Nat → Heap → Prop} (kk : ∀ (q1 : Nat) (H1 : Heap) (g1 : Nat → Nat), Sz G H1 g1 q1 (worV z) → Ext G [33, 42] H g H1 g1 → F q1 H1) : Call G kL_word 7 64 6400 [.int z] H (qa F) X := by
  refine startL (L0 := [some (.int z), none, none, none]) rfl rfl pl_L_word (Nat.le_of_ble_eq_true rfl) ?_
  refine V_txt (g := g) 25 rfl (l := []) rfl fun hS => ?_
  refine V_ldcs (i := 25) dL_word_0 rfl ?_
  refine V_astore_1 dL_word_2 rfl ?_
  refine V_iconst (v := 1) dL_word_3 rfl ?_
  refine V_iload_0 dL_word_4 ?_
  refine V_bipush (v := 9) dL_word_5 (by decide) ?_
  refine V_ishr dL_word_7 ?_
  refine V_iload_0 dL_word_8 ?_
  refine V_bipush (v := 8) dL_word_9 (by decide) ?_
  refine V_ishr dL_word_11 ?_
  refine V_iconst (v := 1) dL_word_12 rfl ?_
  refine V_iand dL_word_13 ?_
  refine V_if_ne (tgt := 21) dL_word_14 (by decide) (fun c_14 => ?_) (fun c_14 => ?_)
  · refine V_bipush (v := 8) dL_word_21 (by decide) ?_
    refine V_call_i (runS2 dL_word_23 ce_L_some rfl ml_L_206 st_L_some (Nat.le_of_ble_eq_true rfl)) (by omega) (by omega) (by omega) (c_some (by decide) ?_)
    refine V_iadd dL_word_26 ?_
    refine V_istore_2 dL_word_27 rfl ?_
    refine V_iconst (v := 0) dL_word_28 rfl ?_
    refine V_istore_3 dL_word_29 rfl ?_
    have en : worN z = 1 + someV (z >>> ((9 : Int32) &&& 31)) 8 := by rw [worN, if_neg c_14]
    rw [worV, en] at kk
    obtain ⟨j, h1, h8, ej⟩ := worN_8 z
    rw [en] at ej
    exact V_mono (c2 := 0 + 8 * 8) (s2 := 0 + 800 * 8) (by omega) (by omega) (c_worL 8 0 [] _ H g hS Ext.rf (by rw [ej, nI_toInt (by omega)]; show (j : Int) ≤ 0 + 8; omega) (by decide) (by decide) kk)
  · refine V_iconst (v := 3) dL_word_17 rfl ?_
    refine V_goto (tgt := 23) dL_word_18 (by decide) ?_
    refine V_call_i (runS2 dL_word_23 ce_L_some rfl ml_L_206 st_L_some (Nat.le_of_ble_eq_true rfl)) (by omega) (by omega) (by omega) (c_some (by decide) ?_)
    refine V_iadd dL_word_26 ?_
    refine V_istore_2 dL_word_27 rfl ?_
    refine V_iconst (v := 0) dL_word_28 rfl ?_
    refine V_istore_3 dL_word_29 rfl ?_
    have en : worN z = 1 + someV (z >>> ((9 : Int32) &&& 31)) 3 := by rw [worN, if_pos c_14]
    rw [worV, en] at kk
    obtain ⟨j, h1, h8, ej⟩ := worN_8 z
    rw [en] at ej
    exact V_mono (c2 := 0 + 8 * 8) (s2 := 0 + 800 * 8) (by omega) (by omega) (c_worL 8 0 [] _ H g hS Ext.rf (by rw [ej, nI_toInt (by omega)]; show (j : Int) ≤ 0 + 8; omega) (by decide) (by decide) kk)
theorem take_get {w : List Int32} {j : Nat} (h : j < w.length) : w.take j ++ [w.getD j 0] = w.take (j + 1) := by
  rw [List.take_add_one, List.getD_eq_getElem?_getD, List.getElem?_eq_getElem h]; rfl
theorem RG.wLen {G : GT} {H : Heap} {g : Nat → Nat} {o : Nat} {R : RgC} (h : RG G H g o R) : (rgW R).length ≤ 142 := by
  obtain ⟨S, sn, tk, ea, wd, sc, ou, le, lf, K⟩ := R
  obtain ⟨nw, sp, el, w, s, u, co, dk, se, ho, htk, hnw, hsp, hel, hw, hs, hu, hco, hdk, hse⟩ := h
  exact hw.len
set_option maxHeartbeats 1000000 in
set_option maxRecDepth 100000 in
theorem c_tyL {G : GT} {X : String → Heap → Prop} {H0 : Heap} {g0 : Nat → Nat} {o q : Nat} {R : RgC} {w : List Int32} (hw8 : w.length ≤ 8) (hw : ∀ c ∈ w, ¬ isLet c = 0) {F : Int32 → Heap → Prop} {cc ss : Nat} : ∀ (k j : Nat) (H : Heap) (g : Nat → Nat), w.length = j + k → RG G H g o (setW R (w.take j)) → Sz G H g q w → Ext G tsA H0 g0 H g → (∀ (H1 : Heap) (g1 : Nat → Nat), RG G H1 g1 o (setW R w) → Ext G tsA H0 g0 H1 g1 → F (1) H1) → V G kL_types 9 (cc + k) (ss + 286 * k) (qi F) X 11 [some (.ref o), some (.ref q), some (.int (nI j))] [] H := by
  intro k
  induction k with
  | zero =>
    intro j H g hj hR hq E kk
    obtain ⟨fq, hfq⟩ := hq.str.o
    refine V_iload_2 dL_types_11 ?_
    refine V_aload_1 dL_types_12 ?_
    refine V_call_i (runV0 dL_types_13 ce_J0_length_8abf5 rfl ml_L_173 im_J0_length_8abf5 se_J0_length_8abf5 hfq ⟨_, rfl, rfl⟩ (Nat.le_of_ble_eq_true rfl)) (by omega) (by omega) (by omega) (c_slen hq.str ?_)
    have hjl : j = w.length := by omega
    subst hjl
    refine V_icmp_ge (tgt := 42) dL_types_16 (by decide) (fun c_16 => ?_) (fun c_16 => ?_)
    · refine V_iconst (v := 1) dL_types_42 rfl ?_
      exact V_retb true dL_types_43 rfl rfl (kk H g (by rw [List.take_length] at hR; exact hR) E)
    · exact absurd (Int32.le_refl _) c_16
  | succ k ih =>
    intro j H g hj hR hq E kk
    obtain ⟨fq, hfq⟩ := hq.str.o
    refine V_iload_2 dL_types_11 ?_
    refine V_aload_1 dL_types_12 ?_
    refine V_call_i (runV0 dL_types_13 ce_J0_length_8abf5 rfl ml_L_173 im_J0_length_8abf5 se_J0_length_8abf5 hfq ⟨_, rfl, rfl⟩ (Nat.le_of_ble_eq_true rfl)) (by omega) (by omega) (by omega) (c_slen hq.str ?_)
    have hjl : j < w.length := by omega
    refine V_icmp_ge (tgt := 42) dL_types_16 (by decide) (fun c_16 => ?_) (fun c_16 => ?_)
    · exact absurd c_16 (fun z => absurd ((nI_le_iff (by omega) (by omega)).mp z) (by omega))
    · refine V_aload_0 dL_types_19 ?_
      refine V_aload_1 dL_types_20 ?_
      refine V_iload_2 dL_types_21 ?_
      refine V_call_i (runV1 dL_types_22 ce_J0_charAt_5068e rfl ml_L_178 im_J0_charAt_5068e se_J0_charAt_5068e hfq ⟨_, rfl, rfl⟩ (Nat.le_of_ble_eq_true rfl)) (by omega) (by omega) (by omega) (c_scharN hq.str hjl ?_)
      have hin : w.getD j 0 ∈ w := by rw [List.getD_eq_getElem?_getD, List.getElem?_eq_getElem hjl]; exact List.getElem_mem hjl
      have hlt : (w.take j).length = j := by rw [List.length_take]; omega
      refine V_call_i (runSX2 dL_types_25 ce_L_typeLetter rfl ml_L_181 st_L_typeLetter (Nat.le_of_ble_eq_true rfl)) (by omega) (by omega) (by omega) (c_lType (R := setW R (w.take j)) hR (fun hl h8 H1 g1 hR1 e1 => ?_) (fun hn => absurd hn (hw _ hin)) (fun hn h8 => absurd (show 8 ≤ (w.take j).length from h8) (by omega)))
      have e2 := E.trans e1
      have hq1 := hq.fr e1 (by decide)
      refine V_iload_2 dL_types_28 ?_
      refine V_iconst (v := 1) dL_types_29 rfl ?_
      refine V_iadd dL_types_30 ?_
      rw [show rgW (setW R (w.take j)) = w.take j from rfl, take_get hjl, show nI (w.take (j + 1)).length = nI j + 1 from by rw [List.length_take, Nat.min_eq_left (by omega), nI_s]]
      refine V_icmp_eq (tgt := 36) dL_types_31 (by decide) (fun c_31 => ?_) (fun c_31 => ?_)
      · refine V_iinc_2 (v := 1) dL_types_36 rfl rfl ?_
        refine V_goto (tgt := 11) dL_types_39 (by decide) ?_
        rw [nI_s]
        exact V_mono (c2 := cc + k) (s2 := ss + 286 * k) (by omega) (by omega) (ih (j + 1) H1 g1 (by omega) (by rw [← take_get hjl]; exact hR1) hq1 e2 kk)
      · exact absurd rfl c_31
set_option maxHeartbeats 1000000 in
set_option maxRecDepth 100000 in
theorem c_types {G : GT} {X : String → Heap → Prop} {H : Heap} {g : Nat → Nat} {o : Nat} {R : RgC} {w : List Int32} (hw8 : w.length ≤ 8) (hw : ∀ c ∈ w, ¬ isLet c = 0) {q : Nat} (hq : Sz G H g q w) (hR : RG G H g o R) {F : Int32 → Heap → Prop} (kk : ∀ (H1 : Heap) (g1 : Nat → Nat), RG G H1 g1 o (setW R w) → Ext G tsA H g H1 g1 → F (1) H1) : Call G kL_types 9 8 2288 [.ref o, .ref q] H (qi F) X := by
  refine startL (L0 := [some (.ref o), some (.ref q), none]) rfl rfl pl_L_types (Nat.le_of_ble_eq_true rfl) ?_
  obtain ⟨fo, hfo⟩ := hR.o
  have hwl := hR.wLen
  refine V_aload_0 dL_types_0 ?_
  refine V_call_i (runV0 dL_types_1 ce_X12_clearWord rfl ml_L_170 im_X12_clearWord se_X12_clearWord hfo ⟨_, rfl, rfl⟩ (Nat.le_of_ble_eq_true rfl)) (by omega) (by omega) (by omega) (c_fClr hR fun H1 g1 hR1 e1 => ?_)
  refine V_if_ge (tgt := 9) dL_types_4 (by decide) (fun c_4 => ?_) (fun c_4 => ?_)
  · refine V_iconst (v := 0) dL_types_9 rfl ?_
    refine V_istore_2 dL_types_10 rfl ?_
    exact V_mono (c2 := 0 + w.length) (s2 := 0 + 286 * w.length) (by omega) (by omega) (c_tyL (H0 := H) (g0 := g) (R := R) hw8 hw w.length 0 H1 g1 (by omega) hR1 (hq.fr e1 (by decide)) e1 kk)
  · exact absurd (Int32.not_lt.mp (nI_pos (by omega))) c_4
set_option maxHeartbeats 1000000 in
set_option maxRecDepth 100000 in
theorem c_rules {G : GT} {X : String → Heap → Prop} {H : Heap} {g : Nat → Nat} {o : Nat} {R : RgC} {x : Int32} {w : List Int32} (hw8 : w.length ≤ 8) (hw : ∀ c ∈ w, ¬ isLet c = 0) {q : Nat} (hq : Sz G H g q w) (hR : RG G H g o R) (hok : okS R.1) (hea : (rgE R).length ≤ 8) (hfa : ∀ E : String, flt (qRule x w R.1).1 = some E → E = "java/lang/IllegalArgumentException" ∨ E = "java/lang/IllegalStateException" ∨ E = "java/lang/UnsupportedOperationException") {F : Int32 → Heap → Prop} (kk : flt (qRule x w R.1).1 = none → ∀ (H1 : Heap) (g1 : Nat → Nat), RG G H1 g1 o (setW (accR (setW R w) (qRule x w R.1).2 (rgK R)) []) → Ext G tsA H g H1 g1 → F ((qRule x w R.1).1) H1) (kx : ∀ (E : String) (v : Int32), flt (qRule x w R.1).1 = some E → (E, v) ∈ ([("java/lang/IllegalArgumentException", (-1001 : Int32)), ("java/lang/IllegalStateException", (-1002 : Int32)), ("java/lang/UnsupportedOperationException", (-1003 : Int32))] : List (String × Int32)) → ∀ (H1 : Heap) (g1 : Nat → Nat), RG G H1 g1 o (setW R w) → Ext G tsA H g H1 g1 → F (v) H1) : Call G kL_rules 13 51 4602 [.ref o, .int x, .ref q] H (qi F) X := by
  refine startL (L0 := [some (.ref o), some (.int x), some (.ref q)]) rfl rfl pl_L_rules (Nat.le_of_ble_eq_true rfl) ?_
  refine V_aload_0 dL_rules_0 ?_
  refine V_aload_2 dL_rules_1 ?_
  refine V_call_i (runS2 dL_rules_2 ce_L_types rfl ml_L_186 st_L_types (Nat.le_of_ble_eq_true rfl)) (by omega) (by omega) (by omega) (c_types hw8 hw hq hR fun H1 g1 hR1 e1 => ?_)
  refine V_if_eq (tgt := 16) dL_rules_5 (by decide) (fun c_5 => ?_) (fun c_5 => ?_)
  · exact absurd c_5 (by decide)
  · refine V_aload_0 dL_rules_8 ?_
    refine V_iload_1 dL_rules_9 ?_
    refine V_call_i (runSX2 dL_rules_10 ce_L_addPrecedent rfl ml_L_193 st_L_addPrecedent (Nat.le_of_ble_eq_true rfl)) (by omega) (by omega) (by omega) (c_lRule (R := setW R w) hR1 hok hea hw8 hfa (fun hf H2 g2 hR2 e2 => ?_) (fun E v hE hv H2 g2 hR2 e2 => ?_))
    · skip
      refine V_goto (tgt := 19) dL_rules_13 (by decide) ?_
      exact V_reti dL_rules_19 rfl rfl (kk hf H2 g2 hR2 (e1.trans e2))
    · skip
      refine V_goto (tgt := 19) dL_rules_13 (by decide) ?_
      exact V_reti dL_rules_19 rfl rfl (kx E v hE hv H2 g2 hR2 (e1.trans e2))
set_option maxHeartbeats 1000000 in
set_option maxRecDepth 100000 in
theorem c_files {G : GT} {X : String → Heap → Prop} {H : Heap} {g : Nat → Nat} {o : Nat} {R : RgC} {x1 : Int32} {x2 : Int32} {x3 : Int32} {x4 : Int32} {x5 : Int32} {w : List Int32} (hw8 : w.length ≤ 8) (hw : ∀ c ∈ w, ¬ isLet c = 0) {q : Nat} (hq : Sz G H g q w) (hR : RG G H g o R) (hok : okS R.1) (hea : (rgE R).length ≤ 8) (hfa : ∀ E : String, flt (qFile x1 x2 x3 x4 x5 w R.1).1 = some E → E = "java/lang/IndexOutOfBoundsException" ∨ E = "java/lang/IllegalArgumentException" ∨ E = "java/lang/IllegalStateException" ∨ E = "java/lang/UnsupportedOperationException") {F : Int32 → Heap → Prop} (kk : flt (qFile x1 x2 x3 x4 x5 w R.1).1 = none → ∀ (H1 : Heap) (g1 : Nat → Nat), RG G H1 g1 o (setW (accR (setW R w) (qFile x1 x2 x3 x4 x5 w R.1).2 (rgK R)) []) → Ext G tsA H g H1 g1 → F ((qFile x1 x2 x3 x4 x5 w R.1).1) H1) (kx : ∀ (E : String) (v : Int32), flt (qFile x1 x2 x3 x4 x5 w R.1).1 = some E → (E, v) ∈ ([("java/lang/IndexOutOfBoundsException", (-1001 : Int32)), ("java/lang/IllegalArgumentException", (-1002 : Int32)), ("java/lang/IllegalStateException", (-1003 : Int32)), ("java/lang/UnsupportedOperationException", (-1004 : Int32))] : List (String × Int32)) → ∀ (H1 : Heap) (g1 : Nat → Nat), RG G H1 g1 o (setW R w) → Ext G tsA H g H1 g1 → F (v) H1) : Call G kL_files 13 51 4614 [.ref o, .int x1, .int x2, .int x3, .int x4, .int x5, .ref q] H (qi F) X := by
  refine startL (L0 := [some (.ref o), some (.int x1), some (.int x2), some (.int x3), some (.int x4), some (.int x5), some (.ref q)]) rfl rfl pl_L_files (Nat.le_of_ble_eq_true rfl) ?_
  refine V_aload_0 dL_files_0 ?_
  refine V_aload_6 dL_files_1 ?_
  refine V_call_i (runS2 dL_files_3 ce_L_types rfl ml_L_186 st_L_types (Nat.le_of_ble_eq_true rfl)) (by omega) (by omega) (by omega) (c_types hw8 hw hq hR fun H1 g1 hR1 e1 => ?_)
  refine V_if_eq (tgt := 23) dL_files_6 (by decide) (fun c_6 => ?_) (fun c_6 => ?_)
  · exact absurd c_6 (by decide)
  · refine V_aload_0 dL_files_9 ?_
    refine V_iload_1 dL_files_10 ?_
    refine V_iload_2 dL_files_11 ?_
    refine V_iload_3 dL_files_12 ?_
    refine V_iload_4 dL_files_13 ?_
    refine V_iload_5 dL_files_15 ?_
    refine V_call_i (runSX6 dL_files_17 ce_L_fileCase rfl ml_L_190 st_L_fileCase (Nat.le_of_ble_eq_true rfl)) (by omega) (by omega) (by omega) (c_lFile (R := setW R w) hR1 hok hea hw8 hfa (fun hf H2 g2 hR2 e2 => ?_) (fun E v hE hv H2 g2 hR2 e2 => ?_))
    · skip
      refine V_goto (tgt := 26) dL_files_20 (by decide) ?_
      exact V_reti dL_files_26 rfl rfl (kk hf H2 g2 hR2 (e1.trans e2))
    · skip
      refine V_goto (tgt := 26) dL_files_20 (by decide) ?_
      exact V_reti dL_files_26 rfl rfl (kx E v hE hv H2 g2 hR2 (e1.trans e2))
set_option maxHeartbeats 1000000 in
set_option maxRecDepth 100000 in
theorem c_rnL {G : GT} {X : String → Heap → Prop} {H0 : Heap} {g0 : Nat → Nat} {o q : Nat} {R : RgC} {w : List Int32} {r : Int32 × Int32 × List OrdC} (hr : rScr w 0 [] = r) (hw22 : w.length ≤ 22) (hnl : w.length ≠ 16) (hw : ∀ c ∈ w, isChr c = 1) (hok : okS R.1) (hea : (rgE R).length ≤ 8) (ho3 : ¬ r.1 = 0 → r.2.2.length ≤ 3) {F : Int32 → Heap → Prop} : ∀ (k j : Nat) (H : Heap) (g : Nat → Nat), w.length = j + k → RG G H g o (setX R (w.take j)) → Sz G H g q w → Ext G tsA H0 g0 H g → (r.1 = 0 → ∀ (H1 : Heap) (g1 : Nat → Nat), RG G H1 g1 o (setP (setX R []) r.2.1) → Ext G tsA H0 g0 H1 g1 → F (-1001) H1) → (¬ r.1 = 0 → (perL r.2.2 r.2.2.length 0 R.1 (rgK R)).1 = none → ∀ (H1 : Heap) (g1 : Nat → Nat), RG G H1 g1 o (accR (setX R []) (perL r.2.2 r.2.2.length 0 R.1 (rgK R)).2.1 (perL r.2.2 r.2.2.length 0 R.1 (rgK R)).2.2) → Ext G tsA H0 g0 H1 g1 → F (nI r.2.2.length) H1) → (¬ r.1 = 0 → ∀ j : Nat, (perL r.2.2 r.2.2.length 0 R.1 (rgK R)).1 = some j → ∀ (H1 : Heap) (g1 : Nat → Nat), RG G H1 g1 o (setK (setF (setX R []) (nI j)) (perL r.2.2 r.2.2.length 0 R.1 (rgK R)).2.2) → Ext G tsA H0 g0 H1 g1 → F (-1002) H1) → V G kL_runs 13 (10935 + k) (80940 + 286 * k) (qi F) X 2 [some (.ref o), some (.ref q), some (.int (nI j))] [] H := by
  intro k
  induction k with
  | zero =>
    intro j H g hj hR hq E k1 kk k2
    obtain ⟨fq, hfq⟩ := hq.str.o
    refine V_iload_2 dL_runs_2 ?_
    refine V_aload_1 dL_runs_3 ?_
    refine V_call_i (runV0 dL_runs_4 ce_J0_length_8abf5 rfl ml_L_173 im_J0_length_8abf5 se_J0_length_8abf5 hfq ⟨_, rfl, rfl⟩ (Nat.le_of_ble_eq_true rfl)) (by omega) (by omega) (by omega) (c_slen hq.str ?_)
    have hjl : j = w.length := by omega
    subst hjl
    refine V_icmp_ge (tgt := 35) dL_runs_7 (by decide) (fun c_7 => ?_) (fun c_7 => ?_)
    · refine V_aload_0 dL_runs_35 ?_
      rw [List.take_length] at hR
      refine V_call_i (runSX1 dL_runs_36 ce_L_run rfl ml_L_198 st_L_run (Nat.le_of_ble_eq_true rfl)) (by omega) (by omega) (by omega) (c_lRun (R := setX R w) hR ⟨hnl, by show w.length ≠ 34; omega, by show w.length ≠ 70; omega, by show w.length ≠ 142; omega⟩ hr hw22 hok hea ho3 (fun ha H1 g1 hR1 e1 => ?_) (fun ha hb H1 g1 hR1 e1 => ?_) (fun ha j hj2 H1 g1 hR1 e1 => ?_))
      · skip
        exact V_reti dL_runs_39 rfl rfl (k1 ha H1 g1 hR1 (E.trans e1))
      · skip
        exact V_reti dL_runs_39 rfl rfl (kk ha hb H1 g1 hR1 (E.trans e1))
      · skip
        exact V_reti dL_runs_39 rfl rfl (k2 ha j hj2 H1 g1 hR1 (E.trans e1))
    · exact absurd (Int32.le_refl _) c_7
  | succ k ih =>
    intro j H g hj hR hq E k1 kk k2
    obtain ⟨fq, hfq⟩ := hq.str.o
    refine V_iload_2 dL_runs_2 ?_
    refine V_aload_1 dL_runs_3 ?_
    refine V_call_i (runV0 dL_runs_4 ce_J0_length_8abf5 rfl ml_L_173 im_J0_length_8abf5 se_J0_length_8abf5 hfq ⟨_, rfl, rfl⟩ (Nat.le_of_ble_eq_true rfl)) (by omega) (by omega) (by omega) (c_slen hq.str ?_)
    have hjl : j < w.length := by omega
    refine V_icmp_ge (tgt := 35) dL_runs_7 (by decide) (fun c_7 => ?_) (fun c_7 => ?_)
    · exact absurd c_7 (fun z => absurd ((nI_le_iff (by omega) (by omega)).mp z) (by omega))
    · refine V_aload_0 dL_runs_10 ?_
      refine V_aload_1 dL_runs_11 ?_
      refine V_iload_2 dL_runs_12 ?_
      refine V_call_i (runV1 dL_runs_13 ce_J0_charAt_5068e rfl ml_L_178 im_J0_charAt_5068e se_J0_charAt_5068e hfq ⟨_, rfl, rfl⟩ (Nat.le_of_ble_eq_true rfl)) (by omega) (by omega) (by omega) (c_scharN hq.str hjl ?_)
      have hin : w.getD j 0 ∈ w := by rw [List.getD_eq_getElem?_getD, List.getElem?_eq_getElem hjl]; exact List.getElem_mem hjl
      have hlt : (w.take j).length = j := by rw [List.length_take]; omega
      refine V_call_i (runSX2 dL_runs_16 ce_L_type rfl ml_L_196 st_L_type (Nat.le_of_ble_eq_true rfl)) (by omega) (by omega) (by omega) (c_lTyp (R := setX R (w.take j)) hR (fun hl h8 H1 g1 hR1 e1 => ?_) (fun hn => absurd (hn.symm.trans (hw _ hin)) (by decide)) (fun hn h8 => absurd (show 60 ≤ (w.take j).length from h8) (by omega)))
      have e2 := E.trans e1
      have hq1 := hq.fr e1 (by decide)
      refine V_iload_2 dL_runs_19 ?_
      refine V_iconst (v := 1) dL_runs_20 rfl ?_
      refine V_iadd dL_runs_21 ?_
      rw [show rgX (setX R (w.take j)) = w.take j from rfl, take_get hjl, show nI (w.take (j + 1)).length = nI j + 1 from by rw [List.length_take, Nat.min_eq_left (by omega), nI_s]]
      refine V_icmp_eq (tgt := 29) dL_runs_22 (by decide) (fun c_22 => ?_) (fun c_22 => ?_)
      · refine V_iinc_2 (v := 1) dL_runs_29 rfl rfl ?_
        refine V_goto (tgt := 2) dL_runs_32 (by decide) ?_
        rw [nI_s]
        exact V_mono (c2 := 10935 + k) (s2 := 80940 + 286 * k) (by omega) (by omega) (ih (j + 1) H1 g1 (by omega) (by rw [← take_get hjl]; exact hR1) hq1 e2 k1 kk k2)
      · exact absurd rfl c_22
set_option maxHeartbeats 1000000 in
set_option maxRecDepth 100000 in
theorem c_runs {G : GT} {X : String → Heap → Prop} {H : Heap} {g : Nat → Nat} {o : Nat} {R : RgC} {w : List Int32} {r : Int32 × Int32 × List OrdC} (hr : rScr w 0 [] = r) (hw22 : w.length ≤ 22) (hnl : w.length ≠ 16) (hw : ∀ c ∈ w, isChr c = 1) (hok : okS R.1) (hea : (rgE R).length ≤ 8) (ho3 : ¬ r.1 = 0 → r.2.2.length ≤ 3) {q : Nat} (hq : Sz G H g q w) (hR : RG G H g o (setX R [])) {F : Int32 → Heap → Prop} (k1 : r.1 = 0 → ∀ (H1 : Heap) (g1 : Nat → Nat), RG G H1 g1 o (setP (setX R []) r.2.1) → Ext G tsA H g H1 g1 → F (-1001) H1) (kk : ¬ r.1 = 0 → (perL r.2.2 r.2.2.length 0 R.1 (rgK R)).1 = none → ∀ (H1 : Heap) (g1 : Nat → Nat), RG G H1 g1 o (accR (setX R []) (perL r.2.2 r.2.2.length 0 R.1 (rgK R)).2.1 (perL r.2.2 r.2.2.length 0 R.1 (rgK R)).2.2) → Ext G tsA H g H1 g1 → F (nI r.2.2.length) H1) (k2 : ¬ r.1 = 0 → ∀ j : Nat, (perL r.2.2 r.2.2.length 0 R.1 (rgK R)).1 = some j → ∀ (H1 : Heap) (g1 : Nat → Nat), RG G H1 g1 o (setK (setF (setX R []) (nI j)) (perL r.2.2 r.2.2.length 0 R.1 (rgK R)).2.2) → Ext G tsA H g H1 g1 → F (-1002) H1) : Call G kL_runs 13 10957 87232 [.ref o, .ref q] H (qi F) X := by
  refine startL (L0 := [some (.ref o), some (.ref q), none]) rfl rfl pl_L_runs (Nat.le_of_ble_eq_true rfl) ?_
  refine V_iconst (v := 0) dL_runs_0 rfl ?_
  refine V_istore_2 dL_runs_1 rfl ?_
  exact V_mono (c2 := 10935 + w.length) (s2 := 80940 + 286 * w.length) (by omega) (by omega) (c_rnL (R := R) hr hw22 hnl hw hok hea ho3 w.length 0 H g (by omega) hR hq Ext.rf k1 kk k2)

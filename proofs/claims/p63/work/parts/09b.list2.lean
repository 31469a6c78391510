set_option maxHeartbeats 4000000 in
set_option maxRecDepth 100000 in
theorem c_acinit {G : GT} {H : Heap} {a : Nat} {X : String → Heap → Prop} {F : Heap → Prop} (kk : F H) : Call G kJxa1e45_init_da8c8 1 0 0 [.ref a] H (qv F) X := by
  refine startL (L0 := [some (.ref a)]) rfl rfl pl_Jxa1e45_init_da8c8 (Nat.le_of_ble_eq_true rfl) ?_
  refine V_aload_0 dJxa1e45_init_da8c8_0 ?_
  refine V_oinit dJxa1e45_init_da8c8_1 ml_Jxa1e45_1 ex_oiI ex_oiC (Nat.le_of_ble_eq_true rfl) (Nat.le_of_ble_eq_true rfl) ?_
  exact V_retv dJxa1e45_init_da8c8_4 rfl kk
set_option maxHeartbeats 4000000 in
set_option maxRecDepth 100000 in
theorem c_alsinit {G : GT} {H : Heap} {g : Nat → Nat} {t a : Nat} {X : String → Heap → Prop} {v0 v1 v2 : Value} (ho : Ob G H g t a 4 [v0, v1, v2]) (ht : t ≠ 0) {F : Heap → Prop} (kk : ∀ H1, Ob G H1 g t a 4 [.int 0, v1, v2] → Ext G [t] H g H1 g → F H1) : Call G kJxc12de_init_da8c8 2 0 0 [.ref a] H (qv F) X := by
  refine startL (L0 := [some (.ref a)]) rfl rfl pl_Jxc12de_init_da8c8 (Nat.le_of_ble_eq_true rfl) ?_
  refine V_aload_0 dJxc12de_init_da8c8_0 ?_
  refine V_call_v (runI0 dJxc12de_init_da8c8_1 ce_Jxa1e45_init_da8c8 rfl rfl rfl ml_Jxc12de_1 im_Jxa1e45_init_da8c8 (Nat.le_of_ble_eq_true rfl)) (by omega) (by omega) (by omega) (c_acinit ?_)
  refine V_aload_0 dJxc12de_init_da8c8_4 ?_
  refine V_iconst (v := 0) dJxc12de_init_da8c8_5 rfl ?_
  refine V_put dJxc12de_init_da8c8_6 fp_Jxc12de_init_da8c8_7 ho ht ⟨rfl, rfl⟩ (Nat.le_of_ble_eq_true rfl) rfl fun H1 ho1 e1 z1 => ?_
  exact V_retv dJxc12de_init_da8c8_9 rfl (kk H1 ho1 e1)
set_option maxHeartbeats 4000000 in
set_option maxRecDepth 100000 in
theorem c_alinit {G : GT} {H : Heap} {g : Nat → Nat} {t a : Nat} {X : String → Heap → Prop} {v0 v1 : Value} (ho : Ob G H g t a 4 [v0, v1, .int 0]) (ht : t ≠ 0) {F : Heap → Prop} (kk : ∀ H1, AL G H1 g t a [] → Ext G [t] H g H1 g → F H1) : Call G kJx4a65c_init_da8c8 3 0 0 [.ref a] H (qv F) X := by
  refine startL (L0 := [some (.ref a)]) rfl rfl pl_Jx4a65c_init_da8c8 (Nat.le_of_ble_eq_true rfl) ?_
  refine V_aload_0 dJx4a65c_init_da8c8_0 ?_
  refine V_call_v (runI0 dJx4a65c_init_da8c8_1 ce_Jxc12de_init_da8c8 rfl rfl rfl ml_Jx4a65c_1 im_Jxc12de_init_da8c8 (Nat.le_of_ble_eq_true rfl)) (by omega) (by omega) (by omega) (c_alsinit ho ht fun H1 ho e1 => ?_)
  refine V_aload_0 dJx4a65c_init_da8c8_4 ?_
  refine V_gets (i := 1) (v := .ref (gA G 1001)) dJx4a65c_init_da8c8_5 rfl fs_Jx4a65c_39 rfl ?_
  refine V_put dJx4a65c_init_da8c8_8 fp_Jx4a65c_init_da8c8_9 ho ht ⟨rfl, rfl⟩ (Nat.le_of_ble_eq_true rfl) rfl fun H2 ho e2 z2 => ?_
  exact V_retv dJx4a65c_init_da8c8_11 rfl (kk H2 ⟨gA G 1001, 0, ho, Or.inl ⟨rfl, rfl⟩, by decide, fun r hr => by cases hr⟩ (e1.trans e2))
set_option maxHeartbeats 4000000 in
set_option maxRecDepth 100000 in
theorem c_newLength {G : GT} {H : Heap} {X : String → Heap → Prop} {n k : Nat} {x y : Int32} (hr : nI n + imax x y = nI k) (h0 : 0 < k) (h1 : k < 2 ^ 30) {F : Int32 → Heap → Prop} (kk : F (nI k) H) : Call G kJ8_newLength_cabcc 2 0 0 [.int (nI n), .int x, .int y] H (qi F) X := by
  refine startL (L0 := [some (.int (nI n)), some (.int x), some (.int y), none]) rfl rfl pl_J8_newLength_cabcc (Nat.le_of_ble_eq_true rfl) ?_
  refine V_iload_0 dJ8_newLength_cabcc_0 ?_
  refine V_iload_1 dJ8_newLength_cabcc_1 ?_
  refine V_iload_2 dJ8_newLength_cabcc_2 ?_
  refine V_mmax dJ8_newLength_cabcc_3 ml_J8_194 ex_maxS ex_mth ex_maxC (Nat.le_of_ble_eq_true rfl) (Nat.le_of_ble_eq_true rfl) ?_
  refine V_iadd dJ8_newLength_cabcc_6 ?_
  refine V_int (y := nI k) hr ?_
  refine V_istore_3 dJ8_newLength_cabcc_7 rfl ?_
  refine V_iconst (v := 0) dJ8_newLength_cabcc_8 rfl ?_
  refine V_iload_3 dJ8_newLength_cabcc_9 ?_
  refine V_icmp_ge (tgt := 21) dJ8_newLength_cabcc_10 (by decide) (fun c_10 => ?_) (fun c_10 => ?_)
  · exact absurd c_10 (by rw [show (0 : Int32) = nI 0 from rfl]; exact nI_ge h0 (by omega))
  · refine V_iload_3 dJ8_newLength_cabcc_13 ?_
    refine V_ldci (v := 2147483639) dJ8_newLength_cabcc_14 cn_J8_200 ?_
    refine V_icmp_gt (tgt := 21) dJ8_newLength_cabcc_16 (by decide) (fun c_16 => ?_) (fun c_16 => ?_)
    · exact absurd c_16 (Int32.not_lt.mpr (Int32.le_iff_toInt_le.mpr (by rw [nI_toInt (by omega)]; show (k : Int) ≤ 2147483639; omega)))
    · refine V_iload_3 dJ8_newLength_cabcc_19 ?_
      exact V_reti dJ8_newLength_cabcc_20 rfl rfl kk
set_option maxHeartbeats 4000000 in
set_option maxRecDepth 100000 in
theorem c_copyOf3 {G : GT} {H : Heap} {g : Nat → Nat} {t t1 b n k : Nat} {X : String → Heap → Prop} {l : List (Option Nat)} (hb : Oa G H g t b l) (hbl : l.length = n) (hnk : n ≤ k) (hk : k < 2 ^ 18) (ht1 : t1 ≠ 0) (hel : ∀ i y, i < n → l.getD i none = some y → elO G H y) {F : Nat → Heap → Prop} (kk : ∀ (q : Nat) (H1 : Heap) (g1 : Nat → Nat) (l1 : List (Option Nat)), Oa G H1 g1 t1 q l1 → l1.length = k → l1.take n = l → q = H.size → Ext G [] H g H1 g1 → F q H1) : Call G kJ7_copyOf_6403c 2 1 k [.ref b, .int (nI k), .ref (gA G 1200)] H (qa F) X := by
  refine startL (L0 := [some (.ref b), some (.int (nI k)), some (.ref (gA G 1200)), none]) rfl rfl pl_J7_copyOf_6403c (Nat.le_of_ble_eq_true rfl) ?_
  refine V_aload_2 dJ7_copyOf_6403c_0 ?_
  refine V_ldcm dJ7_copyOf_6403c_1 ck_J7_110 ?_
  refine V_acmp_ne (tgt := 13) dJ7_copyOf_6403c_3 (by decide) (fun c_3 => absurd rfl c_3) (fun _ => ?_)
  refine V_iload_1 dJ7_copyOf_6403c_6 ?_
  refine V_mkO (g := g) t1 dJ7_copyOf_6403c_7 ck_J7_2 ex_arrO (nI_pos (by omega)) (nI_clamp (by omega)) (by omega) (by omega) (by omega) fun q H1 g1 hq e1 z1 => ?_
  replace hb := hb.fr e1 (by simp)
  refine V_goto (tgt := 24) dJ7_copyOf_6403c_10 (by decide) ?_
  refine V_astore_3 dJ7_copyOf_6403c_24 rfl ?_
  refine V_aload_0 dJ7_copyOf_6403c_25 ?_
  refine V_iconst (v := 0) dJ7_copyOf_6403c_26 rfl ?_
  refine V_aload_3 dJ7_copyOf_6403c_27 ?_
  refine V_iconst (v := 0) dJ7_copyOf_6403c_28 rfl ?_
  refine V_aload_0 dJ7_copyOf_6403c_29 ?_
  refine V_alen (v := nI n) dJ7_copyOf_6403c_30 hb.ra (by rw [hbl]; rfl) ?_
  refine V_iload_1 dJ7_copyOf_6403c_31 ?_
  refine V_mmin dJ7_copyOf_6403c_32 ml_J7_304 ex_minS ex_mth ex_minC (Nat.le_of_ble_eq_true rfl) (Nat.le_of_ble_eq_true rfl) ?_
  refine V_int (y := nI n) (by rw [imin_nI (by omega) (by omega), Nat.min_eq_left hnk]) ?_
  refine V_cpO2 dJ7_copyOf_6403c_35 ml_J7_150 ex_acN ex_acS ex_sys (by omega) (Nat.le_of_ble_eq_true rfl) hb.ra hq ht1 (by decide) (by decide) (nI_pos (by omega)) (by rw [nI_clamp (by omega), hbl]; show 0 + n ≤ _; omega) (by rw [nI_clamp (by omega), List.length_replicate]; show 0 + n ≤ _; omega) (fun i y hi hy => ?_) fun H2 hq2 o2 z2 => ?_
  · rw [nI_clamp (by omega)] at hi; exact (hel i y hi (by have h0 : (0 : Int32).toNatClampNeg = 0 := rfl; rw [h0, Nat.zero_add] at hy; exact hy)).ext e1
  refine V_aload_3 dJ7_copyOf_6403c_38 ?_
  exact V_reta dJ7_copyOf_6403c_39 rfl (Or.inr ⟨_, rfl⟩) (kk q H2 g1 _ hq2 (by rw [layO_len, List.length_replicate]) (by rw [nI_clamp (by omega)]; exact layO_take hbl.symm (by rw [List.length_replicate]; exact hnk)) z1 (e1.new (by omega) o2 z2))
set_option maxHeartbeats 4000000 in
set_option maxRecDepth 100000 in
theorem c_copyOf2 {G : GT} {H : Heap} {g : Nat → Nat} {t t1 b n k : Nat} {X : String → Heap → Prop} {l : List (Option Nat)} (hb : Oa G H g t b l) (hbl : l.length = n) (hnk : n ≤ k) (hk : k < 2 ^ 18) (ht1 : t1 ≠ 0) (hel : ∀ i y, i < n → l.getD i none = some y → elO G H y) {F : Nat → Heap → Prop} (kk : ∀ (q : Nat) (H1 : Heap) (g1 : Nat → Nat) (l1 : List (Option Nat)), Oa G H1 g1 t1 q l1 → l1.length = k → l1.take n = l → q = H.size → Ext G [] H g H1 g1 → F q H1) : Call G kJ7_copyOf_1904c 3 1 k [.ref b, .int (nI k)] H (qa F) X := by
  refine startL (L0 := [some (.ref b), some (.int (nI k))]) rfl rfl pl_J7_copyOf_1904c (Nat.le_of_ble_eq_true rfl) ?_
  refine V_aload_0 dJ7_copyOf_1904c_0 ?_
  refine V_iload_1 dJ7_copyOf_1904c_1 ?_
  refine V_aload_0 dJ7_copyOf_1904c_2 ?_
  refine V_getc dJ7_copyOf_1904c_3 ml_J7_86 ex_gcD ex_gcS ex_gcI ex_gcN (by omega) (Nat.le_of_ble_eq_true rfl) hb ?_
  refine V_call_a (runS3 dJ7_copyOf_1904c_6 ce_J7_copyOf_6403c rfl ml_J7_300 st_J7_copyOf_6403c (Nat.le_of_ble_eq_true rfl)) (by omega) (by omega) (by omega) (c_copyOf3 (t1 := t1) hb hbl hnk hk ht1 hel fun q H1 g1 l1 h1 h2 h3 h4 h5 => ?_)
  exact V_reta dJ7_copyOf_1904c_9 rfl (Or.inr ⟨_, rfl⟩) (kk q H1 g1 l1 h1 h2 h3 h4 h5)
theorem ALb.full {G : GT} {H : Heap} {g : Nat → Nat} {t b : Nat} {rs : List Nat} (h : ALb G H g t b rs) : (b = gA G 1001 ∧ rs = []) ∨ ∃ arr : List (Option Nat), Oa G H g t b arr ∧ arr.take rs.length = rs.map some ∧ rs.length ≤ arr.length := h
def elA (G : GT) (H : Heap) (g : Nat → Nat) (rs : List Nat) : Prop := ∀ r ∈ rs, elO G H r ∧ tg G g r = 0
theorem elA.fr {G : GT} {H H1 : Heap} {g g1 : Nat → Nat} {ts : List Nat} {rs : List Nat} (h : elA G H g rs) (e : Ext G ts H g H1 g1) (ht : 0 ∉ ts) : elA G H1 g1 rs := fun r hr => (h r hr).1.fr (h r hr).2 e ht
theorem elA.at {G : GT} {H : Heap} {g : Nat → Nat} {rs : List Nat} {arr : List (Option Nat)} (h : elA G H g rs) (h2 : arr.take rs.length = rs.map some) : ∀ i y, i < rs.length → arr.getD i none = some y → elO G H y := fun i y hi hy => by
  have h3 : (arr.take rs.length)[i]? = (rs.map some)[i]? := by rw [h2]
  rw [List.getElem?_take, if_pos hi, List.getElem?_map] at h3
  rw [List.getD_eq_getElem?_getD, h3, List.getElem?_eq_getElem hi] at hy
  cases hy
  exact (h _ (List.getElem_mem hi)).1
theorem growN : ∀ n, n < 41 → nI n + imax (nI (n + 1) - nI n) (nI n >>> (1 &&& 31)) = nI (n + max 1 (n / 2)) := by decide +kernel
theorem growM : ∀ n, n < 10 → imax 10 (nI (n + 1)) = 10 := by decide +kernel
set_option maxHeartbeats 4000000 in
set_option maxRecDepth 100000 in
theorem c_grow0 {G : GT} {H : Heap} {g : Nat → Nat} {t a : Nat} {X : String → Heap → Prop} {mc : Int32} {b : Nat} {rs : List Nat} (ho : Ob G H g t a 4 [.int mc, .ref b, .int (nI rs.length)]) (hb : b = gA G 1001 ∧ rs = []) (ht : t ≠ 0) {F : Nat → Heap → Prop} (kk : ∀ (q : Nat) (H1 : Heap) (g1 : Nat → Nat) (arr : List (Option Nat)), Ob G H1 g1 t a 4 [.int mc, .ref q, .int (nI rs.length)] → Oa G H1 g1 t q arr → arr.take rs.length = rs.map some → rs.length < arr.length → Ext G [t] H g H1 g1 → F q H1) : Call G kJx4a65c_grow_92f84 4 1 61 [.ref a, .int (nI (rs.length + 1))] H (qa F) X := by
  obtain ⟨rfl, rfl⟩ := hb
  refine startL (L0 := [some (.ref a), some (.int (nI 1)), none, none]) rfl rfl pl_Jx4a65c_grow_92f84 (Nat.le_of_ble_eq_true rfl) ?_
  refine V_aload_0 dJx4a65c_grow_92f84_0 ?_
  refine V_getf dJx4a65c_grow_92f84_1 fl_Jx4a65c_9 ho.ro rfl ?_
  refine V_old fun hOK hS => ?_
  refine V_alen (v := 0) dJx4a65c_grow_92f84_4 (hOK.2.2.2.2.1.2.2.1.old hS) rfl ?_
  refine V_istore_2 dJx4a65c_grow_92f84_5 rfl ?_
  refine V_iload_2 dJx4a65c_grow_92f84_6 ?_
  refine V_if_gt (tgt := 20) dJx4a65c_grow_92f84_7 (by decide) (fun c_7 => ?_) (fun c_7 => ?_)
  · exact absurd c_7 (by decide)
  · refine V_aload_0 dJx4a65c_grow_92f84_10 ?_
    refine V_getf dJx4a65c_grow_92f84_11 fl_Jx4a65c_9 ho.ro rfl ?_
    refine V_gets (i := 1) (v := .ref (gA G 1001)) dJx4a65c_grow_92f84_14 rfl fs_Jx4a65c_39 rfl ?_
    refine V_acmp_eq (tgt := 45) dJx4a65c_grow_92f84_17 (by decide) (fun _ => ?_) (fun z => absurd rfl z)
    refine V_aload_0 dJx4a65c_grow_92f84_45 ?_
    refine V_bipush (v := 10) dJx4a65c_grow_92f84_46 (by decide) ?_
    refine V_iload_1 dJx4a65c_grow_92f84_48 ?_
    refine V_mmax dJx4a65c_grow_92f84_49 ml_Jx4a65c_79 ex_maxS ex_mth ex_maxC (Nat.le_of_ble_eq_true rfl) (Nat.le_of_ble_eq_true rfl) ?_
    refine V_int (y := 10) (by decide) ?_
    refine V_mkO (g := g) t dJx4a65c_grow_92f84_52 ck_Jx4a65c_7 ex_arrO (by decide) (N := 10) rfl (by decide) (by omega) (by omega) fun q H1 g1 hq e1 z1 => ?_
    have hqa : q ≠ a := fun z => by have := ho.1.lt; omega
    replace ho := ho.fr e1 (by simp)
    refine V_dup_x1 dJx4a65c_grow_92f84_55 rfl rfl ?_
    refine V_putN dJx4a65c_grow_92f84_56 fp_Jx4a65c_grow_92f84_9 ho ht ⟨rfl, rfl⟩ (Nat.le_of_ble_eq_true rfl) rfl fun H2 ho e2 z2 => ?_
    replace hq := hq.ne hqa z2
    exact V_reta dJx4a65c_grow_92f84_59 rfl (Or.inr ⟨_, rfl⟩) (kk q H2 g1 _ ho hq rfl (by simp) ((e1.nil).trans e2))
set_option maxHeartbeats 4000000 in
set_option maxRecDepth 100000 in
theorem c_grow1 {G : GT} {H : Heap} {g : Nat → Nat} {t a : Nat} {X : String → Heap → Prop} {mc : Int32} {b : Nat} {rs : List Nat} (ho : Ob G H g t a 4 [.int mc, .ref b, .int (nI rs.length)]) (hel : elA G H g rs) (hb1 : b ≠ gA G 1001) (hb : ∃ arr : List (Option Nat), Oa G H g t b arr ∧ arr.take rs.length = rs.map some ∧ arr.length = rs.length) (hn : rs.length ≤ 40) (ht : t ≠ 0) {F : Nat → Heap → Prop} (kk : ∀ (q : Nat) (H1 : Heap) (g1 : Nat → Nat) (arr : List (Option Nat)), Ob G H1 g1 t a 4 [.int mc, .ref q, .int (nI rs.length)] → Oa G H1 g1 t q arr → arr.take rs.length = rs.map some → rs.length < arr.length → Ext G [t] H g H1 g1 → F q H1) : Call G kJx4a65c_grow_92f84 4 1 61 [.ref a, .int (nI (rs.length + 1))] H (qa F) X := by
  obtain ⟨arr, hb, hta, hfull⟩ := hb
  refine startL (L0 := [some (.ref a), some (.int (nI (rs.length + 1))), none, none]) rfl rfl pl_Jx4a65c_grow_92f84 (Nat.le_of_ble_eq_true rfl) ?_
  refine V_aload_0 dJx4a65c_grow_92f84_0 ?_
  refine V_getf dJx4a65c_grow_92f84_1 fl_Jx4a65c_9 ho.ro rfl ?_
  refine V_alen (v := nI rs.length) dJx4a65c_grow_92f84_4 hb.ra (by rw [hfull]; rfl) ?_
  refine V_istore_2 dJx4a65c_grow_92f84_5 rfl ?_
  refine V_iload_2 dJx4a65c_grow_92f84_6 ?_
  refine V_if_gt (tgt := 20) dJx4a65c_grow_92f84_7 (by decide) (fun c_7 => ?_) (fun c_7 => ?_)
  · refine V_iload_2 dJx4a65c_grow_92f84_20 ?_
    refine V_iload_1 dJx4a65c_grow_92f84_21 ?_
    refine V_iload_2 dJx4a65c_grow_92f84_22 ?_
    refine V_isub dJx4a65c_grow_92f84_23 ?_
    refine V_iload_2 dJx4a65c_grow_92f84_24 ?_
    refine V_iconst (v := 1) dJx4a65c_grow_92f84_25 rfl ?_
    refine V_ishr dJx4a65c_grow_92f84_26 ?_
    refine V_call_i (runS3 dJx4a65c_grow_92f84_27 ce_J8_newLength_cabcc rfl ml_Jx4a65c_73 st_J8_newLength_cabcc (Nat.le_of_ble_eq_true rfl)) (by omega) (by omega) (by omega) (c_newLength (growN _ (by omega)) (by omega) (by omega) ?_)
    refine V_istore_3 dJx4a65c_grow_92f84_30 rfl ?_
    refine V_aload_0 dJx4a65c_grow_92f84_31 ?_
    refine V_aload_0 dJx4a65c_grow_92f84_32 ?_
    refine V_getf dJx4a65c_grow_92f84_33 fl_Jx4a65c_9 ho.ro rfl ?_
    refine V_iload_3 dJx4a65c_grow_92f84_36 ?_
    refine V_call_a (runS2 dJx4a65c_grow_92f84_37 ce_J7_copyOf_1904c rfl ml_Jx4a65c_66 st_J7_copyOf_1904c (Nat.le_of_ble_eq_true rfl)) (by omega) (by omega) (by omega) (c_copyOf2 (t1 := t) hb hfull (by omega) (by omega) ht (hel.at hta) fun q H1 g1 arr1 hq h1l h1t z1 e1 => ?_)
    have hqa : q ≠ a := fun z => by have := ho.1.lt; omega
    replace ho := ho.fr e1 (by simp)
    refine V_dup_x1 dJx4a65c_grow_92f84_40 rfl rfl ?_
    refine V_putN dJx4a65c_grow_92f84_41 fp_Jx4a65c_grow_92f84_9 ho ht ⟨rfl, rfl⟩ (Nat.le_of_ble_eq_true rfl) rfl fun H2 ho e2 z2 => ?_
    replace hq := hq.ne hqa z2
    exact V_reta dJx4a65c_grow_92f84_44 rfl (Or.inr ⟨_, rfl⟩) (kk q H2 g1 _ ho hq (by rw [h1t, ← hta, ← hfull, List.take_length]) (by omega) ((e1.nil).trans e2))
  · have h0 : rs.length = 0 := by by_cases hz : rs.length = 0; exact hz; exact absurd ((nI_ltI (a := 0) (by decide) (by omega)).mpr (by omega)) c_7
    refine V_aload_0 dJx4a65c_grow_92f84_10 ?_
    refine V_getf dJx4a65c_grow_92f84_11 fl_Jx4a65c_9 ho.ro rfl ?_
    refine V_gets (i := 1) (v := .ref (gA G 1001)) dJx4a65c_grow_92f84_14 rfl fs_Jx4a65c_39 rfl ?_
    refine V_acmp_eq (tgt := 45) dJx4a65c_grow_92f84_17 (by decide) (fun z => absurd z hb1) (fun _ => ?_)
    refine V_iload_2 dJx4a65c_grow_92f84_20 ?_
    refine V_iload_1 dJx4a65c_grow_92f84_21 ?_
    refine V_iload_2 dJx4a65c_grow_92f84_22 ?_
    refine V_isub dJx4a65c_grow_92f84_23 ?_
    refine V_iload_2 dJx4a65c_grow_92f84_24 ?_
    refine V_iconst (v := 1) dJx4a65c_grow_92f84_25 rfl ?_
    refine V_ishr dJx4a65c_grow_92f84_26 ?_
    refine V_call_i (runS3 dJx4a65c_grow_92f84_27 ce_J8_newLength_cabcc rfl ml_Jx4a65c_73 st_J8_newLength_cabcc (Nat.le_of_ble_eq_true rfl)) (by omega) (by omega) (by omega) (c_newLength (growN _ (by omega)) (by omega) (by omega) ?_)
    refine V_istore_3 dJx4a65c_grow_92f84_30 rfl ?_
    refine V_aload_0 dJx4a65c_grow_92f84_31 ?_
    refine V_aload_0 dJx4a65c_grow_92f84_32 ?_
    refine V_getf dJx4a65c_grow_92f84_33 fl_Jx4a65c_9 ho.ro rfl ?_
    refine V_iload_3 dJx4a65c_grow_92f84_36 ?_
    refine V_call_a (runS2 dJx4a65c_grow_92f84_37 ce_J7_copyOf_1904c rfl ml_Jx4a65c_66 st_J7_copyOf_1904c (Nat.le_of_ble_eq_true rfl)) (by omega) (by omega) (by omega) (c_copyOf2 (t1 := t) hb hfull (by omega) (by omega) ht (hel.at hta) fun q H1 g1 arr1 hq h1l h1t z1 e1 => ?_)
    have hqa : q ≠ a := fun z => by have := ho.1.lt; omega
    replace ho := ho.fr e1 (by simp)
    refine V_dup_x1 dJx4a65c_grow_92f84_40 rfl rfl ?_
    refine V_putN dJx4a65c_grow_92f84_41 fp_Jx4a65c_grow_92f84_9 ho ht ⟨rfl, rfl⟩ (Nat.le_of_ble_eq_true rfl) rfl fun H2 ho e2 z2 => ?_
    replace hq := hq.ne hqa z2
    exact V_reta dJx4a65c_grow_92f84_44 rfl (Or.inr ⟨_, rfl⟩) (kk q H2 g1 _ ho hq (by rw [h1t, ← hta, ← hfull, List.take_length]) (by omega) ((e1.nil).trans e2))
theorem Oa.new1 {G : GT} {H : Heap} {g : Nat → Nat} {t b : Nat} {l : List (Option Nat)} (h : Oa G H g t b l) (ht : t ≠ 0) (hOK : OK G) : b ≠ gA G 1001 := fun z => by
  have h1 := hOK.2.2.2.2.1.2.2.1.lt
  have h2 : gF G b := tg_pos (h.2 ▸ ht)
  subst z
  exact absurd (Nat.lt_of_lt_of_le h1 h2) (Nat.lt_irrefl _)
set_option maxHeartbeats 4000000 in
set_option maxRecDepth 100000 in
theorem c_grow {G : GT} {H : Heap} {g : Nat → Nat} {t a : Nat} {X : String → Heap → Prop} {mc : Int32} {b : Nat} {rs : List Nat} (ho : Ob G H g t a 4 [.int mc, .ref b, .int (nI rs.length)]) (hel : elA G H g rs) (hb : (b = gA G 1001 ∧ rs = []) ∨ ∃ arr : List (Option Nat), Oa G H g t b arr ∧ arr.take rs.length = rs.map some ∧ arr.length = rs.length) (hn : rs.length ≤ 40) (ht : t ≠ 0) {F : Nat → Heap → Prop} (kk : ∀ (q : Nat) (H1 : Heap) (g1 : Nat → Nat) (arr : List (Option Nat)), Ob G H1 g1 t a 4 [.int mc, .ref q, .int (nI rs.length)] → Oa G H1 g1 t q arr → arr.take rs.length = rs.map some → rs.length < arr.length → Ext G [t] H g H1 g1 → F q H1) : Call G kJx4a65c_grow_d5877 5 1 61 [.ref a] H (qa F) X := by
  refine startL (L0 := [some (.ref a)]) rfl rfl pl_Jx4a65c_grow_d5877 (Nat.le_of_ble_eq_true rfl) ?_
  refine V_aload_0 dJx4a65c_grow_d5877_0 ?_
  refine V_aload_0 dJx4a65c_grow_d5877_1 ?_
  refine V_getf dJx4a65c_grow_d5877_2 fl_Jx4a65c_48 ho.ro rfl ?_
  refine V_iconst (v := 1) dJx4a65c_grow_d5877_5 rfl ?_
  refine V_iadd dJx4a65c_grow_d5877_6 ?_
  refine V_int (y := nI (rs.length + 1)) (nI_1 _) ?_
  refine V_old fun hOK hS => ?_
  rcases hb with hb | ⟨arr, hb, h1, h2⟩
  · refine V_call_a (runV1 dJx4a65c_grow_d5877_7 ce_Jx4a65c_grow_92f84 rfl ml_Jx4a65c_69 im_Jx4a65c_grow_92f84 se_Jx4a65c_grow_92f84 ho.ro ⟨_, rfl, rfl⟩ (Nat.le_of_ble_eq_true rfl)) (by omega) (by omega) (by omega) (c_grow0 ho hb ht fun q H1 g1 arr1 h1 h2 h3 h4 h5 => ?_)
    exact V_reta dJx4a65c_grow_d5877_10 rfl (Or.inr ⟨_, rfl⟩) (kk q H1 g1 arr1 h1 h2 h3 h4 h5)
  · refine V_call_a (runV1 dJx4a65c_grow_d5877_7 ce_Jx4a65c_grow_92f84 rfl ml_Jx4a65c_69 im_Jx4a65c_grow_92f84 se_Jx4a65c_grow_92f84 ho.ro ⟨_, rfl, rfl⟩ (Nat.le_of_ble_eq_true rfl)) (by omega) (by omega) (by omega) (c_grow1 ho hel (hb.new1 ht hOK) ⟨arr, hb, h1, h2⟩ hn ht fun q H1 g1 arr1 h1 h2 h3 h4 h5 => ?_)
    exact V_reta dJx4a65c_grow_d5877_10 rfl (Or.inr ⟨_, rfl⟩) (kk q H1 g1 arr1 h1 h2 h3 h4 h5)
set_option maxHeartbeats 4000000 in
set_option maxRecDepth 100000 in
theorem c_aladd3 {G : GT} {H : Heap} {g : Nat → Nat} {t a : Nat} {X : String → Heap → Prop} {r : Nat} {mc : Int32} {b : Nat} {rs : List Nat} (ho : Ob G H g t a 4 [.int mc, .ref b, .int (nI rs.length)]) (hel : elA G H g rs) (hb : ALb G H g t b rs) (hn : rs.length ≤ 40) (hr : elO G H r ∧ tg G g r = 0) (ht : t ≠ 0) {F : Heap → Prop} (kk : ∀ (H1 : Heap) (g1 : Nat → Nat), AL G H1 g1 t a (rs ++ [r]) → Ext G [t] H g H1 g1 → F H1) : Call G kJx4a65c_add_72be8 6 1 61 [.ref a, .ref r, .ref b, .int (nI rs.length)] H (qv F) X := by
  refine startL (L0 := [some (.ref a), some (.ref r), some (.ref b), some (.int (nI rs.length))]) rfl rfl pl_Jx4a65c_add_72be8 (Nat.le_of_ble_eq_true rfl) ?_
  refine V_iload_3 dJx4a65c_add_72be8_0 ?_
  refine V_aload_2 dJx4a65c_add_72be8_1 ?_
  refine V_old fun hOK hS => ?_
  have hal : (b = gA G 1001 ∧ rs = []) ∨ ∃ arr : List (Option Nat), Oa G H g t b arr ∧ arr.take rs.length = rs.map some ∧ rs.length ≤ arr.length := hb
  rcases hal with ⟨hb0, hrs⟩ | ⟨arr, hb, hta, hle⟩
  · subst hb0
    refine V_alen (v := 0) dJx4a65c_add_72be8_2 (hOK.2.2.2.2.1.2.2.1.old hS) rfl ?_
    refine V_icmp_ne (tgt := 11) dJx4a65c_add_72be8_3 (by decide) (fun z => absurd (by subst hrs; rfl) z) (fun _ => ?_)
    refine V_aload_0 dJx4a65c_add_72be8_6 ?_
    refine V_call_a (runV0 dJx4a65c_add_72be8_7 ce_Jx4a65c_grow_d5877 rfl ml_Jx4a65c_129 im_Jx4a65c_grow_d5877 se_Jx4a65c_grow_d5877 ho.ro ⟨_, rfl, rfl⟩ (Nat.le_of_ble_eq_true rfl)) (by omega) (by omega) (by omega) (c_grow ho hel (Or.inl ⟨rfl, hrs⟩) hn ht fun q H1 g1 arr1 ho hq hta hroom e1 => ?_)
    have E : Ext G [t] H g H1 g1 := e1
    have hqa : q ≠ a := ho.1.ne_oa (i := 0) hq (Nat.le_of_ble_eq_true rfl) rfl ⟨_, rfl, by decide⟩
    replace hr := hr.1.fr hr.2 e1 (n1 (by omega))
    replace hel := hel.fr e1 (n1 (by omega))
    have hb := hq
    refine V_astore_2 dJx4a65c_add_72be8_10 rfl ?_
    refine V_aload_2 dJx4a65c_add_72be8_11 ?_
    refine V_iload_3 dJx4a65c_add_72be8_12 ?_
    refine V_aload_1 dJx4a65c_add_72be8_13 ?_
    refine V_oas2 dJx4a65c_add_72be8_14 hb ht (vp_in_nI hroom (by have := hb.1.2; omega)) (hr.1) fun H2 hb e2 z2 => ?_
    rw [nI_clamp (by omega)] at hb
    replace ho := ho.ne hqa.symm z2
    have hr2 := hr.1.fr hr.2 e2 (n1 (by omega))
    replace hel := hel.fr e2 (n1 (by omega))
    refine V_aload_0 dJx4a65c_add_72be8_15 ?_
    refine V_iload_3 dJx4a65c_add_72be8_16 ?_
    refine V_iconst (v := 1) dJx4a65c_add_72be8_17 rfl ?_
    refine V_iadd dJx4a65c_add_72be8_18 ?_
    refine V_int (y := nI (rs ++ [r]).length) (by rw [List.length_append]; exact nI_1 _) ?_
    refine V_putN dJx4a65c_add_72be8_19 fp_Jx4a65c_add_72be8_48 ho ht ⟨rfl, rfl⟩ (Nat.le_of_ble_eq_true rfl) rfl fun H3 ho e3 z3 => ?_
    replace hb := hb.ne hqa z3
    replace hel := hel.fr e3 (n1 (by omega))
    replace hr2 := hr2.1.fr hr2.2 e3 (n1 (by omega))
    exact V_retv dJx4a65c_add_72be8_22 rfl (kk H3 _ ⟨_, mc, ho, Or.inr ⟨_, hb, take_set_rs hta hroom, by rw [List.length_set, List.length_append]; exact hroom⟩, by rw [List.length_append, List.length_singleton]; omega, fun y hy => (List.mem_append.mp hy).elim (fun z => hel y z) (fun z => (List.mem_singleton.mp z) ▸ hr2)⟩ ((E.trans e2).trans e3))
  · refine V_alen (v := nI arr.length) dJx4a65c_add_72be8_2 hb.ra rfl ?_
    refine V_icmp_ne (tgt := 11) dJx4a65c_add_72be8_3 (by decide) (fun c_3 => ?_) (fun c_3 => ?_)
    · have hroom : rs.length < arr.length := by rcases Nat.lt_or_ge rs.length arr.length with q | q; exact q; exact absurd (congrArg nI (Nat.le_antisymm hle q)) c_3
      have E : Ext G [t] H g H g := Ext.rf
      have hqa : b ≠ a := ho.1.ne_oa (i := 0) hb (Nat.le_of_ble_eq_true rfl) rfl ⟨_, rfl, by decide⟩
      refine V_aload_2 dJx4a65c_add_72be8_11 ?_
      refine V_iload_3 dJx4a65c_add_72be8_12 ?_
      refine V_aload_1 dJx4a65c_add_72be8_13 ?_
      refine V_oas2 dJx4a65c_add_72be8_14 hb ht (vp_in_nI hroom (by have := hb.1.2; omega)) (hr.1) fun H2 hb e2 z2 => ?_
      rw [nI_clamp (by omega)] at hb
      replace ho := ho.ne hqa.symm z2
      have hr2 := hr.1.fr hr.2 e2 (n1 (by omega))
      replace hel := hel.fr e2 (n1 (by omega))
      refine V_aload_0 dJx4a65c_add_72be8_15 ?_
      refine V_iload_3 dJx4a65c_add_72be8_16 ?_
      refine V_iconst (v := 1) dJx4a65c_add_72be8_17 rfl ?_
      refine V_iadd dJx4a65c_add_72be8_18 ?_
      refine V_int (y := nI (rs ++ [r]).length) (by rw [List.length_append]; exact nI_1 _) ?_
      refine V_putN dJx4a65c_add_72be8_19 fp_Jx4a65c_add_72be8_48 ho ht ⟨rfl, rfl⟩ (Nat.le_of_ble_eq_true rfl) rfl fun H3 ho e3 z3 => ?_
      replace hb := hb.ne hqa z3
      replace hel := hel.fr e3 (n1 (by omega))
      replace hr2 := hr2.1.fr hr2.2 e3 (n1 (by omega))
      exact V_retv dJx4a65c_add_72be8_22 rfl (kk H3 _ ⟨_, mc, ho, Or.inr ⟨_, hb, take_set_rs hta hroom, by rw [List.length_set, List.length_append]; exact hroom⟩, by rw [List.length_append, List.length_singleton]; omega, fun y hy => (List.mem_append.mp hy).elim (fun z => hel y z) (fun z => (List.mem_singleton.mp z) ▸ hr2)⟩ ((E.trans e2).trans e3))
    · have hful : arr.length = rs.length := ((nI_eq (by omega) (by have := hb.1.2; omega)).mp c_3).symm
      refine V_aload_0 dJx4a65c_add_72be8_6 ?_
      refine V_call_a (runV0 dJx4a65c_add_72be8_7 ce_Jx4a65c_grow_d5877 rfl ml_Jx4a65c_129 im_Jx4a65c_grow_d5877 se_Jx4a65c_grow_d5877 ho.ro ⟨_, rfl, rfl⟩ (Nat.le_of_ble_eq_true rfl)) (by omega) (by omega) (by omega) (c_grow ho hel (Or.inr ⟨arr, hb, hta, hful⟩) hn ht fun q H1 g1 arr1 ho hq hta hroom e1 => ?_)
      have E : Ext G [t] H g H1 g1 := e1
      have hqa : q ≠ a := ho.1.ne_oa (i := 0) hq (Nat.le_of_ble_eq_true rfl) rfl ⟨_, rfl, by decide⟩
      replace hr := hr.1.fr hr.2 e1 (n1 (by omega))
      replace hel := hel.fr e1 (n1 (by omega))
      have hb := hq
      refine V_astore_2 dJx4a65c_add_72be8_10 rfl ?_
      refine V_aload_2 dJx4a65c_add_72be8_11 ?_
      refine V_iload_3 dJx4a65c_add_72be8_12 ?_
      refine V_aload_1 dJx4a65c_add_72be8_13 ?_
      refine V_oas2 dJx4a65c_add_72be8_14 hb ht (vp_in_nI hroom (by have := hb.1.2; omega)) (hr.1) fun H2 hb e2 z2 => ?_
      rw [nI_clamp (by omega)] at hb
      replace ho := ho.ne hqa.symm z2
      have hr2 := hr.1.fr hr.2 e2 (n1 (by omega))
      replace hel := hel.fr e2 (n1 (by omega))
      refine V_aload_0 dJx4a65c_add_72be8_15 ?_
      refine V_iload_3 dJx4a65c_add_72be8_16 ?_
      refine V_iconst (v := 1) dJx4a65c_add_72be8_17 rfl ?_
      refine V_iadd dJx4a65c_add_72be8_18 ?_
      refine V_int (y := nI (rs ++ [r]).length) (by rw [List.length_append]; exact nI_1 _) ?_
      refine V_putN dJx4a65c_add_72be8_19 fp_Jx4a65c_add_72be8_48 ho ht ⟨rfl, rfl⟩ (Nat.le_of_ble_eq_true rfl) rfl fun H3 ho e3 z3 => ?_
      replace hb := hb.ne hqa z3
      replace hel := hel.fr e3 (n1 (by omega))
      replace hr2 := hr2.1.fr hr2.2 e3 (n1 (by omega))
      exact V_retv dJx4a65c_add_72be8_22 rfl (kk H3 _ ⟨_, mc, ho, Or.inr ⟨_, hb, take_set_rs hta hroom, by rw [List.length_set, List.length_append]; exact hroom⟩, by rw [List.length_append, List.length_singleton]; omega, fun y hy => (List.mem_append.mp hy).elim (fun z => hel y z) (fun z => (List.mem_singleton.mp z) ▸ hr2)⟩ ((E.trans e2).trans e3))
theorem ALb.near {G : GT} {H H1 : Heap} {g : Nat → Nat} {t a b : Nat} {rs : List Nat} {mc : Int32} {v1 v2 : Value} (h : ALb G H g t b rs) (ho : Ob G H g t a 4 [.int mc, v1, v2]) (hz : ∀ q : Nat, q ≠ a → H1[q]? = H[q]?) : ALb G H1 g t b rs := by
  rcases h with h | ⟨arr, h1, h2⟩
  · exact Or.inl h
  · exact Or.inr ⟨arr, h1.ne (ho.1.ne_oa (i := 0) h1 (Nat.le_of_ble_eq_true rfl) rfl ⟨_, rfl, by decide⟩) hz, h2⟩
set_option maxHeartbeats 4000000 in
set_option maxRecDepth 100000 in
theorem c_aladd {G : GT} {H : Heap} {g : Nat → Nat} {t a : Nat} {X : String → Heap → Prop} {r : Nat} {rs : List Nat} (h : AL G H g t a rs) (hn : rs.length ≤ 40) (hr : elO G H r ∧ tg G g r = 0) (ht : t ≠ 0) {F : Int32 → Heap → Prop} (kk : ∀ (H1 : Heap) (g1 : Nat → Nat), AL G H1 g1 t a (rs ++ [r]) → Ext G [t] H g H1 g1 → F 1 H1) : Call G kJx4a65c_add_9ea2d 7 1 61 [.ref a, .ref r] H (qi F) X := by
  obtain ⟨b, mc, ho, hb, hlen, hel⟩ := h
  refine startL (L0 := [some (.ref a), some (.ref r)]) rfl rfl pl_Jx4a65c_add_9ea2d (Nat.le_of_ble_eq_true rfl) ?_
  refine V_aload_0 dJx4a65c_add_9ea2d_0 ?_
  refine V_dup dJx4a65c_add_9ea2d_1 rfl ?_
  refine V_getf dJx4a65c_add_9ea2d_2 fl_Jx4a65c_63 ho.ro rfl ?_
  refine V_iconst (v := 1) dJx4a65c_add_9ea2d_5 rfl ?_
  refine V_iadd dJx4a65c_add_9ea2d_6 ?_
  refine V_putN dJx4a65c_add_9ea2d_7 fp_Jx4a65c_add_9ea2d_63 ho ht ⟨rfl, rfl⟩ (Nat.le_of_ble_eq_true rfl) rfl fun H1 ho1 e1 z1 => ?_
  replace hb := hb.near ho z1
  replace ho := ho1
  clear ho1
  replace hel : elA G H1 g rs := elA.fr hel e1 (n1 (by omega))
  replace hr := hr.1.fr hr.2 e1 (n1 (by omega))
  refine V_aload_0 dJx4a65c_add_9ea2d_10 ?_
  refine V_aload_1 dJx4a65c_add_9ea2d_11 ?_
  refine V_aload_0 dJx4a65c_add_9ea2d_12 ?_
  refine V_getf dJx4a65c_add_9ea2d_13 fl_Jx4a65c_9 ho.ro rfl ?_
  refine V_aload_0 dJx4a65c_add_9ea2d_16 ?_
  refine V_getf dJx4a65c_add_9ea2d_17 fl_Jx4a65c_48 ho.ro rfl ?_
  refine V_call_v (runV3 dJx4a65c_add_9ea2d_20 ce_Jx4a65c_add_72be8 rfl ml_Jx4a65c_131 im_Jx4a65c_add_72be8 se_Jx4a65c_add_72be8 ho.ro ⟨_, rfl, rfl⟩ (Nat.le_of_ble_eq_true rfl)) (by omega) (by omega) (by omega) (c_aladd3 ho hel hb hn hr ht fun H2 g2 hal e2 => ?_)
  refine V_iconst (v := 1) dJx4a65c_add_9ea2d_23 rfl ?_
  exact V_retb true dJx4a65c_add_9ea2d_24 rfl rfl (kk H2 g2 hal (e1.trans e2))
theorem take_set2 {arr : List (Option Nat)} {rs : List Nat} {r j : Nat} (h : arr.take rs.length = rs.map some) (hj : j < rs.length) : (arr.set j (some r)).take (rs.set j r).length = (rs.set j r).map some := by
  rw [List.length_set, List.take_set, h, List.map_set]
set_option maxHeartbeats 4000000 in
set_option maxRecDepth 100000 in
theorem c_alset {G : GT} {H : Heap} {g : Nat → Nat} {t a : Nat} {X : String → Heap → Prop} {r x j : Nat} {rs : List Nat} (h : AL G H g t a rs) (hj : rs[j]? = some x) (hr : elO G H r ∧ tg G g r = 0) (ht : t ≠ 0) {F : Nat → Heap → Prop} (kk : ∀ (H1 : Heap) (g1 : Nat → Nat), AL G H1 g1 t a (rs.set j r) → Ext G [t] H g H1 g1 → F x H1) : Call G kJx4a65c_set_bcc79 3 0 0 [.ref a, .int (nI j), .ref r] H (qa F) X := by
  have h0 := h
  obtain ⟨b, mc, ho, hb, hlen, hel⟩ := h
  have hl : j < rs.length := (List.getElem?_eq_some_iff.mp hj).1
  refine startL (L0 := [some (.ref a), some (.int (nI j)), some (.ref r), none]) rfl rfl pl_Jx4a65c_set_bcc79 (Nat.le_of_ble_eq_true rfl) ?_
  refine V_iload_1 dJx4a65c_set_bcc79_0 ?_
  refine V_aload_0 dJx4a65c_set_bcc79_1 ?_
  refine V_getf dJx4a65c_set_bcc79_2 fl_Jx4a65c_48 ho.ro rfl ?_
  refine V_call_i (runS2 dJx4a65c_set_bcc79_5 ce_J15_checkIndex_7cf53 rfl ml_Jx4a65c_118 st_J15_checkIndex_7cf53 (Nat.le_of_ble_eq_true rfl)) (by omega) (by omega) (by omega) (c_checkIndex2 hl (by omega) ?_)
  refine V_pop dJx4a65c_set_bcc79_8 rfl ?_
  refine V_aload_0 dJx4a65c_set_bcc79_9 ?_
  refine V_iload_1 dJx4a65c_set_bcc79_10 ?_
  refine V_call_a (runV1 dJx4a65c_set_bcc79_11 ce_Jx4a65c_elementData_915e3 rfl ml_Jx4a65c_123 im_Jx4a65c_elementData_915e3 se_Jx4a65c_elementData_915e3 ho.ro ⟨_, rfl, rfl⟩ (Nat.le_of_ble_eq_true rfl)) (by omega) (by omega) (by omega) (c_alelem h0 hj ?_)
  refine V_astore_3 dJx4a65c_set_bcc79_14 rfl ?_
  refine V_aload_0 dJx4a65c_set_bcc79_15 ?_
  refine V_getf dJx4a65c_set_bcc79_16 fl_Jx4a65c_9 ho.ro rfl ?_
  refine V_iload_1 dJx4a65c_set_bcc79_19 ?_
  refine V_aload_2 dJx4a65c_set_bcc79_20 ?_
  obtain ⟨arr, hb, h1, h2⟩ : ∃ arr : List (Option Nat), Oa G H g t b arr ∧ arr.take rs.length = rs.map some ∧ rs.length ≤ arr.length := hb.elim (fun z => absurd hl (by rw [z.2]; exact Nat.not_lt_zero _)) id
  refine V_oas2 dJx4a65c_set_bcc79_21 hb ht (vp_in_nI (Nat.lt_of_lt_of_le hl h2) (by have := hb.1.2; omega)) hr.1 fun H2 hb2 e2 z2 => ?_
  rw [nI_clamp (by omega)] at hb2
  have hqa : b ≠ a := ho.1.ne_oa (i := 0) hb (Nat.le_of_ble_eq_true rfl) rfl ⟨_, rfl, by decide⟩
  replace ho := ho.ne hqa.symm z2
  replace hr := hr.1.fr hr.2 e2 (n1 (by omega))
  replace hel : elA G H2 g rs := elA.fr hel e2 (n1 (by omega))
  refine V_aload_3 dJx4a65c_set_bcc79_22 ?_
  refine V_reta dJx4a65c_set_bcc79_23 rfl (Or.inl ⟨_, rfl⟩) (kk H2 g ⟨b, mc, by rw [List.length_set]; exact ho, Or.inr ⟨_, hb2, take_set2 h1 hl, by rw [List.length_set, List.length_set]; exact h2⟩, by rw [List.length_set]; exact hlen, fun y hy => ?_⟩ e2)
  rcases List.mem_or_eq_of_mem_set hy with z | z
  · exact hel y z
  · exact z ▸ hr
theorem getD_rs {arr : List (Option Nat)} {rs : List Nat} {i : Nat} (h : arr.take rs.length = rs.map some) (hi : i < rs.length) : arr[i]? = rs[i]?.map some := by
  have h3 : (arr.take rs.length)[i]? = (rs.map some)[i]? := by rw [h]
  rwa [List.getElem?_take, if_pos hi, List.getElem?_map] at h3
theorem take_erase {arr : List (Option Nat)} {rs : List Nat} {j : Nat} (h : arr.take rs.length = rs.map some) (hle : rs.length ≤ arr.length) (hj : j < rs.length) : ((layO arr arr (j + 1) j (rs.length - 1 - j)).set (rs.length - 1) none).take (rs.eraseIdx j).length = (rs.eraseIdx j).map some := by
  have hlen : (rs.eraseIdx j).length = rs.length - 1 := by rw [List.length_eraseIdx, if_pos hj]
  rw [hlen]
  apply List.ext_getElem?
  intro i
  rw [List.getElem?_map, List.getElem?_eraseIdx, List.getElem?_take]
  by_cases hi : i < rs.length - 1
  · rw [if_pos hi, List.getElem?_set, if_neg (by omega)]
    unfold layO
    rw [List.getElem?_map, List.getElem?_range (by omega), Option.map_some]
    by_cases h1 : i < j
    · rw [if_pos h1, if_neg (by omega), List.getD_eq_getElem?_getD, getD_rs h (by omega), List.getElem?_eq_getElem (by omega)]
      rfl
    · rw [if_neg h1, if_pos (by omega), List.getD_eq_getElem?_getD, show j + 1 + (i - j) = i + 1 by omega, getD_rs h (by omega), List.getElem?_eq_getElem (by omega)]
      rfl
  · rw [if_neg hi]
    split
    · omega
    · rw [List.getElem?_eq_none (by omega)]; rfl
theorem take_last {arr : List (Option Nat)} {rs : List Nat} {j : Nat} (h : arr.take rs.length = rs.map some) (hj : j + 1 = rs.length) : (arr.set j none).take (rs.eraseIdx j).length = (rs.eraseIdx j).map some := by
  have hlen : (rs.eraseIdx j).length = j := by rw [List.length_eraseIdx, if_pos (by omega)]; omega
  rw [hlen]
  apply List.ext_getElem?
  intro i
  rw [List.getElem?_map, List.getElem?_eraseIdx, List.getElem?_take]
  by_cases hi : i < j
  · rw [if_pos hi, if_pos hi, List.getElem?_set, if_neg (by omega), getD_rs h (by omega)]
  · rw [if_neg hi, if_neg hi, List.getElem?_eq_none (by omega)]; rfl
theorem V_oasN2 {G : GT} {K : MT} {d c s : Nat} {Q : Option Value → Heap → Prop} {X : String → Heap → Prop} {H : Heap} {L : List (Option Value)} {rest : List Value} {pc : Nat} {g : Nat → Nat} {t a : Nat} {l : List (Option Nat)} {i : Int32} (hd : decode K.2.1 pc = .ok (.aastore, 1)) (h : Oa G H g t a l) (ht : t ≠ 0) (hi : vp_in i l.length)
    (kk : ∀ H1 : Heap, Oa G H1 g t a (l.set i.toNatClampNeg none) → Ext G [t] H g H1 g → (∀ q : Nat, q ≠ a → H1[q]? = H[q]?) → H1.size = H.size → V G K d c s Q X (pc + 1) L rest H1) : V G K d c s Q X pc L (.null :: .int i :: .ref a :: rest) H := by
  intro p e R st m args below meth co ls locs ce sl hC hl hS hc hs
  have hw := tg_pos (h.2 ▸ ht : tg G g a ≠ 0)
  refine va_WaastN hC.1 hC.2.1 h.1.1.1 (State.isArrayOf_alike hC.ku.2.1.alike (h.1.1.2 l.length (fun j => va_rf (l.getD j none)))) (fun q => by cases q) (by show ¬ (i < 0 ∨ (arrV _ _ _).slots.size ≤ _); rw [arrV_size]; exact hi) rfl rfl hd fun H1 e1 z oq => ?_
  refine kk H1 ⟨⟨⟨?_, h.1.1.2⟩, by rw [List.length_set]; exact h.1.2⟩, h.2⟩ (Ext.put z oq (h.2 ▸ List.mem_singleton.mpr rfl)) oq z p e R st m args below meth co ls _ ce sl hC hl (hS.put z oq hw) hc hs
  rw [e1, ← oa_set (x := none) (vp_in_lt hi)]
  show some ((vp_cell _ (_, .inr (.inr (.inr (.inr _))))).setSlot _ _) = _
  rw [vp_cell_q, arrV_store]
  rfl
theorem nI_sub {a b : Nat} (h : b ≤ a) : nI a - nI b = nI (a - b) := by
  obtain ⟨k, rfl⟩ := Nat.exists_eq_add_of_le h
  rw [← nI_add, Nat.add_sub_cancel_left, Int32.add_comm, Int32.add_sub_cancel]
set_option maxHeartbeats 4000000 in
set_option maxRecDepth 100000 in
theorem c_fastRemove {G : GT} {H : Heap} {g : Nat → Nat} {t a : Nat} {X : String → Heap → Prop} {j : Nat} {mc : Int32} {b : Nat} {rs : List Nat} (ho : Ob G H g t a 4 [.int mc, .ref b, .int (nI rs.length)]) (hel : elA G H g rs) (hb : ALb G H g t b rs) (hlen : rs.length < 2 ^ 18) (hj : j < rs.length) (ht : t ≠ 0) {F : Heap → Prop} (kk : ∀ H1 : Heap, AL G H1 g t a (rs.eraseIdx j) → Ext G [t] H g H1 g → F H1) : Call G kJx4a65c_fastRemove_b59b0 2 0 0 [.ref a, .ref b, .int (nI j)] H (qv F) X := by
  refine startL (L0 := [some (.ref a), some (.ref b), some (.int (nI j)), none]) rfl rfl pl_Jx4a65c_fastRemove_b59b0 (Nat.le_of_ble_eq_true rfl) ?_
  refine V_aload_0 dJx4a65c_fastRemove_b59b0_0 ?_
  refine V_dup dJx4a65c_fastRemove_b59b0_1 rfl ?_
  refine V_getf dJx4a65c_fastRemove_b59b0_2 fl_Jx4a65c_63 ho.ro rfl ?_
  refine V_iconst (v := 1) dJx4a65c_fastRemove_b59b0_5 rfl ?_
  refine V_iadd dJx4a65c_fastRemove_b59b0_6 ?_
  refine V_putN dJx4a65c_fastRemove_b59b0_7 fp_Jx4a65c_fastRemove_b59b0_63 ho ht ⟨rfl, rfl⟩ (Nat.le_of_ble_eq_true rfl) rfl fun H1 ho1 e1 z1 => ?_
  replace hb := hb.near ho z1
  replace ho := ho1
  clear ho1
  replace hel : elA G H1 g rs := elA.fr hel e1 (n1 (by omega))
  refine V_aload_0 dJx4a65c_fastRemove_b59b0_10 ?_
  refine V_getf dJx4a65c_fastRemove_b59b0_11 fl_Jx4a65c_48 ho.ro rfl ?_
  refine V_iconst (v := 1) dJx4a65c_fastRemove_b59b0_14 rfl ?_
  refine V_isub dJx4a65c_fastRemove_b59b0_15 ?_
  refine V_int (y := nI (rs.length - 1)) (nI_sub (b := 1) (by omega)) ?_
  refine V_dup dJx4a65c_fastRemove_b59b0_16 rfl ?_
  refine V_istore_3 dJx4a65c_fastRemove_b59b0_17 rfl ?_
  refine V_iload_2 dJx4a65c_fastRemove_b59b0_18 ?_
  obtain ⟨arr, hb, h1, h2⟩ : ∃ arr : List (Option Nat), Oa G H1 g t b arr ∧ arr.take rs.length = rs.map some ∧ rs.length ≤ arr.length := hb.elim (fun z => absurd hj (by rw [z.2]; exact Nat.not_lt_zero _)) id
  have hqa : b ≠ a := ho.1.ne_oa (i := 0) hb (Nat.le_of_ble_eq_true rfl) rfl ⟨_, rfl, by decide⟩
  have hal := hb.1.2
  refine V_icmp_le (tgt := 34) dJx4a65c_fastRemove_b59b0_19 (by decide) (fun c_19 => ?_) (fun c_19 => ?_)
  · have hjl : j + 1 = rs.length := by rcases Nat.lt_or_ge j (rs.length - 1) with q | q; exact absurd c_19 (nI_ge q (by omega)); omega
    refine V_aload_1 dJx4a65c_fastRemove_b59b0_34 ?_
    refine V_aload_0 dJx4a65c_fastRemove_b59b0_35 ?_
    refine V_iload_3 dJx4a65c_fastRemove_b59b0_36 ?_
    refine V_dup_x1 dJx4a65c_fastRemove_b59b0_37 rfl rfl ?_
    refine V_putN dJx4a65c_fastRemove_b59b0_38 fp_Jx4a65c_fastRemove_b59b0_48 ho ht ⟨rfl, rfl⟩ (Nat.le_of_ble_eq_true rfl) rfl fun H3 ho e3 z3 => ?_
    replace hb := hb.ne hqa z3
    replace hel := hel.fr e3 (n1 (by omega))
    refine V_null dJx4a65c_fastRemove_b59b0_41 ?_
    refine V_oasN2 dJx4a65c_fastRemove_b59b0_42 hb ht (vp_in_nI (by omega) (by first | omega | (rw [layO_len]; omega))) fun H4 hb e4 z4 _ => ?_
    rw [nI_clamp (by omega)] at hb
    replace ho := ho.ne hqa.symm z4
    replace hel : elA G H4 g rs := elA.fr hel e4 (n1 (by omega))
    have hlen : (rs.eraseIdx j).length = rs.length - 1 := by rw [List.length_eraseIdx, if_pos hj]
    exact V_retv dJx4a65c_fastRemove_b59b0_43 rfl (kk H4 ⟨b, _, by rw [hlen]; exact ho, Or.inr ⟨_, hb, by rw [show rs.length - 1 = j by omega]; exact take_last h1 hjl, by rw [List.length_set]; omega⟩, by omega, fun y hy => hel y (List.mem_of_mem_eraseIdx hy)⟩ ((e1.trans e3).trans e4))
  · have hjl : j < rs.length - 1 := by rcases Nat.lt_or_ge j (rs.length - 1) with q | q; exact q; exact absurd (nI_le q (by omega)) c_19
    refine V_aload_1 dJx4a65c_fastRemove_b59b0_22 ?_
    refine V_iload_2 dJx4a65c_fastRemove_b59b0_23 ?_
    refine V_iconst (v := 1) dJx4a65c_fastRemove_b59b0_24 rfl ?_
    refine V_iadd dJx4a65c_fastRemove_b59b0_25 ?_
    refine V_int (y := nI (j + 1)) (nI_1 _) ?_
    refine V_aload_1 dJx4a65c_fastRemove_b59b0_26 ?_
    refine V_iload_2 dJx4a65c_fastRemove_b59b0_27 ?_
    refine V_iload_3 dJx4a65c_fastRemove_b59b0_28 ?_
    refine V_iload_2 dJx4a65c_fastRemove_b59b0_29 ?_
    refine V_isub dJx4a65c_fastRemove_b59b0_30 ?_
    refine V_int (y := nI (rs.length - 1 - j)) (nI_sub (by omega)) ?_
    refine V_cpO2 dJx4a65c_fastRemove_b59b0_31 ml_Jx4a65c_112 ex_acN ex_acS ex_sys (by omega) (Nat.le_of_ble_eq_true rfl) hb.ra hb ht (nI_pos (by omega)) (nI_pos (by omega)) (nI_pos (by omega)) (by rw [nI_clamp (by omega), nI_clamp (by omega)]; omega) (by rw [nI_clamp (by omega), nI_clamp (by omega)]; omega) (fun i y hi hy => ?_) fun H2 hb o2 z2 => ?_
    · rw [nI_clamp (by omega)] at hi hy; exact elA.at hel h1 _ y (by omega) hy
    rw [nI_clamp (by omega), nI_clamp (by omega), nI_clamp (by omega)] at hb
    have e2 : Ext G [t] H1 g H2 g := Ext.put z2 o2 (hb.2 ▸ List.mem_singleton.mpr rfl)
    replace ho := ho.ne hqa.symm o2
    replace hel := hel.fr e2 (n1 (by omega))
    refine V_aload_1 dJx4a65c_fastRemove_b59b0_34 ?_
    refine V_aload_0 dJx4a65c_fastRemove_b59b0_35 ?_
    refine V_iload_3 dJx4a65c_fastRemove_b59b0_36 ?_
    refine V_dup_x1 dJx4a65c_fastRemove_b59b0_37 rfl rfl ?_
    refine V_putN dJx4a65c_fastRemove_b59b0_38 fp_Jx4a65c_fastRemove_b59b0_48 ho ht ⟨rfl, rfl⟩ (Nat.le_of_ble_eq_true rfl) rfl fun H3 ho e3 z3 => ?_
    replace hb := hb.ne hqa z3
    replace hel := hel.fr e3 (n1 (by omega))
    refine V_null dJx4a65c_fastRemove_b59b0_41 ?_
    refine V_oasN2 dJx4a65c_fastRemove_b59b0_42 hb ht (vp_in_nI (by rw [layO_len]; omega) (by first | omega | (rw [layO_len]; omega))) fun H4 hb e4 z4 _ => ?_
    rw [nI_clamp (by omega)] at hb
    replace ho := ho.ne hqa.symm z4
    replace hel : elA G H4 g rs := elA.fr hel e4 (n1 (by omega))
    have hlen : (rs.eraseIdx j).length = rs.length - 1 := by rw [List.length_eraseIdx, if_pos hj]
    exact V_retv dJx4a65c_fastRemove_b59b0_43 rfl (kk H4 ⟨b, _, by rw [hlen]; exact ho, Or.inr ⟨_, hb, take_erase h1 h2 hj, by rw [List.length_set, layO_len]; omega⟩, by omega, fun y hy => hel y (List.mem_of_mem_eraseIdx hy)⟩ (((e1.trans e2).trans e3).trans e4))
set_option maxHeartbeats 4000000 in
set_option maxRecDepth 100000 in
theorem c_alremove {G : GT} {H : Heap} {g : Nat → Nat} {t a : Nat} {X : String → Heap → Prop} {x j : Nat} {rs : List Nat} (h : AL G H g t a rs) (hj : rs[j]? = some x) (ht : t ≠ 0) {F : Nat → Heap → Prop} (kk : ∀ H1 : Heap, AL G H1 g t a (rs.eraseIdx j) → Ext G [t] H g H1 g → F x H1) : Call G kJx4a65c_remove_915e3 3 0 0 [.ref a, .int (nI j)] H (qa F) X := by
  have h0 := h
  obtain ⟨b, mc, ho, hb, hlen, hel⟩ := h
  have hl : j < rs.length := (List.getElem?_eq_some_iff.mp hj).1
  refine startL (L0 := [some (.ref a), some (.int (nI j)), none, none]) rfl rfl pl_Jx4a65c_remove_915e3 (Nat.le_of_ble_eq_true rfl) ?_
  refine V_iload_1 dJx4a65c_remove_915e3_0 ?_
  refine V_aload_0 dJx4a65c_remove_915e3_1 ?_
  refine V_getf dJx4a65c_remove_915e3_2 fl_Jx4a65c_48 ho.ro rfl ?_
  refine V_call_i (runS2 dJx4a65c_remove_915e3_5 ce_J15_checkIndex_7cf53 rfl ml_Jx4a65c_118 st_J15_checkIndex_7cf53 (Nat.le_of_ble_eq_true rfl)) (by omega) (by omega) (by omega) (c_checkIndex2 hl (by omega) ?_)
  refine V_pop dJx4a65c_remove_915e3_8 rfl ?_
  refine V_aload_0 dJx4a65c_remove_915e3_9 ?_
  refine V_getf dJx4a65c_remove_915e3_10 fl_Jx4a65c_9 ho.ro rfl ?_
  refine V_astore_2 dJx4a65c_remove_915e3_13 rfl ?_
  refine V_aload_2 dJx4a65c_remove_915e3_14 ?_
  refine V_iload_1 dJx4a65c_remove_915e3_15 ?_
  obtain ⟨arr, ha, hja, hr⟩ := ALb.at hb hj
  have hj31 : j < 2 ^ 31 := by have := ha.1.2; omega
  refine V_aald (v := .ref x) dJx4a65c_remove_915e3_16 ha.ra (by decide) (vp_in_nI hja (by have := ha.1.2; omega)) (by rw [nI_clamp hj31]; unfold ov; rw [hr]; rfl) ?_
  refine V_astore_3 dJx4a65c_remove_915e3_17 rfl ?_
  refine V_aload_0 dJx4a65c_remove_915e3_18 ?_
  refine V_aload_2 dJx4a65c_remove_915e3_19 ?_
  refine V_iload_1 dJx4a65c_remove_915e3_20 ?_
  refine V_call_v (runV2 dJx4a65c_remove_915e3_21 ce_Jx4a65c_fastRemove_b59b0 rfl ml_Jx4a65c_144 im_Jx4a65c_fastRemove_b59b0 se_Jx4a65c_fastRemove_b59b0 ho.ro ⟨_, rfl, rfl⟩ (Nat.le_of_ble_eq_true rfl)) (by omega) (by omega) (by omega) (c_fastRemove ho hel hb hlen hl ht fun H1 hal e1 => ?_)
  refine V_aload_3 dJx4a65c_remove_915e3_24 ?_
  exact V_reta dJx4a65c_remove_915e3_25 rfl (Or.inl ⟨_, rfl⟩) (kk H1 hal e1)
set_option maxHeartbeats 4000000 in
set_option maxRecDepth 100000 in
theorem c_rangeAdd {G : GT} {H : Heap} {g : Nat → Nat} {t a : Nat} {X : String → Heap → Prop} {j : Nat} {mc : Int32} {b : Nat} {rs : List Nat} (ho : Ob G H g t a 4 [.int mc, .ref b, .int (nI rs.length)]) (hlen : rs.length < 2 ^ 18) (hj : j ≤ rs.length) {F : Heap → Prop} (kk : F H) : Call G kJx4a65c_rangeCheckForAdd_d00df 1 0 0 [.ref a, .int (nI j)] H (qv F) X := by
  refine startL (L0 := [some (.ref a), some (.int (nI j))]) rfl rfl pl_Jx4a65c_rangeCheckForAdd_d00df (Nat.le_of_ble_eq_true rfl) ?_
  refine V_iload_1 dJx4a65c_rangeCheckForAdd_d00df_0 ?_
  refine V_aload_0 dJx4a65c_rangeCheckForAdd_d00df_1 ?_
  refine V_getf dJx4a65c_rangeCheckForAdd_d00df_2 fl_Jx4a65c_48 ho.ro rfl ?_
  refine V_icmp_gt (tgt := 12) dJx4a65c_rangeCheckForAdd_d00df_5 (by decide) (fun c_5 => ?_) (fun c_5 => ?_)
  · exact absurd c_5 (nI_nlt hj (by omega))
  · refine V_iload_1 dJx4a65c_rangeCheckForAdd_d00df_8 ?_
    refine V_if_ge (tgt := 25) dJx4a65c_rangeCheckForAdd_d00df_9 (by decide) (fun c_9 => ?_) (fun c_9 => ?_)
    · exact V_retv dJx4a65c_rangeCheckForAdd_d00df_25 rfl kk
    · exact absurd (nI_pos' (by omega)) c_9
set_option maxRecDepth 100000 in
theorem c_clearL {G : GT} {g : Nat → Nat} {t : Nat} {X : String → Heap → Prop} {b : Nat} {H0 : Heap} {n : Nat} (ht : t ≠ 0) {o0 : Option Value} {F : Heap → Prop} (kk : ∀ (H1 : Heap) (arr : List (Option Nat)), Oa G H1 g t b arr → (∀ q : Nat, q ≠ b → H1[q]? = H0[q]?) → H1.size = H0.size → F H1) : ∀ (k j : Nat) (H : Heap) (arr : List (Option Nat)), j + k = n → n ≤ arr.length → Oa G H g t b arr → (∀ q : Nat, q ≠ b → H[q]? = H0[q]?) → H.size = H0.size → V G kJx4a65c_clear_da8c8 0 0 0 (qv F) X 27 [o0, some (.ref b), some (.int (nI n)), some (.int (nI j))] [] H := by
  intro k
  induction k with
  | zero =>
    intro j H arr hj hn hb ho hz
    have hl := hb.1.2
    refine V_iload_3 dJx4a65c_clear_da8c8_27 ?_
    refine V_iload_2 dJx4a65c_clear_da8c8_28 ?_
    refine V_icmp_ge (tgt := 42) dJx4a65c_clear_da8c8_29 (by decide) (fun c_29 => ?_) (fun c_29 => ?_)
    · exact V_retv dJx4a65c_clear_da8c8_42 rfl (kk H arr hb ho hz)
    · exact absurd (nI_le (by omega) (by omega)) c_29
  | succ k ih =>
    intro j H arr hj hn hb ho hz
    have hl := hb.1.2
    refine V_iload_3 dJx4a65c_clear_da8c8_27 ?_
    refine V_iload_2 dJx4a65c_clear_da8c8_28 ?_
    refine V_icmp_ge (tgt := 42) dJx4a65c_clear_da8c8_29 (by decide) (fun c_29 => ?_) (fun c_29 => ?_)
    · exact absurd c_29 (nI_ge (by omega) (by omega))
    · refine V_aload_1 dJx4a65c_clear_da8c8_32 ?_
      refine V_iload_3 dJx4a65c_clear_da8c8_33 ?_
      refine V_null dJx4a65c_clear_da8c8_34 ?_
      refine V_oasN2 dJx4a65c_clear_da8c8_35 hb ht (vp_in_nI (by omega) (by omega)) fun H2 hb2 e2 z2 hz2 => ?_
      refine V_iinc_3 (v := 1) dJx4a65c_clear_da8c8_36 rfl rfl ?_
      rw [nI_1]
      refine V_goto (tgt := 27) dJx4a65c_clear_da8c8_39 (by decide) ?_
      refine ih (j + 1) H2 _ (by omega) (by rw [List.length_set]; exact hn) hb2 (fun q hq => (z2 q hq).trans (ho q hq)) ?_
      exact hz2.trans hz
set_option maxHeartbeats 4000000 in
set_option maxRecDepth 100000 in
theorem c_alclear {G : GT} {H : Heap} {g : Nat → Nat} {t a : Nat} {X : String → Heap → Prop} {rs : List Nat} (h : AL G H g t a rs) (ht : t ≠ 0) {F : Heap → Prop} (kk : ∀ H1 : Heap, AL G H1 g t a [] → Ext G [t] H g H1 g → F H1) : Call G kJx4a65c_clear_da8c8 0 0 0 [.ref a] H (qv F) X := by
  obtain ⟨b, mc, ho, hb, hlen, hel⟩ := h
  refine startL (L0 := [some (.ref a), none, none, none]) rfl rfl pl_Jx4a65c_clear_da8c8 (Nat.le_of_ble_eq_true rfl) ?_
  refine V_aload_0 dJx4a65c_clear_da8c8_0 ?_
  refine V_dup dJx4a65c_clear_da8c8_1 rfl ?_
  refine V_getf dJx4a65c_clear_da8c8_2 fl_Jx4a65c_63 ho.ro rfl ?_
  refine V_iconst (v := 1) dJx4a65c_clear_da8c8_5 rfl ?_
  refine V_iadd dJx4a65c_clear_da8c8_6 ?_
  refine V_putN dJx4a65c_clear_da8c8_7 fp_Jx4a65c_clear_da8c8_63 ho ht ⟨rfl, rfl⟩ (Nat.le_of_ble_eq_true rfl) rfl fun H1 ho1 e1 z1 => ?_
  replace hb := hb.near ho z1
  replace ho := ho1
  clear ho1
  replace hel : elA G H1 g rs := elA.fr hel e1 (n1 (by omega))
  refine V_aload_0 dJx4a65c_clear_da8c8_10 ?_
  refine V_getf dJx4a65c_clear_da8c8_11 fl_Jx4a65c_9 ho.ro rfl ?_
  refine V_astore_1 dJx4a65c_clear_da8c8_14 rfl ?_
  refine V_aload_0 dJx4a65c_clear_da8c8_15 ?_
  refine V_getf dJx4a65c_clear_da8c8_16 fl_Jx4a65c_48 ho.ro rfl ?_
  refine V_istore_2 dJx4a65c_clear_da8c8_19 rfl ?_
  refine V_aload_0 dJx4a65c_clear_da8c8_20 ?_
  refine V_iconst (v := 0) dJx4a65c_clear_da8c8_21 rfl ?_
  refine V_dup_x1 dJx4a65c_clear_da8c8_22 rfl rfl ?_
  refine V_putN dJx4a65c_clear_da8c8_23 fp_Jx4a65c_clear_da8c8_48 ho ht ⟨rfl, rfl⟩ (Nat.le_of_ble_eq_true rfl) rfl fun H2 ho2 e2 z2 => ?_
  replace hb := hb.near ho z2
  refine V_istore_3 dJx4a65c_clear_da8c8_26 rfl ?_
  rcases hb with hb | ⟨arr, hb, h1, h2⟩
  · have hrs : rs.length = 0 := by rw [hb.2]; rfl
    refine V_iload_3 dJx4a65c_clear_da8c8_27 ?_
    refine V_iload_2 dJx4a65c_clear_da8c8_28 ?_
    refine V_icmp_ge (tgt := 42) dJx4a65c_clear_da8c8_29 (by decide) (fun c_29 => ?_) (fun c_29 => ?_)
    · exact V_retv dJx4a65c_clear_da8c8_42 rfl (kk H2 ⟨b, _, ho2, Or.inl ⟨hb.1, rfl⟩, by decide, fun r hr => by cases hr⟩ (e1.trans e2))
    · exact absurd (by rw [hrs]; decide) c_29
  · have hqa : b ≠ a := ho2.1.ne_oa (i := 0) hb (Nat.le_of_ble_eq_true rfl) rfl ⟨_, rfl, by decide⟩
    exact c_clearL ht (fun H3 arr3 hb3 ho3 hz3 => kk H3 ⟨b, _, ho2.ne hqa.symm ho3, Or.inr ⟨arr3, hb3, rfl, Nat.zero_le _⟩, by decide, fun r hr => by cases hr⟩ ((e1.trans e2).trans (Ext.put hz3 ho3 (hb.2 ▸ List.mem_singleton.mpr rfl)))) rs.length 0 H2 arr (Nat.zero_add _) h2 hb (fun _ _ => rfl) rfl
theorem take_ins {arr : List (Option Nat)} {rs : List Nat} {j r : Nat} (h : arr.take rs.length = rs.map some) (hle : rs.length < arr.length) (hj : j ≤ rs.length) : ((layO arr arr j (j + 1) (rs.length - j)).set j (some r)).take (rs.insertIdx j r).length = (rs.insertIdx j r).map some := by
  have hlen : (rs.insertIdx j r).length = rs.length + 1 := List.length_insertIdx_of_le_length hj _
  rw [hlen]
  apply List.ext_getElem?
  intro i
  rw [List.getElem?_map, List.getElem?_insertIdx, List.getElem?_take]
  by_cases hi : i < rs.length + 1
  · rw [if_pos hi, List.getElem?_set]
    have hlay : (layO arr arr j (j + 1) (rs.length - j)).length = arr.length := layO_len
    by_cases h1 : i = j
    · subst h1
      rw [if_pos rfl, if_neg (Nat.lt_irrefl _), if_pos rfl, if_pos (by omega), if_pos (by omega)]
      rfl
    · rw [if_neg (fun z => h1 z.symm)]
      unfold layO
      rw [List.getElem?_map, List.getElem?_range (by omega), Option.map_some]
      by_cases h2 : i < j
      · rw [if_pos h2, if_neg (by omega), List.getD_eq_getElem?_getD, getD_rs h (by omega), List.getElem?_eq_getElem (by omega)]
        rfl
      · rw [if_neg h2, if_neg h1, if_pos (by omega), List.getD_eq_getElem?_getD, show j + (i - (j + 1)) = i - 1 by omega, getD_rs h (by omega), List.getElem?_eq_getElem (by omega)]
        rfl
  · rw [if_neg hi]
    by_cases h1 : i < j
    · omega
    · rw [if_neg h1, if_neg (by omega), List.getElem?_eq_none (by omega)]
      rfl
set_option maxHeartbeats 4000000 in
set_option maxRecDepth 100000 in
theorem c_aladdAt {G : GT} {H : Heap} {g : Nat → Nat} {t a : Nat} {X : String → Heap → Prop} {r j : Nat} {rs : List Nat} (h : AL G H g t a rs) (hn : rs.length ≤ 40) (hj : j ≤ rs.length) (hr : elO G H r ∧ tg G g r = 0) (ht : t ≠ 0) {F : Heap → Prop} (kk : ∀ (H1 : Heap) (g1 : Nat → Nat), AL G H1 g1 t a (rs.insertIdx j r) → Ext G [t] H g H1 g1 → F H1) : Call G kJx4a65c_add_7a177 6 1 61 [.ref a, .int (nI j), .ref r] H (qv F) X := by
  obtain ⟨b, mc, ho, hb, hlen, hel⟩ := h
  refine startL (L0 := [some (.ref a), some (.int (nI j)), some (.ref r), none, none]) rfl rfl pl_Jx4a65c_add_7a177 (Nat.le_of_ble_eq_true rfl) ?_
  refine V_aload_0 dJx4a65c_add_7a177_0 ?_
  refine V_iload_1 dJx4a65c_add_7a177_1 ?_
  refine V_call_v (runV1 dJx4a65c_add_7a177_2 ce_Jx4a65c_rangeCheckForAdd_d00df rfl ml_Jx4a65c_135 im_Jx4a65c_rangeCheckForAdd_d00df se_Jx4a65c_rangeCheckForAdd_d00df ho.ro ⟨_, rfl, rfl⟩ (Nat.le_of_ble_eq_true rfl)) (by omega) (by omega) (by omega) (c_rangeAdd ho hlen hj ?_)
  refine V_aload_0 dJx4a65c_add_7a177_5 ?_
  refine V_dup dJx4a65c_add_7a177_6 rfl ?_
  refine V_getf dJx4a65c_add_7a177_7 fl_Jx4a65c_63 ho.ro rfl ?_
  refine V_iconst (v := 1) dJx4a65c_add_7a177_10 rfl ?_
  refine V_iadd dJx4a65c_add_7a177_11 ?_
  refine V_putN dJx4a65c_add_7a177_12 fp_Jx4a65c_add_7a177_63 ho ht ⟨rfl, rfl⟩ (Nat.le_of_ble_eq_true rfl) rfl fun H1 ho1 e1 z1 => ?_
  replace hb := hb.near ho z1
  replace ho := ho1
  clear ho1
  replace hel : elA G H1 g rs := elA.fr hel e1 (n1 (by omega))
  replace hr := hr.1.fr hr.2 e1 (n1 (by omega))
  refine V_aload_0 dJx4a65c_add_7a177_15 ?_
  refine V_getf dJx4a65c_add_7a177_16 fl_Jx4a65c_48 ho.ro rfl ?_
  refine V_dup dJx4a65c_add_7a177_19 rfl ?_
  refine V_istore_3 dJx4a65c_add_7a177_20 rfl ?_
  refine V_aload_0 dJx4a65c_add_7a177_21 ?_
  refine V_getf dJx4a65c_add_7a177_22 fl_Jx4a65c_9 ho.ro rfl ?_
  refine V_dup dJx4a65c_add_7a177_25 rfl ?_
  refine V_astore_4 dJx4a65c_add_7a177_26 rfl ?_
  refine V_old fun hOK hS => ?_
  have hal : (b = gA G 1001 ∧ rs = []) ∨ ∃ arr : List (Option Nat), Oa G H1 g t b arr ∧ arr.take rs.length = rs.map some ∧ rs.length ≤ arr.length := hb
  rcases hal with ⟨hb0, hrs⟩ | ⟨arr, hb, hta, hle⟩
  · subst hb0
    refine V_alen (v := 0) dJx4a65c_add_7a177_28 (hOK.2.2.2.2.1.2.2.1.old hS) rfl ?_
    refine V_icmp_ne (tgt := 38) dJx4a65c_add_7a177_29 (by decide) (fun z => absurd (by subst hrs; rfl) z) (fun _ => ?_)
    refine V_aload_0 dJx4a65c_add_7a177_32 ?_
    refine V_call_a (runV0 dJx4a65c_add_7a177_33 ce_Jx4a65c_grow_d5877 rfl ml_Jx4a65c_129 im_Jx4a65c_grow_d5877 se_Jx4a65c_grow_d5877 ho.ro ⟨_, rfl, rfl⟩ (Nat.le_of_ble_eq_true rfl)) (by omega) (by omega) (by omega) (c_grow ho hel (Or.inl ⟨rfl, hrs⟩) hn ht fun q H1g g1 arr1 ho hb hta hroom eg => ?_)
    have E := eg
    have hqa : q ≠ a := ho.1.ne_oa (i := 0) hb (Nat.le_of_ble_eq_true rfl) rfl ⟨_, rfl, by decide⟩
    replace hr := hr.1.fr hr.2 eg (n1 (by omega))
    replace hel := hel.fr eg (n1 (by omega))
    refine V_astore_4 dJx4a65c_add_7a177_36 rfl ?_
    have hal2 := hb.1.2
    refine V_aload_4 dJx4a65c_add_7a177_38 ?_
    refine V_iload_1 dJx4a65c_add_7a177_40 ?_
    refine V_aload_4 dJx4a65c_add_7a177_41 ?_
    refine V_iload_1 dJx4a65c_add_7a177_43 ?_
    refine V_iconst (v := 1) dJx4a65c_add_7a177_44 rfl ?_
    refine V_iadd dJx4a65c_add_7a177_45 ?_
    refine V_int (y := nI (j + 1)) (nI_1 _) ?_
    refine V_iload_3 dJx4a65c_add_7a177_46 ?_
    refine V_iload_1 dJx4a65c_add_7a177_47 ?_
    refine V_isub dJx4a65c_add_7a177_48 ?_
    refine V_int (y := nI (rs.length - j)) (nI_sub hj) ?_
    refine V_cpO2 dJx4a65c_add_7a177_49 ml_Jx4a65c_112 ex_acN ex_acS ex_sys (by omega) (Nat.le_of_ble_eq_true rfl) hb.ra hb ht (nI_pos (by omega)) (nI_pos (by omega)) (nI_pos (by omega)) (by rw [nI_clamp (by omega), nI_clamp (by omega)]; omega) (by rw [nI_clamp (by omega), nI_clamp (by omega)]; omega) (fun i y hi hy => ?_) fun H2 hb o2 z2 => ?_
    · rw [nI_clamp (by omega)] at hi hy; exact elA.at hel hta _ y (by omega) hy
    rw [nI_clamp (by omega), nI_clamp (by omega), nI_clamp (by omega)] at hb
    have e2 := (Ext.put (G := G) (ts := [t]) (g := g1) z2 o2 (hb.2 ▸ List.mem_singleton.mpr rfl))
    replace ho := ho.ne hqa.symm o2
    replace hel := hel.fr e2 (n1 (by omega))
    replace hr := hr.1.fr hr.2 e2 (n1 (by omega))
    refine V_aload_4 dJx4a65c_add_7a177_52 ?_
    refine V_iload_1 dJx4a65c_add_7a177_54 ?_
    refine V_aload_2 dJx4a65c_add_7a177_55 ?_
    refine V_oas2 dJx4a65c_add_7a177_56 hb ht (vp_in_nI (by rw [layO_len]; omega) (by rw [layO_len]; omega)) (hr.1) fun H3 hb e3 z3 => ?_
    rw [nI_clamp (by omega)] at hb
    replace ho := ho.ne hqa.symm z3
    replace hr := hr.1.fr hr.2 e3 (n1 (by omega))
    replace hel := hel.fr e3 (n1 (by omega))
    have hlen2 : (rs.insertIdx j r).length = rs.length + 1 := List.length_insertIdx_of_le_length hj _
    refine V_aload_0 dJx4a65c_add_7a177_57 ?_
    refine V_iload_3 dJx4a65c_add_7a177_58 ?_
    refine V_iconst (v := 1) dJx4a65c_add_7a177_59 rfl ?_
    refine V_iadd dJx4a65c_add_7a177_60 ?_
    refine V_int (y := nI (rs.insertIdx j r).length) (by rw [hlen2]; exact nI_1 _) ?_
    refine V_putN dJx4a65c_add_7a177_61 fp_Jx4a65c_add_7a177_48 ho ht ⟨rfl, rfl⟩ (Nat.le_of_ble_eq_true rfl) rfl fun H4 ho e4 z4 => ?_
    replace hb := hb.ne hqa z4
    replace hel := hel.fr e4 (n1 (by omega))
    replace hr := hr.1.fr hr.2 e4 (n1 (by omega))
    exact V_retv dJx4a65c_add_7a177_64 rfl (kk H4 _ ⟨_, _, ho, Or.inr ⟨_, hb, take_ins hta hroom hj, by rw [List.length_set, layO_len]; omega⟩, by omega, fun y hy => (List.mem_insertIdx hj).mp hy |>.elim (fun z => z ▸ hr) (fun z => hel y z)⟩ (e1.trans (((E.trans e2).trans e3).trans e4)))
  · refine V_alen (v := nI arr.length) dJx4a65c_add_7a177_28 hb.ra rfl ?_
    refine V_icmp_ne (tgt := 38) dJx4a65c_add_7a177_29 (by decide) (fun c_29 => ?_) (fun c_29 => ?_)
    · have hroom : rs.length < arr.length := by rcases Nat.lt_or_ge rs.length arr.length with q | q; exact q; exact absurd (congrArg nI (Nat.le_antisymm hle q)) c_29
      have E : Ext G [t] H1 g H1 g := Ext.rf
      have hqa : b ≠ a := ho.1.ne_oa (i := 0) hb (Nat.le_of_ble_eq_true rfl) rfl ⟨_, rfl, by decide⟩
      have hal2 := hb.1.2
      refine V_aload_4 dJx4a65c_add_7a177_38 ?_
      refine V_iload_1 dJx4a65c_add_7a177_40 ?_
      refine V_aload_4 dJx4a65c_add_7a177_41 ?_
      refine V_iload_1 dJx4a65c_add_7a177_43 ?_
      refine V_iconst (v := 1) dJx4a65c_add_7a177_44 rfl ?_
      refine V_iadd dJx4a65c_add_7a177_45 ?_
      refine V_int (y := nI (j + 1)) (nI_1 _) ?_
      refine V_iload_3 dJx4a65c_add_7a177_46 ?_
      refine V_iload_1 dJx4a65c_add_7a177_47 ?_
      refine V_isub dJx4a65c_add_7a177_48 ?_
      refine V_int (y := nI (rs.length - j)) (nI_sub hj) ?_
      refine V_cpO2 dJx4a65c_add_7a177_49 ml_Jx4a65c_112 ex_acN ex_acS ex_sys (by omega) (Nat.le_of_ble_eq_true rfl) hb.ra hb ht (nI_pos (by omega)) (nI_pos (by omega)) (nI_pos (by omega)) (by rw [nI_clamp (by omega), nI_clamp (by omega)]; omega) (by rw [nI_clamp (by omega), nI_clamp (by omega)]; omega) (fun i y hi hy => ?_) fun H2 hb o2 z2 => ?_
      · rw [nI_clamp (by omega)] at hi hy; exact elA.at hel hta _ y (by omega) hy
      rw [nI_clamp (by omega), nI_clamp (by omega), nI_clamp (by omega)] at hb
      have e2 := (Ext.put (G := G) (ts := [t]) (g := g) z2 o2 (hb.2 ▸ List.mem_singleton.mpr rfl))
      replace ho := ho.ne hqa.symm o2
      replace hel := hel.fr e2 (n1 (by omega))
      replace hr := hr.1.fr hr.2 e2 (n1 (by omega))
      refine V_aload_4 dJx4a65c_add_7a177_52 ?_
      refine V_iload_1 dJx4a65c_add_7a177_54 ?_
      refine V_aload_2 dJx4a65c_add_7a177_55 ?_
      refine V_oas2 dJx4a65c_add_7a177_56 hb ht (vp_in_nI (by rw [layO_len]; omega) (by rw [layO_len]; omega)) (hr.1) fun H3 hb e3 z3 => ?_
      rw [nI_clamp (by omega)] at hb
      replace ho := ho.ne hqa.symm z3
      replace hr := hr.1.fr hr.2 e3 (n1 (by omega))
      replace hel := hel.fr e3 (n1 (by omega))
      have hlen2 : (rs.insertIdx j r).length = rs.length + 1 := List.length_insertIdx_of_le_length hj _
      refine V_aload_0 dJx4a65c_add_7a177_57 ?_
      refine V_iload_3 dJx4a65c_add_7a177_58 ?_
      refine V_iconst (v := 1) dJx4a65c_add_7a177_59 rfl ?_
      refine V_iadd dJx4a65c_add_7a177_60 ?_
      refine V_int (y := nI (rs.insertIdx j r).length) (by rw [hlen2]; exact nI_1 _) ?_
      refine V_putN dJx4a65c_add_7a177_61 fp_Jx4a65c_add_7a177_48 ho ht ⟨rfl, rfl⟩ (Nat.le_of_ble_eq_true rfl) rfl fun H4 ho e4 z4 => ?_
      replace hb := hb.ne hqa z4
      replace hel := hel.fr e4 (n1 (by omega))
      replace hr := hr.1.fr hr.2 e4 (n1 (by omega))
      exact V_retv dJx4a65c_add_7a177_64 rfl (kk H4 _ ⟨_, _, ho, Or.inr ⟨_, hb, take_ins hta hroom hj, by rw [List.length_set, layO_len]; omega⟩, by omega, fun y hy => (List.mem_insertIdx hj).mp hy |>.elim (fun z => z ▸ hr) (fun z => hel y z)⟩ (e1.trans (((E.trans e2).trans e3).trans e4)))
    · have hful : arr.length = rs.length := ((nI_eq (by omega) (by have := hb.1.2; omega)).mp c_29).symm
      refine V_aload_0 dJx4a65c_add_7a177_32 ?_
      refine V_call_a (runV0 dJx4a65c_add_7a177_33 ce_Jx4a65c_grow_d5877 rfl ml_Jx4a65c_129 im_Jx4a65c_grow_d5877 se_Jx4a65c_grow_d5877 ho.ro ⟨_, rfl, rfl⟩ (Nat.le_of_ble_eq_true rfl)) (by omega) (by omega) (by omega) (c_grow ho hel (Or.inr ⟨arr, hb, hta, hful⟩) hn ht fun q H1g g1 arr1 ho hb hta hroom eg => ?_)
      have E := eg
      have hqa : q ≠ a := ho.1.ne_oa (i := 0) hb (Nat.le_of_ble_eq_true rfl) rfl ⟨_, rfl, by decide⟩
      replace hr := hr.1.fr hr.2 eg (n1 (by omega))
      replace hel := hel.fr eg (n1 (by omega))
      refine V_astore_4 dJx4a65c_add_7a177_36 rfl ?_
      have hal2 := hb.1.2
      refine V_aload_4 dJx4a65c_add_7a177_38 ?_
      refine V_iload_1 dJx4a65c_add_7a177_40 ?_
      refine V_aload_4 dJx4a65c_add_7a177_41 ?_
      refine V_iload_1 dJx4a65c_add_7a177_43 ?_
      refine V_iconst (v := 1) dJx4a65c_add_7a177_44 rfl ?_
      refine V_iadd dJx4a65c_add_7a177_45 ?_
      refine V_int (y := nI (j + 1)) (nI_1 _) ?_
      refine V_iload_3 dJx4a65c_add_7a177_46 ?_
      refine V_iload_1 dJx4a65c_add_7a177_47 ?_
      refine V_isub dJx4a65c_add_7a177_48 ?_
      refine V_int (y := nI (rs.length - j)) (nI_sub hj) ?_
      refine V_cpO2 dJx4a65c_add_7a177_49 ml_Jx4a65c_112 ex_acN ex_acS ex_sys (by omega) (Nat.le_of_ble_eq_true rfl) hb.ra hb ht (nI_pos (by omega)) (nI_pos (by omega)) (nI_pos (by omega)) (by rw [nI_clamp (by omega), nI_clamp (by omega)]; omega) (by rw [nI_clamp (by omega), nI_clamp (by omega)]; omega) (fun i y hi hy => ?_) fun H2 hb o2 z2 => ?_
      · rw [nI_clamp (by omega)] at hi hy; exact elA.at hel hta _ y (by omega) hy
      rw [nI_clamp (by omega), nI_clamp (by omega), nI_clamp (by omega)] at hb
      have e2 := (Ext.put (G := G) (ts := [t]) (g := g1) z2 o2 (hb.2 ▸ List.mem_singleton.mpr rfl))
      replace ho := ho.ne hqa.symm o2
      replace hel := hel.fr e2 (n1 (by omega))
      replace hr := hr.1.fr hr.2 e2 (n1 (by omega))
      refine V_aload_4 dJx4a65c_add_7a177_52 ?_
      refine V_iload_1 dJx4a65c_add_7a177_54 ?_
      refine V_aload_2 dJx4a65c_add_7a177_55 ?_
      refine V_oas2 dJx4a65c_add_7a177_56 hb ht (vp_in_nI (by rw [layO_len]; omega) (by rw [layO_len]; omega)) (hr.1) fun H3 hb e3 z3 => ?_
      rw [nI_clamp (by omega)] at hb
      replace ho := ho.ne hqa.symm z3
      replace hr := hr.1.fr hr.2 e3 (n1 (by omega))
      replace hel := hel.fr e3 (n1 (by omega))
      have hlen2 : (rs.insertIdx j r).length = rs.length + 1 := List.length_insertIdx_of_le_length hj _
      refine V_aload_0 dJx4a65c_add_7a177_57 ?_
      refine V_iload_3 dJx4a65c_add_7a177_58 ?_
      refine V_iconst (v := 1) dJx4a65c_add_7a177_59 rfl ?_
      refine V_iadd dJx4a65c_add_7a177_60 ?_
      refine V_int (y := nI (rs.insertIdx j r).length) (by rw [hlen2]; exact nI_1 _) ?_
      refine V_putN dJx4a65c_add_7a177_61 fp_Jx4a65c_add_7a177_48 ho ht ⟨rfl, rfl⟩ (Nat.le_of_ble_eq_true rfl) rfl fun H4 ho e4 z4 => ?_
      replace hb := hb.ne hqa z4
      replace hel := hel.fr e4 (n1 (by omega))
      replace hr := hr.1.fr hr.2 e4 (n1 (by omega))
      exact V_retv dJx4a65c_add_7a177_64 rfl (kk H4 _ ⟨_, _, ho, Or.inr ⟨_, hb, take_ins hta hroom hj, by rw [List.length_set, layO_len]; omega⟩, by omega, fun y hy => (List.mem_insertIdx hj).mp hy |>.elim (fun z => z ▸ hr) (fun z => hel y z)⟩ (e1.trans (((E.trans e2).trans e3).trans e4)))

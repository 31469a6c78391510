theorem sz_of {G : GT} {H : Heap} {g : Nat → Nat} {q b : Nat} {h z : Value} {l : List Int32} (ho : Ob G H g 33 q 0 [.ref b, .int 0, h, z]) (hb : Ia G H g 33 b 2 l) (ha : asc l) : Sz G H (gall G g [33] 0) q l :=
  ⟨ha, hb.1.2, b, h, z, ⟨ho.ro, by rw [tg_gall (Or.inl rfl), if_pos (ho.2 ▸ List.mem_singleton.mpr rfl)]⟩, hb.ra, by rw [tg_gall (Or.inl rfl), if_pos (hb.2 ▸ List.mem_singleton.mpr rfl)]⟩
set_option maxHeartbeats 1000000 in
set_option maxRecDepth 100000 in
theorem c_getVal {G : GT} {H : Heap} {g : Nat → Nat} {t a b : Nat} {mb k : Int32} {X : String → Heap → Prop} (ho : Ob G H g t a 1 [.ref b, .int 0, .int mb, .int k]) {F : Nat → Heap → Prop} (kk : F b H) : Call G kJ5_getValue_6d5f1 0 0 0 [.ref a] H (qa F) X := by
  refine startL (L0 := [some (.ref a)]) rfl rfl pl_J5_getValue_6d5f1 (Nat.le_of_ble_eq_true rfl) ?_
  refine V_aload_0 dJ5_getValue_6d5f1_0 ?_
  refine V_getf dJ5_getValue_6d5f1_1 fl_J5_15 ho.ro rfl ?_
  exact V_reta dJ5_getValue_6d5f1_4 rfl (Or.inr ⟨_, rfl⟩) kk
set_option maxHeartbeats 1000000 in
set_option maxRecDepth 100000 in
theorem c_chkLen {G : GT} {H : Heap} {X : String → Heap → Prop} {q n : Nat} (hqn : q ≤ n) (hn : n < 2 ^ 31) {F : Heap → Prop} (kk : F H) : Call G kJ7_checkLength_df160 0 0 0 [.int (nI q), .int (nI n)] H (qv F) X := by
  refine startL (L0 := [some (.int (nI q)), some (.int (nI n))]) rfl rfl pl_J7_checkLength_df160 (Nat.le_of_ble_eq_true rfl) ?_
  refine V_iload_1 dJ7_checkLength_df160_0 ?_
  refine V_iload_0 dJ7_checkLength_df160_1 ?_
  refine V_icmp_ge (tgt := 37) dJ7_checkLength_df160_2 (by decide) (fun c_2 => ?_) (fun c_2 => ?_)
  · exact V_retv dJ7_checkLength_df160_37 rfl kk
  · exact absurd (nI_le hqn hn) c_2
theorem layI_cut {l : List Int32} {q k : Nat} (h : q + k ≤ l.length) : layI l (List.replicate k 0) q 0 k = (l.drop q).take k := by
  apply List.ext_getElem?
  intro i
  unfold layI
  by_cases h1 : i < k
  · rw [List.getElem?_map, List.getElem?_range (by simp; exact h1), List.getElem?_take, if_pos h1, List.getElem?_drop]
    have h2 : q + i < l.length := by omega
    simp [h1, h2, List.getD_eq_getElem?_getD]
  · rw [List.getElem?_eq_none (by simp; omega), List.getElem?_take, if_neg h1]
theorem asc_cut {l : List Int32} {q k : Nat} (h : asc l) : asc ((l.drop q).take k) := fun x hx => h x (List.mem_of_mem_drop (List.mem_of_mem_take hx))
theorem cut_len {l : List Int32} {q k : Nat} (h : q + k ≤ l.length) : ((l.drop q).take k).length = k := by rw [List.length_take, List.length_drop]; omega
set_option maxHeartbeats 1000000 in
set_option maxRecDepth 100000 in
theorem c_copRB {G : GT} {H : Heap} {g : Nat → Nat} {b n q k : Nat} {X : String → Heap → Prop} {l : List Int32} (hb : ra G H b 2 n (iv l)) (hl : l.length = n) (hn : n < 2 ^ 20) (hqk : q + k ≤ n) (hac : asc l) {F : Nat → Heap → Prop} (kk : ∀ (r : Nat) (H1 : Heap) (g1 : Nat → Nat), Ia G H1 g1 33 r 2 ((l.drop q).take k) → r = H.size → Ext G [] H g H1 g1 → F r H1) : Call G kJ7_copyOfRangeByte_39247 1 1 k [.ref b, .int (nI q), .int (nI (q + k))] H (qa F) X := by
  refine startL (L0 := [some (.ref b), some (.int (nI q)), some (.int (nI (q + k))), none, none]) rfl rfl pl_J7_copyOfRangeByte_39247 (Nat.le_of_ble_eq_true rfl) ?_
  refine V_iload_1 dJ7_copyOfRangeByte_39247_0 ?_
  refine V_iload_2 dJ7_copyOfRangeByte_39247_1 ?_
  refine V_call_v (runS2 dJ7_copyOfRangeByte_39247_2 ce_J7_checkLength_df160 rfl ml_J7_343 st_J7_checkLength_df160 (Nat.le_of_ble_eq_true rfl)) (by omega) (by omega) (by omega) (c_chkLen (Nat.le_add_right _ _) (by omega) ?_)
  refine V_iload_2 dJ7_copyOfRangeByte_39247_5 ?_
  refine V_iload_1 dJ7_copyOfRangeByte_39247_6 ?_
  refine V_isub dJ7_copyOfRangeByte_39247_7 ?_
  refine V_int (y := nI k) ((nI_sub (Nat.le_add_right _ _)).trans (congrArg nI (by omega))) ?_
  refine V_istore_3 dJ7_copyOfRangeByte_39247_8 rfl ?_
  refine V_iload_3 dJ7_copyOfRangeByte_39247_9 ?_
  refine V_mkI (g := g) 33 (kk := 2) dJ7_copyOfRangeByte_39247_10 ac_byte rfl rfl rfl (fun C h => by cases h) (nI_pos (by omega)) (N := k) (nI_clamp (by omega)) (by omega) (by show k * 1 ≤ _; omega) (by omega) (by omega) fun r H1 g1 hr e1 z1 => ?_
  replace hb := hb.kept (e1.2 b hb.lt (by simp)).1
  refine V_astore_4 dJ7_copyOfRangeByte_39247_12 rfl ?_
  refine V_aload_0 dJ7_copyOfRangeByte_39247_14 ?_
  refine V_iload_1 dJ7_copyOfRangeByte_39247_15 ?_
  refine V_aload_4 dJ7_copyOfRangeByte_39247_16 ?_
  refine V_iconst (v := 0) dJ7_copyOfRangeByte_39247_18 rfl ?_
  refine V_aload_0 dJ7_copyOfRangeByte_39247_19 ?_
  refine V_alen (v := nI n) dJ7_copyOfRangeByte_39247_20 hb rfl ?_
  refine V_iload_1 dJ7_copyOfRangeByte_39247_21 ?_
  refine V_isub dJ7_copyOfRangeByte_39247_22 ?_
  refine V_int (y := nI (n - q)) (nI_sub (by omega)) ?_
  refine V_iload_3 dJ7_copyOfRangeByte_39247_23 ?_
  refine V_mmin dJ7_copyOfRangeByte_39247_24 ml_J7_304 ex_minS ex_mth ex_minC (Nat.le_of_ble_eq_true rfl) (Nat.le_of_ble_eq_true rfl) ?_
  refine V_int (y := nI k) (by rw [imin_nI (by omega) (by omega), Nat.min_eq_right (by omega)]) ?_
  refine V_cpI2 dJ7_copyOfRangeByte_39247_27 ml_J7_150 ex_acN ex_acS ex_sys (by omega) (Nat.le_of_ble_eq_true rfl) hb hr (by decide) (by decide) (nI_pos (by omega)) (by decide) (nI_pos (by omega)) (by rw [nI_clamp (by omega), nI_clamp (by omega)]; exact hqk) (by rw [nI_clamp (by omega), List.length_replicate]; show 0 + k ≤ _; omega) (fun i hi => fits_a (asc_at hac _)) fun H2 hr2 o2 z2 => ?_
  refine V_aload_4 dJ7_copyOfRangeByte_39247_30 ?_
  rw [nI_clamp (by omega), nI_clamp (by omega)] at hr2
  replace hr2 : Ia G H2 g1 33 r 2 ((l.drop q).take k) := (layI_cut (l := l) (q := q) (k := k) (by omega)) ▸ hr2
  exact V_reta dJ7_copyOfRangeByte_39247_32 rfl (Or.inr ⟨_, rfl⟩) (kk r H2 g1 hr2 z1 (e1.new (by omega) o2 z2))
set_option maxHeartbeats 1000000 in
set_option maxRecDepth 100000 in
theorem c_copR {G : GT} {H : Heap} {g : Nat → Nat} {b n q k : Nat} {X : String → Heap → Prop} {l : List Int32} (hb : ra G H b 2 n (iv l)) (hl : l.length = n) (hn : n < 2 ^ 20) (hqk : q + k ≤ n) (hlt : ¬ (q = 0 ∧ q + k = n)) (hac : asc l) {F : Nat → Heap → Prop} (kk : ∀ (r : Nat) (H1 : Heap) (g1 : Nat → Nat), Ia G H1 g1 33 r 2 ((l.drop q).take k) → r = H.size → Ext G [] H g H1 g1 → F r H1) : Call G kJ7_copyOfRange_39247 2 1 k [.ref b, .int (nI q), .int (nI (q + k))] H (qa F) X := by
  refine startL (L0 := [some (.ref b), some (.int (nI q)), some (.int (nI (q + k)))]) rfl rfl pl_J7_copyOfRange_39247 (Nat.le_of_ble_eq_true rfl) ?_
  refine V_iload_1 dJ7_copyOfRange_39247_0 ?_
  refine V_if_ne (tgt := 10) dJ7_copyOfRange_39247_1 (by decide) (fun c_1 => ?_) (fun c_1 => ?_)
  · refine V_aload_0 dJ7_copyOfRange_39247_10 ?_
    refine V_iload_1 dJ7_copyOfRange_39247_11 ?_
    refine V_iload_2 dJ7_copyOfRange_39247_12 ?_
    refine V_call_a (runS3 dJ7_copyOfRange_39247_13 ce_J7_copyOfRangeByte_39247 rfl ml_J7_339 st_J7_copyOfRangeByte_39247 (Nat.le_of_ble_eq_true rfl)) (by omega) (by omega) (by omega) (c_copRB (g := g) hb hl hn hqk hac fun r H1 g1 hr z1 e1 => ?_)
    exact V_reta dJ7_copyOfRange_39247_16 rfl (Or.inr ⟨_, rfl⟩) (kk r H1 g1 hr z1 e1)
  · refine V_iload_2 dJ7_copyOfRange_39247_4 ?_
    refine V_aload_0 dJ7_copyOfRange_39247_5 ?_
    refine V_alen (v := nI n) dJ7_copyOfRange_39247_6 hb rfl ?_
    refine V_icmp_eq (tgt := 17) dJ7_copyOfRange_39247_7 (by decide) (fun c_7 => ?_) (fun c_7 => ?_)
    · exact absurd ((nI_eq (b := 0) (by omega) (by decide)).mp c_1) (fun e => hlt ⟨e, (nI_eq (by omega) (by omega)).mp c_7⟩)
    · refine V_aload_0 dJ7_copyOfRange_39247_10 ?_
      refine V_iload_1 dJ7_copyOfRange_39247_11 ?_
      refine V_iload_2 dJ7_copyOfRange_39247_12 ?_
      refine V_call_a (runS3 dJ7_copyOfRange_39247_13 ce_J7_copyOfRangeByte_39247 rfl ml_J7_339 st_J7_copyOfRangeByte_39247 (Nat.le_of_ble_eq_true rfl)) (by omega) (by omega) (by omega) (c_copRB (g := g) hb hl hn hqk hac fun r H1 g1 hr z1 e1 => ?_)
      exact V_reta dJ7_copyOfRange_39247_16 rfl (Or.inr ⟨_, rfl⟩) (kk r H1 g1 hr z1 e1)
theorem V_cst3 {G : GT} {K : MT} {d c s : Nat} {Q : Option Value → Heap → Prop} {X : String → Heap → Prop} {H : Heap} {L : List (Option Value)} {rest : List Value} {pc : Nat} {x0 x y0 y : Int32} {r : Value} (hx : x0 = x) (hy : y0 = y) (k : V G K d c s Q X pc L (.int y :: .int x :: r :: rest) H) : V G K d c s Q X pc L (.int y0 :: .int x0 :: r :: rest) H := by subst hx; subst hy; exact k
set_option maxHeartbeats 1000000 in
set_option maxRecDepth 100000 in
theorem c_strIn0 {G : GT} {H : Heap} {g : Nat → Nat} {t a cp q : Nat} {X : String → Heap → Prop} {l : List Int32} (h : SB G H g t a l cp) (ht33 : t ≠ 33) (hlt : l.length < cp) {v0 : Value} (ho : Ob G H g 33 q 0 [v0, .int 0, .int 0, .int 0]) (hol : q < H.size) {F : Heap → Prop} (kk : ∀ (H1 : Heap) (g1 : Nat → Nat) (b : Nat), Ob G H1 g1 33 q 0 [.ref b, .int 0, .int 0, .int 0] → Ia G H1 g1 33 b 2 l → Ext G [33] H g H1 g1 → F H1) : Call G kJ0_init_db425 3 1 l.length [.ref q, .ref a, .null] H (qv F) X := by
  obtain ⟨b, mb, row, hO, hb, hcp, htk, hle, hac, hc18⟩ := id h
  obtain ⟨fs, hfs⟩ := h.o
  refine startL (L0 := [some (.ref q), some (.ref a), some .null, none, none]) rfl rfl pl_J0_init_db425 (Nat.le_of_ble_eq_true rfl) ?_
  refine V_aload_0 dJ0_init_db425_0 ?_
  refine V_oinit dJ0_init_db425_1 ml_J0_1 ex_oiI ex_oiC (Nat.le_of_ble_eq_true rfl) (Nat.le_of_ble_eq_true rfl) ?_
  refine V_aload_1 dJ0_init_db425_4 ?_
  refine V_call_a (runV0 dJ0_init_db425_5 ce_J5_getValue_6d5f1 rfl ml_J0_552 im_J5_getValue_6d5f1 se_J5_getValue_6d5f1 hfs ⟨_, rfl, rfl⟩ (Nat.le_of_ble_eq_true rfl)) (by omega) (by omega) (by omega) (c_getVal hO ?_)
  refine V_astore_3 dJ0_init_db425_8 rfl ?_
  refine V_aload_1 dJ0_init_db425_9 ?_
  refine V_call_i (runU0 dJ0_init_db425_10 ce_J4_length_8abf5 rfl ce_J5_length_8abf5 rfl ml_J0_549 sm_J5_length_8abf5 im_J5_length_8abf5 se2_len im_J4_length_8abf5 hfs ⟨_, rfl, rfl⟩ (Nat.le_of_ble_eq_true rfl)) (by omega) (by omega) (by omega) (c_jLen h ?_)
  refine V_istore_4 dJ0_init_db425_13 rfl ?_
  refine V_aload_1 dJ0_init_db425_15 ?_
  refine V_call_i (runV0 dJ0_init_db425_16 ce_J5_isLatin1_aae02 rfl ml_J0_1047 im_J5_isLatin1_aae02 se_J5_isLatin1_aae02 hfs ⟨_, rfl, rfl⟩ (Nat.le_of_ble_eq_true rfl)) (by omega) (by omega) (by omega) (c_sbLatin h ?_)
  refine V_if_eq (tgt := 41) dJ0_init_db425_19 (by decide) (fun c_19 => ?_) (fun c_19 => ?_)
  · exact absurd c_19 (by decide)
  · refine V_aload_0 dJ0_init_db425_22 ?_
    refine V_iconst (v := 0) dJ0_init_db425_23 rfl ?_
    refine V_put dJ0_init_db425_24 fp_J0_init_db425_15 ho (by decide) ⟨rfl, rfl⟩ (Nat.le_of_ble_eq_true rfl) rfl fun H1 ho e1 z1 => ?_
    have hb1 := hb.fr e1 (n1 ht33)
    have E : Ext G [33] H g H1 g := e1
    refine V_aload_0 dJ0_init_db425_27 ?_
    refine V_aload_3 dJ0_init_db425_28 ?_
    refine V_iconst (v := 0) dJ0_init_db425_29 rfl ?_
    refine V_iload_4 dJ0_init_db425_30 ?_
    refine V_cst3 (x := nI 0) (y := nI (0 + l.length)) rfl (congrArg nI (Nat.zero_add _).symm) ?_
    refine V_call_a (runS3 dJ0_init_db425_32 ce_J7_copyOfRange_39247 rfl ml_J0_54 st_J7_copyOfRange_39247 (Nat.le_of_ble_eq_true rfl)) (by omega) (by omega) (by omega) (c_copR (g := g) (q := 0) (k := l.length) hb1.ra rfl (by omega) (by omega) (by omega) hac fun r H2 g2 hr z2 e2 => ?_)
    replace ho := ho.fr e2 (by simp)
    have hrq : r ≠ q := fun z => by have := ho.1.lt; have := hol; rw [z2] at z; omega
    rw [List.drop_zero, htk] at hr
    refine V_putN dJ0_init_db425_35 fp_J0_init_db425_9 ho (by decide) ⟨rfl, rfl⟩ (Nat.le_of_ble_eq_true rfl) rfl fun H3 ho e3 z3 => ?_
    refine V_goto (tgt := 97) dJ0_init_db425_38 (by decide) ?_
    exact V_retv dJ0_init_db425_97 rfl (kk H3 g2 r ho (hr.ne hrq z3) ((E.trans (e2.wide (by simp))).trans e3))
set_option maxHeartbeats 1000000 in
set_option maxRecDepth 100000 in
theorem c_strIn {G : GT} {H : Heap} {g : Nat → Nat} {t a cp q : Nat} {X : String → Heap → Prop} {l : List Int32} (h : SB G H g t a l cp) (ht33 : t ≠ 33) (hlt : l.length < cp) {v0 : Value} (ho : Ob G H g 33 q 0 [v0, .int 0, .int 0, .int 0]) {F : Heap → Prop} (kk : ∀ (H1 : Heap) (g1 : Nat → Nat) (b : Nat), Ob G H1 g1 33 q 0 [.ref b, .int 0, .int 0, .int 0] → Ia G H1 g1 33 b 2 l → Ext G [33] H g H1 g1 → F H1) : Call G kJ0_init_81219 4 1 l.length [.ref q, .ref a] H (qv F) X := by
  refine startL (L0 := [some (.ref q), some (.ref a)]) rfl rfl pl_J0_init_81219 (Nat.le_of_ble_eq_true rfl) ?_
  refine V_aload_0 dJ0_init_81219_0 ?_
  refine V_aload_1 dJ0_init_81219_1 ?_
  refine V_null dJ0_init_81219_2 ?_
  refine V_call_v (runI2 dJ0_init_81219_3 ce_J0_init_db425 rfl rfl rfl ml_J0_489 im_J0_init_db425 (Nat.le_of_ble_eq_true rfl)) (by omega) (by omega) (by omega) (c_strIn0 h ht33 hlt ho ho.1.lt fun H1 g1 b ho1 hb1 e1 => ?_)
  exact V_retv dJ0_init_81219_6 rfl (kk H1 g1 b ho1 hb1 e1)
set_option maxHeartbeats 1000000 in
set_option maxRecDepth 100000 in
theorem c_jToS {G : GT} {H : Heap} {g : Nat → Nat} {t a cp : Nat} {X : String → Heap → Prop} {l : List Int32} (h : SB G H g t a l cp) (ht33 : t ≠ 33) (hlt : l.length < cp) {F : Nat → Heap → Prop} (kk : ∀ (q : Nat) (H1 : Heap) (g1 : Nat → Nat), Sz G H1 g1 q l → Ext G [33] H g H1 g1 → F q H1) : Call G kJ4_toString_0e30d 5 2 (l.length + 4) [.ref a] H (qa F) X := by
  refine startL (L0 := [some (.ref a)]) rfl rfl pl_J4_toString_0e30d (Nat.le_of_ble_eq_true rfl) ?_
  refine V_mk2 (g := g) 33 4 dJ4_toString_0e30d_0 nw_J4_18 rfl (by omega) (by omega) fun q H1 g1 ho e1 z1 => ?_
  have h1 := h.fr e1 (by simp)
  refine V_dup dJ4_toString_0e30d_3 rfl ?_
  refine V_aload_0 dJ4_toString_0e30d_4 ?_
  refine V_call_v (runI1 dJ4_toString_0e30d_5 ce_J0_init_81219 rfl rfl rfl ml_J4_137 im_J0_init_81219 (Nat.le_of_ble_eq_true rfl)) (by omega) (by omega) (by omega) (c_strIn h1 ht33 hlt ho fun H2 g2 b ho2 hb2 e2 => ?_)
  exact V_reta dJ4_toString_0e30d_8 rfl (Or.inl ⟨_, rfl⟩) (kk q H2 (gall G g2 [33] 0) (sz_of ho2 hb2 h.asc) (((e1.wide (by simp)).trans e2).trans ext_frz))
set_option maxHeartbeats 1000000 in
set_option maxRecDepth 100000 in
theorem c_sIn3 {G : GT} {H : Heap} {g : Nat → Nat} {a b : Nat} {X : String → Heap → Prop} {l : List Int32} (ho : Ob G H g 33 a 0 [.null, .int 0, .int 0, .int 0]) (hb : Ia G H g 33 b 2 l) (hba : b ≠ a) {F : Heap → Prop} (kk : ∀ H1 : Heap, Ob G H1 g 33 a 0 [.ref b, .int 0, .int 0, .int 0] → Ia G H1 g 33 b 2 l → Ext G [33] H g H1 g → F H1) : Call G kJ0_init_031fb 1 0 0 [.ref a, .ref b, .int 0] H (qv F) X := by
  refine startL (L0 := [some (.ref a), some (.ref b), some (.int 0)]) rfl rfl pl_J0_init_031fb (Nat.le_of_ble_eq_true rfl) ?_
  refine V_aload_0 dJ0_init_031fb_0 ?_
  refine V_oinit dJ0_init_031fb_1 ml_J0_1 ex_oiI ex_oiC (Nat.le_of_ble_eq_true rfl) (Nat.le_of_ble_eq_true rfl) ?_
  refine V_aload_0 dJ0_init_031fb_4 ?_
  refine V_aload_1 dJ0_init_031fb_5 ?_
  refine V_putN dJ0_init_031fb_6 fp_J0_init_031fb_9 ho (by decide) ⟨rfl, rfl⟩ (Nat.le_of_ble_eq_true rfl) rfl fun H1 ho e1 z1 => ?_
  have hb := hb.ne hba z1
  refine V_aload_0 dJ0_init_031fb_9 ?_
  refine V_iload_2 dJ0_init_031fb_10 ?_
  refine V_putN dJ0_init_031fb_11 fp_J0_init_031fb_15 ho (by decide) ⟨rfl, rfl⟩ (Nat.le_of_ble_eq_true rfl) rfl fun H2 ho e2 z2 => ?_
  have hb := hb.ne hba z2
  exact V_retv dJ0_init_031fb_14 rfl (kk H2 ho hb (e1.trans e2))
set_option maxHeartbeats 1000000 in
set_option maxRecDepth 100000 in
theorem c_newStr {G : GT} {H : Heap} {g : Nat → Nat} {b n q k : Nat} {X : String → Heap → Prop} {l : List Int32} (hb : ra G H b 2 n (iv l)) (hl : l.length = n) (hn : n < 2 ^ 20) (hqk : q + k ≤ n) (hlt : ¬ (q = 0 ∧ q + k = n)) (hk : 0 < k) (hac : asc l) {F : Nat → Heap → Prop} (kk : ∀ (r : Nat) (H1 : Heap) (g1 : Nat → Nat), Sz G H1 g1 r ((l.drop q).take k) → Ext G [33] H g H1 g1 → F r H1) : Call G kJ1_newString_b4f7a 3 2 (k + 4) [.ref b, .int (nI q), .int (nI k)] H (qa F) X := by
  refine startL (L0 := [some (.ref b), some (.int (nI q)), some (.int (nI k))]) rfl rfl pl_J1_newString_b4f7a (Nat.le_of_ble_eq_true rfl) ?_
  refine V_iload_2 dJ1_newString_b4f7a_0 ?_
  refine V_if_ne (tgt := 7) dJ1_newString_b4f7a_1 (by decide) (fun c_1 => ?_) (fun c_1 => ?_)
  · refine V_mk2 (g := g) 33 4 dJ1_newString_b4f7a_7 nw_J1_1 rfl (by omega) (by omega) fun r H1 g1 ho e1 z1 => ?_
    have hol := ho.1.lt
    replace hb := hb.kept (e1.2 b hb.lt (by simp)).1
    refine V_dup dJ1_newString_b4f7a_10 rfl ?_
    refine V_aload_0 dJ1_newString_b4f7a_11 ?_
    refine V_iload_1 dJ1_newString_b4f7a_12 ?_
    refine V_iload_1 dJ1_newString_b4f7a_13 ?_
    refine V_iload_2 dJ1_newString_b4f7a_14 ?_
    refine V_iadd dJ1_newString_b4f7a_15 ?_
    refine V_int (y := nI (q + k)) (nI_add _ _) ?_
    refine V_call_a (runS3 dJ1_newString_b4f7a_16 ce_J7_copyOfRange_39247 rfl ml_J1_232 st_J7_copyOfRange_39247 (Nat.le_of_ble_eq_true rfl)) (by omega) (by omega) (by omega) (c_copR (g := g1) hb hl hn hqk hlt hac fun u H2 g2 hu z2 e2 => ?_)
    replace ho := ho.fr e2 (by simp)
    refine V_iconst (v := 0) dJ1_newString_b4f7a_19 rfl ?_
    refine V_call_v (runI2 dJ1_newString_b4f7a_20 ce_J0_init_031fb rfl rfl rfl ml_J1_112 im_J0_init_031fb (Nat.le_of_ble_eq_true rfl)) (by omega) (by omega) (by omega) (c_sIn3 ho hu (fun z => by rw [← z, z2] at hol; exact Nat.lt_irrefl _ hol) fun H3 ho3 hu3 e3 => ?_)
    exact V_reta dJ1_newString_b4f7a_23 rfl (Or.inl ⟨_, rfl⟩) (kk r H3 (gall G g2 [33] 0) (sz_of ho3 hu3 (asc_cut hac)) ((((e1.wide (by simp)).trans (e2.wide (by simp))).trans e3).trans ext_frz))
  · exact absurd ((nI_eq (b := 0) (by omega) (by decide)).mp c_1) (by omega)

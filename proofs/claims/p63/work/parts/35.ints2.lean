set_option maxHeartbeats 1000000 in
set_option maxRecDepth 100000 in
theorem c_getCh {G : GT} {H : Heap} {g : Nat → Nat} {X : String → Heap → Prop} {t b p : Nat} {x : Int32} {row : List Int32} (ht : t ≠ 0) (hTb : gA G 1002 ≠ b) (hOb : gA G 1003 ≠ b) (hp : (itoa x).length ≤ p) (hpl : p ≤ row.length) (hb : Ia G H g t b 2 row) (hac : asc row) {F : Heap → Prop} (kk : ∀ (H1 : Heap) (r1 : List Int32), Ia G H1 g t b 2 r1 → r1.length = row.length → r1.take p = row.take (p - (itoa x).length) ++ itoa x → (∀ j, p ≤ j → r1[j]? = row[j]?) → asc r1 → (∀ q : Nat, q ≠ b → H1[q]? = H[q]?) → F H1) : Call G kJ6_getChars_ba4f3 0 0 0 [.int x, .int (nI p), .ref b] H (qi fun _ H1 => F H1) X := by
  refine startL (L0 := [some (.int x), some (.int (nI p)), some (.ref b), none, none, none, none]) rfl rfl pl_J6_getChars_ba4f3 (Nat.le_of_ble_eq_true rfl) ?_
  refine V_iload_1 dJ6_getChars_ba4f3_0 ?_
  refine V_istore_5 dJ6_getChars_ba4f3_1 rfl ?_
  refine V_iload_0 dJ6_getChars_ba4f3_3 ?_
  have e0 : (0 : Int32).toInt = 0 := rfl
  refine V_if_ge (tgt := 11) dJ6_getChars_ba4f3_4 (by decide) (fun c_4 => ?_) (fun c_4 => ?_)
  · refine V_iconst (v := 0) dJ6_getChars_ba4f3_11 rfl ?_
    refine V_istore_6 dJ6_getChars_ba4f3_12 rfl ?_
    refine V_iload_6 dJ6_getChars_ba4f3_14 ?_
    refine V_if_ne (tgt := 22) dJ6_getChars_ba4f3_16 (by decide) (fun c_16 => ?_) (fun c_16 => ?_)
    · exact absurd rfl c_16
    · refine V_iload_0 dJ6_getChars_ba4f3_19 ?_
      refine V_ineg dJ6_getChars_ba4f3_20 ?_
      refine V_istore_0 dJ6_getChars_ba4f3_21 ?_
      have hx : ¬ x < 0 := Int32.not_lt.mpr c_4
      rw [show itoa x = itoN 5 x.toInt.natAbs by unfold itoa; rw [if_neg hx]] at kk hp
      exact c_getCh0 (sg := 0) ht hTb hOb 5 x.toInt.natAbs (-x) p row H (by have h := mt Int32.lt_iff_toInt_lt.mpr hx; rw [Int32.toInt_neg, Int.bmod_eq_of_le (by have := Int32.toInt_lt x; omega) (by have := Int32.toInt_lt x; omega)]; omega) absI (by have := absI (x := x); omega) (Or.inl (by omega)) (by rw [if_pos rfl]; omega) hpl hb hac (by rw [if_pos rfl]; exact kk)
  · refine V_iconst (v := 1) dJ6_getChars_ba4f3_7 rfl ?_
    refine V_goto (tgt := 12) dJ6_getChars_ba4f3_8 (by decide) ?_
    refine V_istore_6 dJ6_getChars_ba4f3_12 rfl ?_
    refine V_iload_6 dJ6_getChars_ba4f3_14 ?_
    refine V_if_ne (tgt := 22) dJ6_getChars_ba4f3_16 (by decide) (fun c_16 => ?_) (fun c_16 => ?_)
    · have hx : x < 0 := Int32.not_le.mp c_4
      rw [show itoa x = 45 :: itoN 5 x.toInt.natAbs by unfold itoa; rw [if_pos hx]] at kk hp
      exact c_getCh0 (sg := 1) ht hTb hOb 5 x.toInt.natAbs x p row H (by have := Int32.lt_iff_toInt_lt.mp hx; omega) absI (by have := absI (x := x); omega) (Or.inl (by omega)) (by rw [if_neg (by decide)]; rw [List.length_cons] at hp; omega) hpl hb hac (by rw [if_neg (by decide)]; exact kk)
    · exact absurd c_16 (by decide)
theorem V_oldA {G : GT} {K : MT} {d c s : Nat} {Q : Option Value → Heap → Prop} {X : String → Heap → Prop} {H : Heap} {L : List (Option Value)} {rest : List Value} {pc : Nat} (k : gA G 1002 < (gB G).heap.size → gA G 1003 < (gB G).heap.size → V G K d c s Q X pc L rest H) : V G K d c s Q X pc L rest H :=
  V_old fun hO _ => k hO.2.2.2.2.1.2.2.2.1.lt hO.2.2.2.2.1.2.2.2.2.1.lt
theorem V_call_iw {G : GT} {K : MT} {d c s : Nat} {Q : Option Value → Heap → Prop} {X : String → Heap → Prop} {H : Heap} {L : List (Option Value)} {pc : Nat} {K2 : MT} {as stk rest : List Value} {d2 c2 s2 : Nat} (hr : RunsTo G K pc stk rest K2 as H) (h1 : d2 + 1 ≤ d) (h2 : c2 ≤ c) (h3 : s2 ≤ s) (hM : Call G K2 d2 c2 s2 as H (qi fun _ H1 => ∀ r : Int32, V G K d (c - c2) (s - s2) Q X (pc + 3) L (.int r :: rest) H1) (fun E H1 => VX G K d (c - c2) (s - s2) Q X pc L E H1)) : V G K d c s Q X pc L stk H :=
  V_run hr h1 h2 h3 hM (fun v H1 h => by obtain ⟨r, rfl, h⟩ := h; exact h r) (fun _ _ h => h)
theorem gc_size {G : GT} {H H1 : Heap} {g g1 : Nat → Nat} {t b : Nat} {l l1 : List Int32} (h : Ia G H g t b 2 l) (h1 : Ia G H1 g1 t b 2 l1) (o : ∀ q : Nat, q ≠ b → H1[q]? = H[q]?) : H1.size = H.size := by
  have a1 := h.1.1.lt
  have a2 := h1.1.1.lt
  have k1 : ∀ q, q ≠ b → (q < H1.size ↔ q < H.size) := fun q hq => by
    have := o q hq
    constructor
    · intro z; rw [Array.getElem?_eq_getElem z] at this; exact (Array.getElem?_eq_some_iff.mp this.symm).1
    · intro z; rw [Array.getElem?_eq_getElem z] at this; exact (Array.getElem?_eq_some_iff.mp this).1
  rcases Nat.lt_trichotomy H1.size H.size with z | z | z
  · exact absurd ((k1 H1.size (by omega)).mpr z) (Nat.lt_irrefl _)
  · exact z
  · exact absurd ((k1 H.size (by omega)).mp z) (Nat.lt_irrefl _)
set_option maxHeartbeats 1000000 in
set_option maxRecDepth 100000 in
theorem c_asbAppI {G : GT} {H : Heap} {g : Nat → Nat} {t a cp : Nat} {X : String → Heap → Prop} {l : List Int32} (h : SB G H g t a l cp) {x : Int32} (hl16 : l.length < 2 ^ 16) (ht : t ≠ 0) {F : Nat → Heap → Prop} (kk : ∀ (H1 : Heap) (g1 : Nat → Nat) (cp1 : Nat), SB G H1 g1 t a (l ++ itoa x) cp1 → (l.length + (itoa x).length ≤ cp ∧ cp1 = cp ∨ cp < l.length + (itoa x).length ∧ cp1 = cp + max (l.length + (itoa x).length - cp) (cp + 2)) → Ext G [t] H g H1 g1 → F a H1) : Call G kJ5_append_c97b9 5 1 (cp + max (l.length + (itoa x).length - cp) (cp + 2)) [.ref a, .int x] H (qa F) X := by
  refine startL (L0 := [some (.ref a), some (.int x), none, none]) rfl rfl pl_J5_append_c97b9 (Nat.le_of_ble_eq_true rfl) ?_
  refine V_oldA fun hN2 hN3 => ?_
  have h11 := itoa_11 x
  have hla : (l ++ itoa x).length = l.length + (itoa x).length := List.length_append
  obtain ⟨b, mb, row, ho, hb, hcp, htk, hle, hac, hc18⟩ := id h
  refine V_aload_0 dJ5_append_c97b9_0 ?_
  refine V_getf dJ5_append_c97b9_1 fl_J5_79 ho.ro rfl ?_
  refine V_istore_2 dJ5_append_c97b9_4 rfl ?_
  refine V_iload_2 dJ5_append_c97b9_5 ?_
  refine V_iload_1 dJ5_append_c97b9_6 ?_
  refine V_call_i (runS1 dJ5_append_c97b9_7 ce_J6_stringSize_0f7a4 rfl ml_J5_245 st_J6_stringSize_0f7a4 (Nat.le_of_ble_eq_true rfl)) (by omega) (by omega) (by omega) (c_ssize ?_)
  refine V_iadd dJ5_append_c97b9_10 ?_
  refine V_int (y := nI (l ++ itoa x).length) (by rw [List.length_append]; exact nI_add _ _) ?_
  refine V_istore_3 dJ5_append_c97b9_11 rfl ?_
  refine V_aload_0 dJ5_append_c97b9_12 ?_
  refine V_iload_3 dJ5_append_c97b9_13 ?_
  refine V_call_v (runP (y2 := yJ5_getValue_6d5f1) (As := [.int (nI (l ++ itoa x).length)]) dJ5_append_c97b9_14 ce_J5_ensureCapacityInternal_d00df rfl ml_J5_100 im_J5_ensureCapacityInternal_d00df ins_1 pm_J5_ensureCapacityInternal_d00df rfl im_J5_getValue_6d5f1 se_J5_getValue_6d5f1 ho.ro ⟨_, rfl, rfl⟩ rfl (Nat.le_of_ble_eq_true rfl)) (by omega) (by omega) (by omega) (c_ensure h (by rw [List.length_append]; omega) ht fun H1 g1 cp1 h1 hq1 hcp1 e1 => ?_)
  rw [List.length_append] at hq1 hcp1
  clear ho hb htk hle hac hc18 hcp
  obtain ⟨b, mb, row, ho, hb, hcp, htk, hle, hac, hc18⟩ := id h1
  refine V_aload_0 dJ5_append_c97b9_17 ?_
  refine V_call_i (runV0 dJ5_append_c97b9_18 ce_J5_isLatin1_aae02 rfl ml_J5_83 im_J5_isLatin1_aae02 se_J5_isLatin1_aae02 ho.ro ⟨_, rfl, rfl⟩ (Nat.le_of_ble_eq_true rfl)) (by omega) (by omega) (by omega) (c_sbLatin h1 ?_)
  refine V_if_eq (tgt := 37) dJ5_append_c97b9_21 (by decide) (fun c_21 => ?_) (fun c_21 => ?_)
  · exact absurd c_21 (by decide)
  · refine V_iload_1 dJ5_append_c97b9_24 ?_
    refine V_iload_3 dJ5_append_c97b9_25 ?_
    refine V_aload_0 dJ5_append_c97b9_26 ?_
    refine V_getf dJ5_append_c97b9_27 fl_J5_15 ho.ro rfl ?_
    have hgb := tg_pos (hb.2.symm ▸ ht : tg G g1 b ≠ 0)
    have hlen : (l ++ itoa x).length = l.length + (itoa x).length := List.length_append
    refine V_call_iw (runS3 dJ5_append_c97b9_30 ce_J6_getChars_ba4f3 rfl ml_J5_248 st_J6_getChars_ba4f3 (Nat.le_of_ble_eq_true rfl)) (by omega) (by omega) (by omega) (c_getCh ht (fun z => Nat.lt_irrefl _ (Nat.lt_of_lt_of_le (z ▸ hN2) hgb)) (fun z => Nat.lt_irrefl _ (Nat.lt_of_lt_of_le (z ▸ hN3) hgb)) (by omega) (by omega) hb hac fun H2 r1 hb2 hl2 htk2 hhi2 hac2 o2 => fun r => ?_)
    have hba := ho.1.ne_ia (i := 0) hb (Nat.le_of_ble_eq_true rfl) rfl ⟨_, rfl, by decide⟩
    have ho2 := ho.ne hba.symm o2
    have e2 : Ext G [t] H1 g1 H2 g1 := Ext.put (gc_size hb hb2 o2) o2 (hb.2 ▸ List.mem_singleton.mpr rfl)
    refine V_pop dJ5_append_c97b9_33 rfl ?_
    refine V_goto (tgt := 48) dJ5_append_c97b9_34 (by decide) ?_
    refine V_aload_0 dJ5_append_c97b9_48 ?_
    refine V_iload_3 dJ5_append_c97b9_49 ?_
    refine V_putN dJ5_append_c97b9_50 fp_J5_append_c97b9_79 ho2 ht ⟨rfl, rfl⟩ (Nat.le_of_ble_eq_true rfl) rfl fun H3 ho3 e3 z3 => ?_
    refine V_aload_0 dJ5_append_c97b9_53 ?_
    have ht2 : r1.take (l ++ itoa x).length = l ++ itoa x := by rw [htk2, hlen, Nat.add_sub_cancel, htk]
    exact V_reta dJ5_append_c97b9_54 rfl (Or.inl ⟨_, rfl⟩) (kk H3 g1 cp1 ⟨b, mb, r1, ho3, hb2.ne hba z3, by omega, ht2, by omega, hac2, hc18⟩ hcp1 ((e1.trans e2).trans e3))
set_option maxHeartbeats 1000000 in
set_option maxRecDepth 100000 in
theorem c_jAppI {G : GT} {H : Heap} {g : Nat → Nat} {t a cp : Nat} {X : String → Heap → Prop} {l : List Int32} (h : SB G H g t a l cp) {x : Int32} (hl16 : l.length < 2 ^ 16) (ht : t ≠ 0) {F : Nat → Heap → Prop} (kk : ∀ (H1 : Heap) (g1 : Nat → Nat) (cp1 : Nat), SB G H1 g1 t a (l ++ itoa x) cp1 → (l.length + (itoa x).length ≤ cp ∧ cp1 = cp ∨ cp < l.length + (itoa x).length ∧ cp1 = cp + max (l.length + (itoa x).length - cp) (cp + 2)) → Ext G [t] H g H1 g1 → F a H1) : Call G kJ4_append_bf812 6 1 (cp + max (l.length + (itoa x).length - cp) (cp + 2)) [.ref a, .int x] H (qa F) X := by
  obtain ⟨fs, hfs⟩ := h.o
  refine startL (L0 := [some (.ref a), some (.int x)]) rfl rfl pl_J4_append_bf812 (Nat.le_of_ble_eq_true rfl) ?_
  refine V_aload_0 dJ4_append_bf812_0 ?_
  refine V_iload_1 dJ4_append_bf812_1 ?_
  refine V_call_a (runSU1 dJ4_append_bf812_2 ce_J5_append_c97b9 rfl ml_J4_53 sm_J5_append_c97b9 su_J4_J5 im_J5_append_c97b9 (by decide) hfs ⟨_, rfl, rfl⟩ (Nat.le_of_ble_eq_true rfl)) (by omega) (by omega) (by omega) (c_asbAppI h hl16 ht fun H1 g1 cp1 h1 hcp1 e1 => ?_)
  refine V_pop dJ4_append_bf812_5 rfl ?_
  refine V_aload_0 dJ4_append_bf812_6 ?_
  exact V_reta dJ4_append_bf812_7 rfl (Or.inl ⟨_, rfl⟩) (kk H1 g1 cp1 h1 hcp1 e1)

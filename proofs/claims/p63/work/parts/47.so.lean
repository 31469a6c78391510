theorem okc_grow {cp cp1 q : Nat} (h : okc cp) (hq : q ≤ 142) (hq2 : q ≤ 2 * cp + 2) (h1 : q ≤ cp ∧ cp1 = cp ∨ cp < q ∧ cp1 = cp + max (q - cp) (cp + 2)) : okc cp1 := by
  unfold okc at h ⊢
  omega
theorem SB.le {G : GT} {H : Heap} {g : Nat → Nat} {t a cp : Nat} {l : List Int32} (h : SB G H g t a l cp) : l.length ≤ cp := by
  obtain ⟨b, mb, row, h1, h2, h3, h4, h5, h6, h7⟩ := h
  exact h5
set_option maxHeartbeats 1000000 in
set_option maxRecDepth 100000 in
theorem c_soC {G : GT} {H : Heap} {g : Nat → Nat} {t a : Nat} {X : String → Heap → Prop} {l : List Int32} (h : SO G H g t a l) {x : Int32} (hx : 0 ≤ x ∧ x < 128) (hl : l.length + 1 ≤ 142) (ht : t ≠ 0) {F : Nat → Heap → Prop} (kk : ∀ (H1 : Heap) (g1 : Nat → Nat), SO G H1 g1 t a (l ++ [x]) → Ext G [t] H g H1 g1 → F a H1) : Call G kJ4_append_cf468 6 1 286 [.ref a, .int x] H (qa F) X := by
  obtain ⟨cp, h0, hcp⟩ := h
  have hle := h0.le
  unfold okc at hcp
  obtain ⟨fs, hfs⟩ := h0.o
  refine startL (L0 := [some (.ref a), some (.int x)]) rfl rfl pl_J4_append_cf468 (Nat.le_of_ble_eq_true rfl) ?_
  refine V_aload_0 dJ4_append_cf468_0 ?_
  refine V_iload_1 dJ4_append_cf468_1 ?_
  refine V_call_a (runSU1 dJ4_append_cf468_2 ce_J5_append_3fe6f rfl ml_J4_50 sm_J5_append_3fe6f su_J4_J5 im_J5_append_3fe6f (by decide) hfs ⟨_, rfl, rfl⟩ (Nat.le_of_ble_eq_true rfl)) (by omega) (by omega) (by omega) (c_asbAppC h0 hx (by omega) ht fun H1 g1 cp1 h1 hcp1 e1 => ?_)
  refine V_pop dJ4_append_cf468_5 rfl ?_
  refine V_aload_0 dJ4_append_cf468_6 ?_
  exact V_reta dJ4_append_cf468_7 rfl (Or.inl ⟨_, rfl⟩) (kk H1 g1 ⟨cp1, h1, okc_grow hcp hl (by omega) hcp1⟩ e1)
set_option maxHeartbeats 1000000 in
set_option maxRecDepth 100000 in
theorem c_soS {G : GT} {H : Heap} {g : Nat → Nat} {t a : Nat} {X : String → Heap → Prop} {l : List Int32} (h : SO G H g t a l) {m : Nat} {l2 : List Int32} (hm : Sz G H g m l2) (hl : l.length + l2.length ≤ 142) (hl2 : l2.length ≤ 18 ∨ l.length + l2.length ≤ 34) (ht : t ≠ 0) {F : Nat → Heap → Prop} (kk : ∀ (H1 : Heap) (g1 : Nat → Nat), SO G H1 g1 t a (l ++ l2) → Ext G [t] H g H1 g1 → F a H1) : Call G kJ4_append_15ec4 6 1 286 [.ref a, .ref m] H (qa F) X := by
  obtain ⟨cp, h0, hcp⟩ := h
  have hle := h0.le
  unfold okc at hcp
  obtain ⟨fs, hfs⟩ := h0.o
  refine startL (L0 := [some (.ref a), some (.ref m)]) rfl rfl pl_J4_append_15ec4 (Nat.le_of_ble_eq_true rfl) ?_
  refine V_aload_0 dJ4_append_15ec4_0 ?_
  refine V_aload_1 dJ4_append_15ec4_1 ?_
  refine V_call_a (runSU1 dJ4_append_15ec4_2 ce_J5_append_cf1ce rfl ml_J4_29 sm_J5_append_cf1ce su_J4_J5 im_J5_append_cf1ce (by decide) hfs ⟨_, rfl, rfl⟩ (Nat.le_of_ble_eq_true rfl)) (by omega) (by omega) (by omega) (c_asbAppS h0 hm (by omega) ht fun H1 g1 cp1 h1 hcp1 e1 => ?_)
  refine V_pop dJ4_append_15ec4_5 rfl ?_
  refine V_aload_0 dJ4_append_15ec4_6 ?_
  exact V_reta dJ4_append_15ec4_7 rfl (Or.inl ⟨_, rfl⟩) (kk H1 g1 ⟨cp1, h1, okc_grow hcp hl (by omega) hcp1⟩ e1)
set_option maxHeartbeats 1000000 in
set_option maxRecDepth 100000 in
theorem c_soI {G : GT} {H : Heap} {g : Nat → Nat} {t a : Nat} {X : String → Heap → Prop} {l : List Int32} (h : SO G H g t a l) {x : Int32} (hl : l.length + (itoa x).length ≤ 142) (ht : t ≠ 0) {F : Nat → Heap → Prop} (kk : ∀ (H1 : Heap) (g1 : Nat → Nat), SO G H1 g1 t a (l ++ itoa x) → Ext G [t] H g H1 g1 → F a H1) : Call G kJ4_append_bf812 6 1 286 [.ref a, .int x] H (qa F) X := by
  obtain ⟨cp, h0, hcp⟩ := h
  have hle := h0.le
  unfold okc at hcp
  obtain ⟨fs, hfs⟩ := h0.o
  have h11 := itoa_11 x
  refine startL (L0 := [some (.ref a), some (.int x)]) rfl rfl pl_J4_append_bf812 (Nat.le_of_ble_eq_true rfl) ?_
  refine V_aload_0 dJ4_append_bf812_0 ?_
  refine V_iload_1 dJ4_append_bf812_1 ?_
  refine V_call_a (runSU1 dJ4_append_bf812_2 ce_J5_append_c97b9 rfl ml_J4_53 sm_J5_append_c97b9 su_J4_J5 im_J5_append_c97b9 (by decide) hfs ⟨_, rfl, rfl⟩ (Nat.le_of_ble_eq_true rfl)) (by omega) (by omega) (by omega) (c_asbAppI h0 (by omega) ht fun H1 g1 cp1 h1 hcp1 e1 => ?_)
  refine V_pop dJ4_append_bf812_5 rfl ?_
  refine V_aload_0 dJ4_append_bf812_6 ?_
  exact V_reta dJ4_append_bf812_7 rfl (Or.inl ⟨_, rfl⟩) (kk H1 g1 ⟨cp1, h1, okc_grow hcp hl (by omega) hcp1⟩ e1)
theorem c_soLen {G : GT} {H : Heap} {g : Nat → Nat} {t a : Nat} {X : String → Heap → Prop} {l : List Int32} (h : SO G H g t a l) {F : Int32 → Heap → Prop} (kk : F (nI l.length) H) : Call G kJ4_length_8abf5 1 0 0 [.ref a] H (qi F) X := by
  obtain ⟨cp, h0, hcp⟩ := h
  exact c_jLen h0 kk
theorem c_soChar {G : GT} {H : Heap} {g : Nat → Nat} {t a : Nat} {X : String → Heap → Prop} {l : List Int32} (h : SO G H g t a l) {j : Nat} (hj : j < l.length) {F : Int32 → Heap → Prop} (kk : F (l.getD j 0) H) : Call G kJ4_charAt_5068e 4 0 0 [.ref a, .int (nI j)] H (qi F) X := by
  obtain ⟨cp, h0, hcp⟩ := h
  exact c_jChar h0 hj kk
theorem c_soSet0 {G : GT} {H : Heap} {g : Nat → Nat} {t a : Nat} {X : String → Heap → Prop} {l : List Int32} (h : SO G H g t a l) (ht : t ≠ 0) {F : Heap → Prop} (kk : ∀ H1 : Heap, SO G H1 g t a [] → Ext G [t] H g H1 g → F H1) : Call G kJ4_setLength_d00df 2 0 0 [.ref a, .int 0] H (qv F) X := by
  obtain ⟨cp, h0, hcp⟩ := h
  exact c_jSet0 h0 ht fun H1 h1 e => kk H1 ⟨cp, h1, hcp⟩ e
set_option maxHeartbeats 1000000 in
set_option maxRecDepth 100000 in
theorem c_soToS {G : GT} {H : Heap} {g : Nat → Nat} {t a : Nat} {X : String → Heap → Prop} {l : List Int32} (h : SO G H g t a l) (ht33 : t ≠ 33) (hn : l.length ≠ 16 ∧ l.length ≠ 34 ∧ l.length ≠ 70 ∧ l.length ≠ 142) {F : Nat → Heap → Prop} (kk : ∀ (q : Nat) (H1 : Heap) (g1 : Nat → Nat), Sz G H1 g1 q l → Ext G [33] H g H1 g1 → F q H1) : Call G kJ4_toString_0e30d 5 2 146 [.ref a] H (qa F) X := by
  obtain ⟨cp, h0, hcp⟩ := h
  have hle := h0.le
  unfold okc at hcp
  refine startL (L0 := [some (.ref a)]) rfl rfl pl_J4_toString_0e30d (Nat.le_of_ble_eq_true rfl) ?_
  refine V_mk2 (g := g) 33 4 dJ4_toString_0e30d_0 nw_J4_18 rfl (by omega) (by omega) fun q H1 g1 ho e1 z1 => ?_
  have h1 := h0.fr e1 (by simp)
  refine V_dup dJ4_toString_0e30d_3 rfl ?_
  refine V_aload_0 dJ4_toString_0e30d_4 ?_
  refine V_call_v (runI1 dJ4_toString_0e30d_5 ce_J0_init_81219 rfl rfl rfl ml_J4_137 im_J0_init_81219 (Nat.le_of_ble_eq_true rfl)) (by omega) (by omega) (by omega) (c_strIn h1 ht33 (by omega) ho fun H2 g2 b ho2 hb2 e2 => ?_)
  exact V_reta dJ4_toString_0e30d_8 rfl (Or.inl ⟨_, rfl⟩) (kk q H2 (gall G g2 [33] 0) (sz_of ho2 hb2 h0.asc) (((e1.wide (by simp)).trans e2).trans ext_frz))
theorem c_soInit {G : GT} {H : Heap} {g : Nat → Nat} {t a : Nat} {X : String → Heap → Prop} {v0 v1 : Value} (ho : Ob G H g t a 1 [v0, v1, .int 0, .int 0]) (ht : t ≠ 0) {F : Heap → Prop} (kk : ∀ (H1 : Heap) (g1 : Nat → Nat), SO G H1 g1 t a [] → Ext G [t] H g H1 g1 → F H1) : Call G kJ4_init_da8c8 2 1 16 [.ref a] H (qv F) X :=
  c_sbInit ho ht fun H1 g1 h1 e => kk H1 g1 ⟨16, h1, Or.inl rfl⟩ e
/-- what a state must keep for its copy -/
def okS (S : StC) : Prop := S.2.2.1.length ≤ 12 ∧ S.2.2.2.1.length ≤ 20
theorem c_copyS {G : GT} {H : Heap} {g : Nat → Nat} {a : Nat} {X : String → Heap → Prop} {S : StC} (h : MS G H g 0 a S) (hok : okS S) {F : Nat → Heap → Prop} (kk : ∀ (q : Nat) (H1 : Heap) (g1 : Nat → Nat), MS G H1 g1 10 q S → Ext G [10, 11, 12, 13, 14, 15, 16] H g H1 g1 → F q H1) : Call G kX9_copy 8 37 2038 [.ref a] H (qa F) X := by
  obtain ⟨bal, ten, cs, ps, n, ch, td, nx⟩ := S
  exact c_stCopy h hok.1 hok.2 kk
/-- all tags that a call of the registry may write -/
def tsA : List Nat := [1, 2, 3, 4, 5, 10, 11, 12, 13, 14, 15, 16, 21, 22, 23, 24, 25, 26, 27, 28, 29, 30, 31, 33, 34, 35, 40, 41, 42, 43]
def accR (R : RgC) (S2 : StC) (K2 : ScC) : RgC := (S2, R.2.1, R.2.2.1, pushE R.2.2.2.1 R.1, R.2.2.2.2.1, R.2.2.2.2.2.1, R.2.2.2.2.2.2.1, R.2.2.2.2.2.2.2.1, R.2.2.2.2.2.2.2.2.1, K2)
def rgK (R : RgC) : ScC := R.2.2.2.2.2.2.2.2.2
def rgW (R : RgC) : List Int32 := R.2.2.2.2.1
def rgX (R : RgC) : List Int32 := R.2.2.2.2.2.1
def rgU (R : RgC) : List Int32 := R.2.2.2.2.2.2.1
def rgE (R : RgC) : List StC := R.2.2.2.1
def setK (R : RgC) (K2 : ScC) : RgC := (R.1, R.2.1, R.2.2.1, R.2.2.2.1, R.2.2.2.2.1, R.2.2.2.2.2.1, R.2.2.2.2.2.2.1, R.2.2.2.2.2.2.2.1, R.2.2.2.2.2.2.2.2.1, K2)
def setW (R : RgC) (w : List Int32) : RgC := (R.1, R.2.1, R.2.2.1, R.2.2.2.1, w, R.2.2.2.2.2.1, R.2.2.2.2.2.2.1, R.2.2.2.2.2.2.2.1, R.2.2.2.2.2.2.2.2.1, R.2.2.2.2.2.2.2.2.2)
def setX (R : RgC) (x : List Int32) : RgC := (R.1, R.2.1, R.2.2.1, R.2.2.2.1, R.2.2.2.2.1, x, R.2.2.2.2.2.2.1, R.2.2.2.2.2.2.2.1, R.2.2.2.2.2.2.2.2.1, R.2.2.2.2.2.2.2.2.2)
def setU (R : RgC) (u : List Int32) : RgC := (R.1, R.2.1, R.2.2.1, R.2.2.2.1, R.2.2.2.2.1, R.2.2.2.2.2.1, u, R.2.2.2.2.2.2.2.1, R.2.2.2.2.2.2.2.2.1, R.2.2.2.2.2.2.2.2.2)
def setP (R : RgC) (e : Int32) : RgC := (R.1, R.2.1, R.2.2.1, R.2.2.2.1, R.2.2.2.2.1, R.2.2.2.2.2.1, R.2.2.2.2.2.2.1, e, R.2.2.2.2.2.2.2.2.1, R.2.2.2.2.2.2.2.2.2)
def setF (R : RgC) (f : Int32) : RgC := (R.1, R.2.1, R.2.2.1, R.2.2.2.1, R.2.2.2.2.1, R.2.2.2.2.2.1, R.2.2.2.2.2.2.1, R.2.2.2.2.2.2.2.1, f, R.2.2.2.2.2.2.2.2.2)

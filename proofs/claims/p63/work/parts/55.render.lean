theorem itoN_l1 : ∀ (f n : Nat), n < 10 → (itoN (f + 1) n).length = 1 := by
  intro f n h
  rw [itoN, if_pos h]; rfl
theorem itoN_l2 : ∀ (f n : Nat), n < 100 → (itoN (f + 1) n).length ≤ 2 := by
  intro f n h
  rw [itoN]
  split
  · exact Nat.le_succ 1
  · exact Nat.le_refl 2
theorem itoa_nI {n : Nat} (h : n < 2 ^ 31) : itoa (nI n) = itoN 5 n := by
  rw [itoa, if_neg (nI_pos h), nI_toInt h]; rfl
theorem itoa_1 {n : Nat} (h : n < 10) : (itoa (nI n)).length = 1 := by rw [itoa_nI (by omega)]; exact itoN_l1 4 n h
theorem itoa_2 {n : Nat} (h : n < 100) : (itoa (nI n)).length ≤ 2 := by rw [itoa_nI (by omega)]; exact itoN_l2 4 n h
/-- the bonds' numbers are small -/
def tenB (l : List Int32) : Prop := (∀ j : Nat, ∃ v : Nat, v ≤ 20 ∧ l.getD j 0 = nI v) ∧ l.getD 0 0 = 0
theorem rd_ten {l : List Int32} (h : tenB l) (i : Int32) : ∃ v : Nat, v ≤ 20 ∧ rd l 64 i = nI v := by
  unfold rd
  split
  · exact h.1 _
  · exact ⟨0, by omega, rfl⟩
def rbL (ten : List Int32) (n x : Int32) : Nat → Int32 → List Int32 → List Int32
  | 0, _, u => u
  | k + 1, i, u => if n ≤ i then u else if rd ten 64 (x * 8 + i) ≤ 0 then rbL ten n x k (i + 1) u else rbL ten n x k (i + 1) (u ++ [45] ++ itoa i ++ [47] ++ itoa (rd ten 64 (x * 8 + i)))
def rbV (S : StC) (x : Int32) : List Int32 := rbL S.2.1 S.2.2.2.2.1 x 8 0 ([] ++ itoa x ++ [40] ++ itoa (rd S.1 8 x) ++ [41])
def rc1 (c : CaseC) : List Int32 := [] ++ [35] ++ itoa (cId c) ++ [cSd c] ++ [32] ++ itoa (cPl c) ++ [62] ++ itoa (cDf c) ++ [32] ++ itoa (cCl c) ++ [120] ++ itoa (cDu c) ++ [33] ++ itoa (cDl c) ++ [58] ++ cMt c
def rcV (c : CaseC) : List Int32 := if cSd c = 102 then rc1 c else rc1 c ++ [61] ++ itoa (cAw c)
set_option maxHeartbeats 1000000 in
set_option maxRecDepth 100000 in
theorem c_rbL {G : GT} {X : String → Heap → Prop} {H0 : Heap} {g0 : Nat → Nat} {o : Nat} {R : RgC} (hten : tenB R.1.2.1) {x : Int32} {F : Int32 → Heap → Prop} {cc ss : Nat} : ∀ (k : Nat) (i : Int32) (ou : List Int32) (H : Heap) (g : Nat → Nat), RG G H g o (setU R ou) → Ext G tsA H0 g0 H g → R.1.2.2.2.2.1.toInt ≤ i.toInt + ((k : Nat) : Int) → ¬ i < 0 → (∀ j : Nat, j < 2 ^ 31 → 8 ≤ j → R.1.2.2.2.2.1 ≤ nI j) → ou.length + 5 * k ≤ 142 → (∀ (H1 : Heap) (g1 : Nat → Nat), RG G H1 g1 o (setU R (rbL R.1.2.1 R.1.2.2.2.2.1 x k i ou)) → Ext G tsA H0 g0 H1 g1 → F (nI (rbL R.1.2.1 R.1.2.2.2.2.1 x k i ou).length) H1) → V G kX12_renderBonds 7 (cc + 4 * k) (ss + 1144 * k) (qi F) X 45 [some (.ref o), some (.int x), some (.int i), none] [] H := by
  obtain ⟨S, sn, tk, ea, wd, sc, ou0, le, lf, K⟩ := R
  obtain ⟨bal, ten, cs, ps, n, ch, td, nx⟩ := S
  intro k
  induction k with
  | zero =>
    intro i ou H g hR E hm hi h8 hl kk
    change RG G H g o ((bal, ten, cs, ps, n, ch, td, nx), sn, tk, ea, wd, sc, ou, le, lf, K) at hR
    change n.toInt ≤ _ at hm
    obtain ⟨nw, sp, el, w, s, u, co, dk, se, ho, htk, hnw, hsp, hel, hw, hs, hu, hco, hdk, hse⟩ := hR
    obtain ⟨hbl, htl, b, k0, u0, v0, hno, -⟩ := id hnw
    refine V_iload_2 dX12_renderBonds_45 ?_
    refine V_aload_0 dX12_renderBonds_46 ?_
    refine V_getf dX12_renderBonds_47 fl_X12_10 ho.ro rfl ?_
    refine V_getf dX12_renderBonds_50 fl_X12_185 hno.ro rfl ?_
    refine V_icmp_ge (tgt := 99) dX12_renderBonds_53 (by decide) (fun c_53 => ?_) (fun c_53 => ?_)
    · refine V_aload_0 dX12_renderBonds_99 ?_
      refine V_getf dX12_renderBonds_100 fl_X12_40 ho.ro rfl ?_
      obtain ⟨fu, hfu⟩ := hu.o
      refine V_call_i (runV0 dX12_renderBonds_103 ce_J4_length_8abf5 rfl ml_X12_173 im_J4_length_8abf5 se_J4_length_8abf5 hfu ⟨_, rfl, rfl⟩ (Nat.le_of_ble_eq_true rfl)) (by omega) (by omega) (by omega) (c_soLen hu ?_)
      have hR : RG G H g o ((bal, ten, cs, ps, n, ch, td, nx), sn, tk, ea, wd, sc, ou, le, lf, K) := ⟨nw, sp, el, w, s, u, co, dk, se, ho, htk, hnw, hsp, hel, hw, hs, hu, hco, hdk, hse⟩
      have kk := kk H g
      rw [rbL] at kk
      exact V_reti dX12_renderBonds_106 rfl rfl (kk hR E)
    · exact absurd (loop_end hm) c_53
  | succ k ih =>
    intro i ou H g hR E hm hi h8 hl kk
    change RG G H g o ((bal, ten, cs, ps, n, ch, td, nx), sn, tk, ea, wd, sc, ou, le, lf, K) at hR
    change n.toInt ≤ _ at hm
    obtain ⟨nw, sp, el, w, s, u, co, dk, se, ho, htk, hnw, hsp, hel, hw, hs, hu, hco, hdk, hse⟩ := hR
    obtain ⟨hbl, htl, b, k0, u0, v0, hno, -⟩ := id hnw
    refine V_iload_2 dX12_renderBonds_45 ?_
    refine V_aload_0 dX12_renderBonds_46 ?_
    refine V_getf dX12_renderBonds_47 fl_X12_10 ho.ro rfl ?_
    refine V_getf dX12_renderBonds_50 fl_X12_185 hno.ro rfl ?_
    refine V_icmp_ge (tgt := 99) dX12_renderBonds_53 (by decide) (fun c_53 => ?_) (fun c_53 => ?_)
    · refine V_aload_0 dX12_renderBonds_99 ?_
      refine V_getf dX12_renderBonds_100 fl_X12_40 ho.ro rfl ?_
      obtain ⟨fu, hfu⟩ := hu.o
      refine V_call_i (runV0 dX12_renderBonds_103 ce_J4_length_8abf5 rfl ml_X12_173 im_J4_length_8abf5 se_J4_length_8abf5 hfu ⟨_, rfl, rfl⟩ (Nat.le_of_ble_eq_true rfl)) (by omega) (by omega) (by omega) (c_soLen hu ?_)
      have hR : RG G H g o ((bal, ten, cs, ps, n, ch, td, nx), sn, tk, ea, wd, sc, ou, le, lf, K) := ⟨nw, sp, el, w, s, u, co, dk, se, ho, htk, hnw, hsp, hel, hw, hs, hu, hco, hdk, hse⟩
      have kk := kk H g
      rw [rbL, if_pos c_53] at kk
      exact V_reti dX12_renderBonds_106 rfl rfl (kk hR E)
    · refine V_aload_0 dX12_renderBonds_56 ?_
      refine V_getf dX12_renderBonds_57 fl_X12_10 ho.ro rfl ?_
      refine V_iload_1 dX12_renderBonds_60 ?_
      refine V_iload_2 dX12_renderBonds_61 ?_
      refine V_call_i (runV2 dX12_renderBonds_62 ce_X9_tensionBetween rfl ml_X12_198 im_X9_tensionBetween se_X9_tensionBetween hno.ro ⟨_, rfl, rfl⟩ (Nat.le_of_ble_eq_true rfl)) (by omega) (by omega) (by omega) (c_tensionBetween hnw x i ?_)
      refine V_istore_3 dX12_renderBonds_65 rfl ?_
      refine V_iload_3 dX12_renderBonds_66 ?_
      refine V_if_le (tgt := 93) dX12_renderBonds_67 (by decide) (fun c_67 => ?_) (fun c_67 => ?_)
      · refine V_iinc_2 (v := 1) dX12_renderBonds_93 rfl rfl ?_
        refine V_goto (tgt := 45) dX12_renderBonds_96 (by decide) ?_
        refine V_drop 3 rfl ?_
        have hR : RG G H g o ((bal, ten, cs, ps, n, ch, td, nx), sn, tk, ea, wd, sc, ou, le, lf, K) := ⟨nw, sp, el, w, s, u, co, dk, se, ho, htk, hnw, hsp, hel, hw, hs, hu, hco, hdk, hse⟩
        exact V_mono (c2 := cc + 4 * k) (s2 := ss + 1144 * k) (by omega) (by omega) (ih (i + 1) _ H g hR E (loop_step c_53 hm) (nn_step c_53 hi) (by omega) (by omega) (by rw [rbL, if_neg c_53, if_pos c_67] at kk; exact kk))
      · obtain ⟨v, hv, ev⟩ := rd_ten hten (x * 8 + i)
        have l2 : (itoa (rd ten 64 (x * 8 + i))).length ≤ 2 := by rw [ev]; exact itoa_2 (by omega)
        obtain ⟨j, hj, ej⟩ := nI_of hi
        have hj8 : j < 8 := by
          rw [ej] at c_53
          exact Nat.lt_of_not_le fun z => c_53 (h8 j hj z)
        have l1 : (itoa i).length = 1 := by rw [ej]; exact itoa_1 (by omega)
        refine V_aload_0 dX12_renderBonds_70 ?_
        refine V_getf dX12_renderBonds_71 fl_X12_40 ho.ro rfl ?_
        refine V_bipush (v := 45) dX12_renderBonds_74 (by decide) ?_
        obtain ⟨fu, hfu⟩ := hu.o
        refine V_call_a (runV1 dX12_renderBonds_76 ce_J4_append_cf468 rfl ml_X12_178 im_J4_append_cf468 se_J4_append_cf468 hfu ⟨_, rfl, rfl⟩ (Nat.le_of_ble_eq_true rfl)) (by omega) (by omega) (by omega) (c_soC hu (by decide) (by (try simp only [List.length_append, List.length_cons, List.length_nil]); omega) (by decide) fun H1 g1 hu_ e1 => ?_)
        replace ho := ho.fr e1 (by decide)
        replace hnw := hnw.fr e1 (tkn0 (by decide))
        replace hsp := hsp.fr e1 (tkn0 (by decide))
        replace hel := hel.fr FRs e1 (by decide) (by decide)
        replace hw := hw.fr e1 (by decide)
        replace hs := hs.fr e1 (by decide)
        replace hu := hu_
        replace hco := hco.fr e1 (by decide)
        replace hdk := hdk.fr e1 (by decide)
        replace hse := hse.fr e1 (by decide)
        clear hu_
        replace E := E.trans (e1.wide (by decide))
        refine V_iload_2 dX12_renderBonds_79 ?_
        obtain ⟨fu, hfu⟩ := hu.o
        refine V_call_a (runV1 dX12_renderBonds_80 ce_J4_append_bf812 rfl ml_X12_367 im_J4_append_bf812 se_J4_append_bf812 hfu ⟨_, rfl, rfl⟩ (Nat.le_of_ble_eq_true rfl)) (by omega) (by omega) (by omega) (c_soI hu (by (try simp only [List.length_append, List.length_cons, List.length_nil]); omega) (by decide) fun H2 g2 hu_ e2 => ?_)
        replace ho := ho.fr e2 (by decide)
        replace hnw := hnw.fr e2 (tkn0 (by decide))
        replace hsp := hsp.fr e2 (tkn0 (by decide))
        replace hel := hel.fr FRs e2 (by decide) (by decide)
        replace hw := hw.fr e2 (by decide)
        replace hs := hs.fr e2 (by decide)
        replace hu := hu_
        replace hco := hco.fr e2 (by decide)
        replace hdk := hdk.fr e2 (by decide)
        replace hse := hse.fr e2 (by decide)
        clear hu_
        replace E := E.trans (e2.wide (by decide))
        refine V_bipush (v := 47) dX12_renderBonds_83 (by decide) ?_
        obtain ⟨fu, hfu⟩ := hu.o
        refine V_call_a (runV1 dX12_renderBonds_85 ce_J4_append_cf468 rfl ml_X12_178 im_J4_append_cf468 se_J4_append_cf468 hfu ⟨_, rfl, rfl⟩ (Nat.le_of_ble_eq_true rfl)) (by omega) (by omega) (by omega) (c_soC hu (by decide) (by (try simp only [List.length_append, List.length_cons, List.length_nil]); omega) (by decide) fun H3 g3 hu_ e3 => ?_)
        replace ho := ho.fr e3 (by decide)
        replace hnw := hnw.fr e3 (tkn0 (by decide))
        replace hsp := hsp.fr e3 (tkn0 (by decide))
        replace hel := hel.fr FRs e3 (by decide) (by decide)
        replace hw := hw.fr e3 (by decide)
        replace hs := hs.fr e3 (by decide)
        replace hu := hu_
        replace hco := hco.fr e3 (by decide)
        replace hdk := hdk.fr e3 (by decide)
        replace hse := hse.fr e3 (by decide)
        clear hu_
        replace E := E.trans (e3.wide (by decide))
        refine V_iload_3 dX12_renderBonds_88 ?_
        obtain ⟨fu, hfu⟩ := hu.o
        refine V_call_a (runV1 dX12_renderBonds_89 ce_J4_append_bf812 rfl ml_X12_367 im_J4_append_bf812 se_J4_append_bf812 hfu ⟨_, rfl, rfl⟩ (Nat.le_of_ble_eq_true rfl)) (by omega) (by omega) (by omega) (c_soI hu (by (try simp only [List.length_append, List.length_cons, List.length_nil]); omega) (by decide) fun H4 g4 hu_ e4 => ?_)
        replace ho := ho.fr e4 (by decide)
        replace hnw := hnw.fr e4 (tkn0 (by decide))
        replace hsp := hsp.fr e4 (tkn0 (by decide))
        replace hel := hel.fr FRs e4 (by decide) (by decide)
        replace hw := hw.fr e4 (by decide)
        replace hs := hs.fr e4 (by decide)
        replace hu := hu_
        replace hco := hco.fr e4 (by decide)
        replace hdk := hdk.fr e4 (by decide)
        replace hse := hse.fr e4 (by decide)
        clear hu_
        replace E := E.trans (e4.wide (by decide))
        refine V_pop dX12_renderBonds_92 rfl ?_
        refine V_iinc_2 (v := 1) dX12_renderBonds_93 rfl rfl ?_
        refine V_goto (tgt := 45) dX12_renderBonds_96 (by decide) ?_
        refine V_drop 3 rfl ?_
        have hR : RG G H4 g4 o ((bal, ten, cs, ps, n, ch, td, nx), sn, tk, ea, wd, sc, ou ++ [45] ++ itoa i ++ [47] ++ itoa (rd ten 64 (x * 8 + i)), le, lf, K) := ⟨nw, sp, el, w, s, u, co, dk, se, ho, htk, hnw, hsp, hel, hw, hs, hu, hco, hdk, hse⟩
        exact V_mono (c2 := cc + 4 * k) (s2 := ss + 1144 * k) (by omega) (by omega) (ih (i + 1) _ H4 g4 hR E (loop_step c_53 hm) (nn_step c_53 hi) h8 (by (try simp only [List.length_append, List.length_cons, List.length_nil]); omega) (by rw [rbL, if_neg c_53, if_neg c_67] at kk; exact kk))
set_option maxHeartbeats 1000000 in
set_option maxRecDepth 100000 in
theorem c_fRBo {G : GT} {X : String → Heap → Prop} {H : Heap} {g : Nat → Nat} {o : Nat} {R : RgC} {x : Int32} (hR : RG G H g o R) (htn : tenB R.1.2.1) (hn : ∃ m : Nat, m ≤ 8 ∧ R.1.2.2.2.2.1 = nI m) {F : Int32 → Heap → Prop} (kk : hasB R.1.2.2.2.2.1 x = true → ∀ (H1 : Heap) (g1 : Nat → Nat), RG G H1 g1 o (setU R (rbV R.1 x)) → Ext G tsA H g H1 g1 → F (nI (rbV R.1 x).length) H1) (kx : hasB R.1.2.2.2.2.1 x = false → ∀ H1 : Heap, H.size ≤ H1.size → (∀ q : Nat, q < H.size → H1[q]? = H[q]?) → X "java/lang/IndexOutOfBoundsException" H1) : Call G kX12_renderBonds 7 37 10302 [.ref o, .int x] H (qi F) X := by
  obtain ⟨S, sn, tk, ea, wd, sc, ou, le, lf, K⟩ := R
  refine startL (L0 := [some (.ref o), some (.int x), none, none]) rfl rfl pl_X12_renderBonds (Nat.le_of_ble_eq_true rfl) ?_
  have hR0 := hR
  obtain ⟨nw, sp, el, w, s, u, co, dk, se, ho, htk, hnw, hsp, hel, hw, hs, hu, hco, hdk, hse⟩ := hR
  have hS := hnw
  obtain ⟨bal, ten, cs, ps, n, ch, td, nx⟩ := S
  obtain ⟨hbl, htl, b, k0, u0, v0, hno, hbal, hten, hcs, hps⟩ := id hnw
  have hlc := hcs.len
  have hlp := hps.len
  obtain ⟨nn, hn8, en⟩ := hn
  replace en : n = nI nn := en
  have E : Ext G tsA H g H g := Ext.rf
  refine V_aload_0 dX12_renderBonds_0 ?_
  refine V_iload_1 dX12_renderBonds_1 ?_
  obtain ⟨fo, hfo⟩ := hR0.o
  refine V_call_v (runV1 dX12_renderBonds_2 ce_X12_requireButton rfl ml_X12_188 im_X12_requireButton se_X12_requireButton hfo ⟨_, rfl, rfl⟩ (Nat.le_of_ble_eq_true rfl)) (by omega) (by omega) (by omega) (c_rBut hR0 (fun hb => ?_) (fun hn H1 hz hq => VX_out rfl (kx hn H1 hz hq)))
  have i1 := itoa_11 (rd bal 8 x)
  have i2 := itoa_11 x
  refine V_aload_0 dX12_renderBonds_5 ?_
  refine V_getf dX12_renderBonds_6 fl_X12_40 ho.ro rfl ?_
  refine V_iconst (v := 0) dX12_renderBonds_9 rfl ?_
  obtain ⟨fu, hfu⟩ := hu.o
  refine V_call_v (runV1 dX12_renderBonds_10 ce_J4_setLength_d00df rfl ml_X12_99 im_J4_setLength_d00df se_J4_setLength_d00df hfu ⟨_, rfl, rfl⟩ (Nat.le_of_ble_eq_true rfl)) (by omega) (by omega) (by omega) (c_soSet0 hu (by decide) fun H1 hu_ e1 => ?_)
  replace ho := ho.fr e1 (by decide)
  replace hnw := hnw.fr e1 (tkn0 (by decide))
  replace hsp := hsp.fr e1 (tkn0 (by decide))
  replace hel := hel.fr FRs e1 (by decide) (by decide)
  replace hw := hw.fr e1 (by decide)
  replace hs := hs.fr e1 (by decide)
  replace hu := hu_
  replace hco := hco.fr e1 (by decide)
  replace hdk := hdk.fr e1 (by decide)
  replace hse := hse.fr e1 (by decide)
  clear hu_
  replace E := E.trans (e1.wide (by decide))
  refine V_aload_0 dX12_renderBonds_13 ?_
  refine V_getf dX12_renderBonds_14 fl_X12_40 ho.ro rfl ?_
  refine V_iload_1 dX12_renderBonds_17 ?_
  obtain ⟨fu, hfu⟩ := hu.o
  refine V_call_a (runV1 dX12_renderBonds_18 ce_J4_append_bf812 rfl ml_X12_367 im_J4_append_bf812 se_J4_append_bf812 hfu ⟨_, rfl, rfl⟩ (Nat.le_of_ble_eq_true rfl)) (by omega) (by omega) (by omega) (c_soI hu (by (try simp only [List.length_append, List.length_cons, List.length_nil]); omega) (by decide) fun H2 g2 hu_ e2 => ?_)
  replace ho := ho.fr e2 (by decide)
  replace hnw := hnw.fr e2 (tkn0 (by decide))
  replace hsp := hsp.fr e2 (tkn0 (by decide))
  replace hel := hel.fr FRs e2 (by decide) (by decide)
  replace hw := hw.fr e2 (by decide)
  replace hs := hs.fr e2 (by decide)
  replace hu := hu_
  replace hco := hco.fr e2 (by decide)
  replace hdk := hdk.fr e2 (by decide)
  replace hse := hse.fr e2 (by decide)
  clear hu_
  replace E := E.trans (e2.wide (by decide))
  refine V_bipush (v := 40) dX12_renderBonds_21 (by decide) ?_
  obtain ⟨fu, hfu⟩ := hu.o
  refine V_call_a (runV1 dX12_renderBonds_23 ce_J4_append_cf468 rfl ml_X12_178 im_J4_append_cf468 se_J4_append_cf468 hfu ⟨_, rfl, rfl⟩ (Nat.le_of_ble_eq_true rfl)) (by omega) (by omega) (by omega) (c_soC hu (by decide) (by (try simp only [List.length_append, List.length_cons, List.length_nil]); omega) (by decide) fun H3 g3 hu_ e3 => ?_)
  replace ho := ho.fr e3 (by decide)
  replace hnw := hnw.fr e3 (tkn0 (by decide))
  replace hsp := hsp.fr e3 (tkn0 (by decide))
  replace hel := hel.fr FRs e3 (by decide) (by decide)
  replace hw := hw.fr e3 (by decide)
  replace hs := hs.fr e3 (by decide)
  replace hu := hu_
  replace hco := hco.fr e3 (by decide)
  replace hdk := hdk.fr e3 (by decide)
  replace hse := hse.fr e3 (by decide)
  clear hu_
  replace E := E.trans (e3.wide (by decide))
  refine V_aload_0 dX12_renderBonds_26 ?_
  refine V_getf dX12_renderBonds_27 fl_X12_10 ho.ro rfl ?_
  refine V_iload_1 dX12_renderBonds_30 ?_
  obtain ⟨hbl2, htl2, b2, k2, u2, v2, hno2, -⟩ := id hnw
  refine V_call_i (runV1 dX12_renderBonds_31 ce_X9_balanceOf rfl ml_X12_191 im_X9_balanceOf se_X9_balanceOf hno2.ro ⟨_, rfl, rfl⟩ (Nat.le_of_ble_eq_true rfl)) (by omega) (by omega) (by omega) (c_balanceOf hnw x ?_)
  obtain ⟨fu, hfu⟩ := hu.o
  refine V_call_a (runV1 dX12_renderBonds_34 ce_J4_append_bf812 rfl ml_X12_367 im_J4_append_bf812 se_J4_append_bf812 hfu ⟨_, rfl, rfl⟩ (Nat.le_of_ble_eq_true rfl)) (by omega) (by omega) (by omega) (c_soI hu (by (try simp only [List.length_append, List.length_cons, List.length_nil]); omega) (by decide) fun H4 g4 hu_ e4 => ?_)
  replace ho := ho.fr e4 (by decide)
  replace hnw := hnw.fr e4 (tkn0 (by decide))
  replace hsp := hsp.fr e4 (tkn0 (by decide))
  replace hel := hel.fr FRs e4 (by decide) (by decide)
  replace hw := hw.fr e4 (by decide)
  replace hs := hs.fr e4 (by decide)
  replace hu := hu_
  replace hco := hco.fr e4 (by decide)
  replace hdk := hdk.fr e4 (by decide)
  replace hse := hse.fr e4 (by decide)
  clear hu_
  replace E := E.trans (e4.wide (by decide))
  refine V_bipush (v := 41) dX12_renderBonds_37 (by decide) ?_
  obtain ⟨fu, hfu⟩ := hu.o
  refine V_call_a (runV1 dX12_renderBonds_39 ce_J4_append_cf468 rfl ml_X12_178 im_J4_append_cf468 se_J4_append_cf468 hfu ⟨_, rfl, rfl⟩ (Nat.le_of_ble_eq_true rfl)) (by omega) (by omega) (by omega) (c_soC hu (by decide) (by (try simp only [List.length_append, List.length_cons, List.length_nil]); omega) (by decide) fun H5 g5 hu_ e5 => ?_)
  replace ho := ho.fr e5 (by decide)
  replace hnw := hnw.fr e5 (tkn0 (by decide))
  replace hsp := hsp.fr e5 (tkn0 (by decide))
  replace hel := hel.fr FRs e5 (by decide) (by decide)
  replace hw := hw.fr e5 (by decide)
  replace hs := hs.fr e5 (by decide)
  replace hu := hu_
  replace hco := hco.fr e5 (by decide)
  replace hdk := hdk.fr e5 (by decide)
  replace hse := hse.fr e5 (by decide)
  clear hu_
  replace E := E.trans (e5.wide (by decide))
  refine V_pop dX12_renderBonds_42 rfl ?_
  refine V_iconst (v := 0) dX12_renderBonds_43 rfl ?_
  refine V_istore_2 dX12_renderBonds_44 rfl ?_
  have hR : RG G H5 g5 o ((bal, ten, cs, ps, n, ch, td, nx), sn, tk, ea, wd, sc, [] ++ itoa x ++ [40] ++ itoa (rd bal 8 x) ++ [41], le, lf, K) := ⟨nw, sp, el, w, s, u, co, dk, se, ho, htk, hnw, hsp, hel, hw, hs, hu, hco, hdk, hse⟩
  have lip : n.toInt ≤ (0 : Int32).toInt + ((8 : Nat) : Int) := by rw [en, nI_toInt (by omega)]; show (nn : Int) ≤ 0 + 8; omega
  have h8p : ∀ j : Nat, j < 2 ^ 31 → 8 ≤ j → n ≤ nI j := fun j hj h8 => by rw [en]; exact (nI_le_iff (by omega) hj).mpr (by omega)
  exact V_mono (c2 := 0 + 4 * 8) (s2 := 0 + 1144 * 8) (by omega) (by omega) (c_rbL (R := ((bal, ten, cs, ps, n, ch, td, nx), sn, tk, ea, wd, sc, ou, le, lf, K)) htn 8 0 _ H5 g5 hR E lip (by decide) h8p (by (try simp only [List.length_append, List.length_cons, List.length_nil]); omega) (fun H1 g1 hR1 e1 => kk hb H1 g1 hR1 e1))
set_option maxHeartbeats 1000000 in
set_option maxRecDepth 100000 in
theorem c_fRCa {G : GT} {X : String → Heap → Prop} {H : Heap} {g : Nat → Nat} {o : Nat} {R : RgC} {x : Int32} (hR : RG G H g o R) (hmt : hasC R.1.2.2.1 x → (cMt (theC R.1.2.2.1 x)).length ≤ 8) (hst : hasC R.1.2.2.1 x → 0 ≤ cSd (theC R.1.2.2.1 x) ∧ cSd (theC R.1.2.2.1 x) < 128) {F : Int32 → Heap → Prop} (kk : hasC R.1.2.2.1 x → ∀ (H1 : Heap) (g1 : Nat → Nat), RG G H1 g1 o (setU R (rcV (theC R.1.2.2.1 x))) → Ext G tsA H g H1 g1 → F (nI (rcV (theC R.1.2.2.1 x)).length) H1) (kx : (¬ hasC R.1.2.2.1 x → ∀ H1 : Heap, H.size ≤ H1.size → (∀ q : Nat, q < H.size → H1[q]? = H[q]?) → X "java/util/NoSuchElementException" H1)) : Call G kX12_renderCase 7 18 4870 [.ref o, .int x] H (qi F) X := by
  obtain ⟨S, sn, tk, ea, wd, sc, ou, le, lf, K⟩ := R
  refine startL (L0 := [some (.ref o), some (.int x), none]) rfl rfl pl_X12_renderCase (Nat.le_of_ble_eq_true rfl) ?_
  have hR0 := hR
  obtain ⟨nw, sp, el, w, s, u, co, dk, se, ho, htk, hnw, hsp, hel, hw, hs, hu, hco, hdk, hse⟩ := hR
  have hS := hnw
  obtain ⟨bal, ten, cs, ps, n, ch, td, nx⟩ := S
  obtain ⟨hbl, htl, b, k0, u0, v0, hno, hbal, hten, hcs, hps⟩ := id hnw
  have hlc := hcs.len
  have hlp := hps.len
  have E : Ext G tsA H g H g := Ext.rf
  refine V_aload_0 dX12_renderCase_0 ?_
  refine V_iload_1 dX12_renderCase_1 ?_
  obtain ⟨fo, hfo⟩ := hR0.o
  refine V_call_a (runV1 dX12_renderCase_2 ce_X12_existingCase rfl ml_X12_253 im_X12_existingCase se_X12_existingCase hfo ⟨_, rfl, rfl⟩ (Nat.le_of_ble_eq_true rfl)) (by omega) (by omega) (by omega) (c_exC hR0 (fun hh r hrx => ?_) (fun hn H1 hz hq => VX_out rfl (kx hn H1 hz hq)))
  have hml := hmt hh
  obtain ⟨mr, hr, hrm⟩ := id hrx.md
  have hsd := hst hh
  replace kk := kk hh
  clear hrx hcs hps
  generalize theC cs x = c at *
  have i0 := itoa_11 (cId c)
  have i1 := itoa_11 (cPl c)
  have i2 := itoa_11 (cDf c)
  have i3 := itoa_11 (cCl c)
  have i4 := itoa_11 (cDu c)
  have i5 := itoa_11 (cDl c)
  have i6 := itoa_11 (cAw c)
  refine V_astore_2 dX12_renderCase_5 rfl ?_
  refine V_aload_0 dX12_renderCase_6 ?_
  refine V_getf dX12_renderCase_7 fl_X12_40 ho.ro rfl ?_
  refine V_iconst (v := 0) dX12_renderCase_10 rfl ?_
  obtain ⟨fu, hfu⟩ := hu.o
  refine V_call_v (runV1 dX12_renderCase_11 ce_J4_setLength_d00df rfl ml_X12_99 im_J4_setLength_d00df se_J4_setLength_d00df hfu ⟨_, rfl, rfl⟩ (Nat.le_of_ble_eq_true rfl)) (by omega) (by omega) (by omega) (c_soSet0 hu (by decide) fun H1 hu_ e1 => ?_)
  replace ho := ho.fr e1 (by decide)
  replace hnw := hnw.fr e1 (tkn0 (by decide))
  replace hsp := hsp.fr e1 (tkn0 (by decide))
  replace hel := hel.fr FRs e1 (by decide) (by decide)
  replace hw := hw.fr e1 (by decide)
  replace hs := hs.fr e1 (by decide)
  replace hu := hu_
  replace hco := hco.fr e1 (by decide)
  replace hdk := hdk.fr e1 (by decide)
  replace hse := hse.fr e1 (by decide)
  clear hu_
  replace hr := hr.fr e1 (by decide)
  replace hrm := hrm.fr e1 (by decide)
  replace E := E.trans (e1.wide (by decide))
  refine V_aload_0 dX12_renderCase_14 ?_
  refine V_getf dX12_renderCase_15 fl_X12_40 ho.ro rfl ?_
  refine V_bipush (v := 35) dX12_renderCase_18 (by decide) ?_
  obtain ⟨fu, hfu⟩ := hu.o
  refine V_call_a (runV1 dX12_renderCase_20 ce_J4_append_cf468 rfl ml_X12_178 im_J4_append_cf468 se_J4_append_cf468 hfu ⟨_, rfl, rfl⟩ (Nat.le_of_ble_eq_true rfl)) (by omega) (by omega) (by omega) (c_soC hu (by decide) (by (try simp only [List.length_append, List.length_cons, List.length_nil]); omega) (by decide) fun H2 g2 hu_ e2 => ?_)
  replace ho := ho.fr e2 (by decide)
  replace hnw := hnw.fr e2 (tkn0 (by decide))
  replace hsp := hsp.fr e2 (tkn0 (by decide))
  replace hel := hel.fr FRs e2 (by decide) (by decide)
  replace hw := hw.fr e2 (by decide)
  replace hs := hs.fr e2 (by decide)
  replace hu := hu_
  replace hco := hco.fr e2 (by decide)
  replace hdk := hdk.fr e2 (by decide)
  replace hse := hse.fr e2 (by decide)
  clear hu_
  replace hr := hr.fr e2 (by decide)
  replace hrm := hrm.fr e2 (by decide)
  replace E := E.trans (e2.wide (by decide))
  refine V_aload_2 dX12_renderCase_23 ?_
  refine V_getf dX12_renderCase_24 fl_X12_250 hr.1 rfl ?_
  obtain ⟨fu, hfu⟩ := hu.o
  refine V_call_a (runV1 dX12_renderCase_27 ce_J4_append_bf812 rfl ml_X12_367 im_J4_append_bf812 se_J4_append_bf812 hfu ⟨_, rfl, rfl⟩ (Nat.le_of_ble_eq_true rfl)) (by omega) (by omega) (by omega) (c_soI hu (by (try simp only [List.length_append, List.length_cons, List.length_nil]); omega) (by decide) fun H3 g3 hu_ e3 => ?_)
  replace ho := ho.fr e3 (by decide)
  replace hnw := hnw.fr e3 (tkn0 (by decide))
  replace hsp := hsp.fr e3 (tkn0 (by decide))
  replace hel := hel.fr FRs e3 (by decide) (by decide)
  replace hw := hw.fr e3 (by decide)
  replace hs := hs.fr e3 (by decide)
  replace hu := hu_
  replace hco := hco.fr e3 (by decide)
  replace hdk := hdk.fr e3 (by decide)
  replace hse := hse.fr e3 (by decide)
  clear hu_
  replace hr := hr.fr e3 (by decide)
  replace hrm := hrm.fr e3 (by decide)
  replace E := E.trans (e3.wide (by decide))
  refine V_aload_2 dX12_renderCase_30 ?_
  refine V_getf dX12_renderCase_31 fl_X12_272 hr.1 rfl ?_
  obtain ⟨fu, hfu⟩ := hu.o
  refine V_call_a (runV1 dX12_renderCase_34 ce_J4_append_cf468 rfl ml_X12_178 im_J4_append_cf468 se_J4_append_cf468 hfu ⟨_, rfl, rfl⟩ (Nat.le_of_ble_eq_true rfl)) (by omega) (by omega) (by omega) (c_soC hu hsd (by (try simp only [List.length_append, List.length_cons, List.length_nil]); omega) (by decide) fun H4 g4 hu_ e4 => ?_)
  replace ho := ho.fr e4 (by decide)
  replace hnw := hnw.fr e4 (tkn0 (by decide))
  replace hsp := hsp.fr e4 (tkn0 (by decide))
  replace hel := hel.fr FRs e4 (by decide) (by decide)
  replace hw := hw.fr e4 (by decide)
  replace hs := hs.fr e4 (by decide)
  replace hu := hu_
  replace hco := hco.fr e4 (by decide)
  replace hdk := hdk.fr e4 (by decide)
  replace hse := hse.fr e4 (by decide)
  clear hu_
  replace hr := hr.fr e4 (by decide)
  replace hrm := hrm.fr e4 (by decide)
  replace E := E.trans (e4.wide (by decide))
  refine V_pop dX12_renderCase_37 rfl ?_
  refine V_aload_0 dX12_renderCase_38 ?_
  refine V_getf dX12_renderCase_39 fl_X12_40 ho.ro rfl ?_
  refine V_bipush (v := 32) dX12_renderCase_42 (by decide) ?_
  obtain ⟨fu, hfu⟩ := hu.o
  refine V_call_a (runV1 dX12_renderCase_44 ce_J4_append_cf468 rfl ml_X12_178 im_J4_append_cf468 se_J4_append_cf468 hfu ⟨_, rfl, rfl⟩ (Nat.le_of_ble_eq_true rfl)) (by omega) (by omega) (by omega) (c_soC hu (by decide) (by (try simp only [List.length_append, List.length_cons, List.length_nil]); omega) (by decide) fun H5 g5 hu_ e5 => ?_)
  replace ho := ho.fr e5 (by decide)
  replace hnw := hnw.fr e5 (tkn0 (by decide))
  replace hsp := hsp.fr e5 (tkn0 (by decide))
  replace hel := hel.fr FRs e5 (by decide) (by decide)
  replace hw := hw.fr e5 (by decide)
  replace hs := hs.fr e5 (by decide)
  replace hu := hu_
  replace hco := hco.fr e5 (by decide)
  replace hdk := hdk.fr e5 (by decide)
  replace hse := hse.fr e5 (by decide)
  clear hu_
  replace hr := hr.fr e5 (by decide)
  replace hrm := hrm.fr e5 (by decide)
  replace E := E.trans (e5.wide (by decide))
  refine V_aload_2 dX12_renderCase_47 ?_
  refine V_getf dX12_renderCase_48 fl_X12_257 hr.1 rfl ?_
  obtain ⟨fu, hfu⟩ := hu.o
  refine V_call_a (runV1 dX12_renderCase_51 ce_J4_append_bf812 rfl ml_X12_367 im_J4_append_bf812 se_J4_append_bf812 hfu ⟨_, rfl, rfl⟩ (Nat.le_of_ble_eq_true rfl)) (by omega) (by omega) (by omega) (c_soI hu (by (try simp only [List.length_append, List.length_cons, List.length_nil]); omega) (by decide) fun H6 g6 hu_ e6 => ?_)
  replace ho := ho.fr e6 (by decide)
  replace hnw := hnw.fr e6 (tkn0 (by decide))
  replace hsp := hsp.fr e6 (tkn0 (by decide))
  replace hel := hel.fr FRs e6 (by decide) (by decide)
  replace hw := hw.fr e6 (by decide)
  replace hs := hs.fr e6 (by decide)
  replace hu := hu_
  replace hco := hco.fr e6 (by decide)
  replace hdk := hdk.fr e6 (by decide)
  replace hse := hse.fr e6 (by decide)
  clear hu_
  replace hr := hr.fr e6 (by decide)
  replace hrm := hrm.fr e6 (by decide)
  replace E := E.trans (e6.wide (by decide))
  refine V_bipush (v := 62) dX12_renderCase_54 (by decide) ?_
  obtain ⟨fu, hfu⟩ := hu.o
  refine V_call_a (runV1 dX12_renderCase_56 ce_J4_append_cf468 rfl ml_X12_178 im_J4_append_cf468 se_J4_append_cf468 hfu ⟨_, rfl, rfl⟩ (Nat.le_of_ble_eq_true rfl)) (by omega) (by omega) (by omega) (c_soC hu (by decide) (by (try simp only [List.length_append, List.length_cons, List.length_nil]); omega) (by decide) fun H7 g7 hu_ e7 => ?_)
  replace ho := ho.fr e7 (by decide)
  replace hnw := hnw.fr e7 (tkn0 (by decide))
  replace hsp := hsp.fr e7 (tkn0 (by decide))
  replace hel := hel.fr FRs e7 (by decide) (by decide)
  replace hw := hw.fr e7 (by decide)
  replace hs := hs.fr e7 (by decide)
  replace hu := hu_
  replace hco := hco.fr e7 (by decide)
  replace hdk := hdk.fr e7 (by decide)
  replace hse := hse.fr e7 (by decide)
  clear hu_
  replace hr := hr.fr e7 (by decide)
  replace hrm := hrm.fr e7 (by decide)
  replace E := E.trans (e7.wide (by decide))
  refine V_aload_2 dX12_renderCase_59 ?_
  refine V_getf dX12_renderCase_60 fl_X12_260 hr.1 rfl ?_
  obtain ⟨fu, hfu⟩ := hu.o
  refine V_call_a (runV1 dX12_renderCase_63 ce_J4_append_bf812 rfl ml_X12_367 im_J4_append_bf812 se_J4_append_bf812 hfu ⟨_, rfl, rfl⟩ (Nat.le_of_ble_eq_true rfl)) (by omega) (by omega) (by omega) (c_soI hu (by (try simp only [List.length_append, List.length_cons, List.length_nil]); omega) (by decide) fun H8 g8 hu_ e8 => ?_)
  replace ho := ho.fr e8 (by decide)
  replace hnw := hnw.fr e8 (tkn0 (by decide))
  replace hsp := hsp.fr e8 (tkn0 (by decide))
  replace hel := hel.fr FRs e8 (by decide) (by decide)
  replace hw := hw.fr e8 (by decide)
  replace hs := hs.fr e8 (by decide)
  replace hu := hu_
  replace hco := hco.fr e8 (by decide)
  replace hdk := hdk.fr e8 (by decide)
  replace hse := hse.fr e8 (by decide)
  clear hu_
  replace hr := hr.fr e8 (by decide)
  replace hrm := hrm.fr e8 (by decide)
  replace E := E.trans (e8.wide (by decide))
  refine V_pop dX12_renderCase_66 rfl ?_
  refine V_aload_0 dX12_renderCase_67 ?_
  refine V_getf dX12_renderCase_68 fl_X12_40 ho.ro rfl ?_
  refine V_bipush (v := 32) dX12_renderCase_71 (by decide) ?_
  obtain ⟨fu, hfu⟩ := hu.o
  refine V_call_a (runV1 dX12_renderCase_73 ce_J4_append_cf468 rfl ml_X12_178 im_J4_append_cf468 se_J4_append_cf468 hfu ⟨_, rfl, rfl⟩ (Nat.le_of_ble_eq_true rfl)) (by omega) (by omega) (by omega) (c_soC hu (by decide) (by (try simp only [List.length_append, List.length_cons, List.length_nil]); omega) (by decide) fun H9 g9 hu_ e9 => ?_)
  replace ho := ho.fr e9 (by decide)
  replace hnw := hnw.fr e9 (tkn0 (by decide))
  replace hsp := hsp.fr e9 (tkn0 (by decide))
  replace hel := hel.fr FRs e9 (by decide) (by decide)
  replace hw := hw.fr e9 (by decide)
  replace hs := hs.fr e9 (by decide)
  replace hu := hu_
  replace hco := hco.fr e9 (by decide)
  replace hdk := hdk.fr e9 (by decide)
  replace hse := hse.fr e9 (by decide)
  clear hu_
  replace hr := hr.fr e9 (by decide)
  replace hrm := hrm.fr e9 (by decide)
  replace E := E.trans (e9.wide (by decide))
  refine V_aload_2 dX12_renderCase_76 ?_
  refine V_getf dX12_renderCase_77 fl_X12_263 hr.1 rfl ?_
  obtain ⟨fu, hfu⟩ := hu.o
  refine V_call_a (runV1 dX12_renderCase_80 ce_J4_append_bf812 rfl ml_X12_367 im_J4_append_bf812 se_J4_append_bf812 hfu ⟨_, rfl, rfl⟩ (Nat.le_of_ble_eq_true rfl)) (by omega) (by omega) (by omega) (c_soI hu (by (try simp only [List.length_append, List.length_cons, List.length_nil]); omega) (by decide) fun H10 g10 hu_ e10 => ?_)
  replace ho := ho.fr e10 (by decide)
  replace hnw := hnw.fr e10 (tkn0 (by decide))
  replace hsp := hsp.fr e10 (tkn0 (by decide))
  replace hel := hel.fr FRs e10 (by decide) (by decide)
  replace hw := hw.fr e10 (by decide)
  replace hs := hs.fr e10 (by decide)
  replace hu := hu_
  replace hco := hco.fr e10 (by decide)
  replace hdk := hdk.fr e10 (by decide)
  replace hse := hse.fr e10 (by decide)
  clear hu_
  replace hr := hr.fr e10 (by decide)
  replace hrm := hrm.fr e10 (by decide)
  replace E := E.trans (e10.wide (by decide))
  refine V_bipush (v := 120) dX12_renderCase_83 (by decide) ?_
  obtain ⟨fu, hfu⟩ := hu.o
  refine V_call_a (runV1 dX12_renderCase_85 ce_J4_append_cf468 rfl ml_X12_178 im_J4_append_cf468 se_J4_append_cf468 hfu ⟨_, rfl, rfl⟩ (Nat.le_of_ble_eq_true rfl)) (by omega) (by omega) (by omega) (c_soC hu (by decide) (by (try simp only [List.length_append, List.length_cons, List.length_nil]); omega) (by decide) fun H11 g11 hu_ e11 => ?_)
  replace ho := ho.fr e11 (by decide)
  replace hnw := hnw.fr e11 (tkn0 (by decide))
  replace hsp := hsp.fr e11 (tkn0 (by decide))
  replace hel := hel.fr FRs e11 (by decide) (by decide)
  replace hw := hw.fr e11 (by decide)
  replace hs := hs.fr e11 (by decide)
  replace hu := hu_
  replace hco := hco.fr e11 (by decide)
  replace hdk := hdk.fr e11 (by decide)
  replace hse := hse.fr e11 (by decide)
  clear hu_
  replace hr := hr.fr e11 (by decide)
  replace hrm := hrm.fr e11 (by decide)
  replace E := E.trans (e11.wide (by decide))
  refine V_aload_2 dX12_renderCase_88 ?_
  refine V_getf dX12_renderCase_89 fl_X12_266 hr.1 rfl ?_
  obtain ⟨fu, hfu⟩ := hu.o
  refine V_call_a (runV1 dX12_renderCase_92 ce_J4_append_bf812 rfl ml_X12_367 im_J4_append_bf812 se_J4_append_bf812 hfu ⟨_, rfl, rfl⟩ (Nat.le_of_ble_eq_true rfl)) (by omega) (by omega) (by omega) (c_soI hu (by (try simp only [List.length_append, List.length_cons, List.length_nil]); omega) (by decide) fun H12 g12 hu_ e12 => ?_)
  replace ho := ho.fr e12 (by decide)
  replace hnw := hnw.fr e12 (tkn0 (by decide))
  replace hsp := hsp.fr e12 (tkn0 (by decide))
  replace hel := hel.fr FRs e12 (by decide) (by decide)
  replace hw := hw.fr e12 (by decide)
  replace hs := hs.fr e12 (by decide)
  replace hu := hu_
  replace hco := hco.fr e12 (by decide)
  replace hdk := hdk.fr e12 (by decide)
  replace hse := hse.fr e12 (by decide)
  clear hu_
  replace hr := hr.fr e12 (by decide)
  replace hrm := hrm.fr e12 (by decide)
  replace E := E.trans (e12.wide (by decide))
  refine V_pop dX12_renderCase_95 rfl ?_
  refine V_aload_0 dX12_renderCase_96 ?_
  refine V_getf dX12_renderCase_97 fl_X12_40 ho.ro rfl ?_
  refine V_bipush (v := 33) dX12_renderCase_100 (by decide) ?_
  obtain ⟨fu, hfu⟩ := hu.o
  refine V_call_a (runV1 dX12_renderCase_102 ce_J4_append_cf468 rfl ml_X12_178 im_J4_append_cf468 se_J4_append_cf468 hfu ⟨_, rfl, rfl⟩ (Nat.le_of_ble_eq_true rfl)) (by omega) (by omega) (by omega) (c_soC hu (by decide) (by (try simp only [List.length_append, List.length_cons, List.length_nil]); omega) (by decide) fun H13 g13 hu_ e13 => ?_)
  replace ho := ho.fr e13 (by decide)
  replace hnw := hnw.fr e13 (tkn0 (by decide))
  replace hsp := hsp.fr e13 (tkn0 (by decide))
  replace hel := hel.fr FRs e13 (by decide) (by decide)
  replace hw := hw.fr e13 (by decide)
  replace hs := hs.fr e13 (by decide)
  replace hu := hu_
  replace hco := hco.fr e13 (by decide)
  replace hdk := hdk.fr e13 (by decide)
  replace hse := hse.fr e13 (by decide)
  clear hu_
  replace hr := hr.fr e13 (by decide)
  replace hrm := hrm.fr e13 (by decide)
  replace E := E.trans (e13.wide (by decide))
  refine V_aload_2 dX12_renderCase_105 ?_
  refine V_getf dX12_renderCase_106 fl_X12_269 hr.1 rfl ?_
  obtain ⟨fu, hfu⟩ := hu.o
  refine V_call_a (runV1 dX12_renderCase_109 ce_J4_append_bf812 rfl ml_X12_367 im_J4_append_bf812 se_J4_append_bf812 hfu ⟨_, rfl, rfl⟩ (Nat.le_of_ble_eq_true rfl)) (by omega) (by omega) (by omega) (c_soI hu (by (try simp only [List.length_append, List.length_cons, List.length_nil]); omega) (by decide) fun H14 g14 hu_ e14 => ?_)
  replace ho := ho.fr e14 (by decide)
  replace hnw := hnw.fr e14 (tkn0 (by decide))
  replace hsp := hsp.fr e14 (tkn0 (by decide))
  replace hel := hel.fr FRs e14 (by decide) (by decide)
  replace hw := hw.fr e14 (by decide)
  replace hs := hs.fr e14 (by decide)
  replace hu := hu_
  replace hco := hco.fr e14 (by decide)
  replace hdk := hdk.fr e14 (by decide)
  replace hse := hse.fr e14 (by decide)
  clear hu_
  replace hr := hr.fr e14 (by decide)
  replace hrm := hrm.fr e14 (by decide)
  replace E := E.trans (e14.wide (by decide))
  refine V_bipush (v := 58) dX12_renderCase_112 (by decide) ?_
  obtain ⟨fu, hfu⟩ := hu.o
  refine V_call_a (runV1 dX12_renderCase_114 ce_J4_append_cf468 rfl ml_X12_178 im_J4_append_cf468 se_J4_append_cf468 hfu ⟨_, rfl, rfl⟩ (Nat.le_of_ble_eq_true rfl)) (by omega) (by omega) (by omega) (c_soC hu (by decide) (by (try simp only [List.length_append, List.length_cons, List.length_nil]); omega) (by decide) fun H15 g15 hu_ e15 => ?_)
  replace ho := ho.fr e15 (by decide)
  replace hnw := hnw.fr e15 (tkn0 (by decide))
  replace hsp := hsp.fr e15 (tkn0 (by decide))
  replace hel := hel.fr FRs e15 (by decide) (by decide)
  replace hw := hw.fr e15 (by decide)
  replace hs := hs.fr e15 (by decide)
  replace hu := hu_
  replace hco := hco.fr e15 (by decide)
  replace hdk := hdk.fr e15 (by decide)
  replace hse := hse.fr e15 (by decide)
  clear hu_
  replace hr := hr.fr e15 (by decide)
  replace hrm := hrm.fr e15 (by decide)
  replace E := E.trans (e15.wide (by decide))
  refine V_aload_2 dX12_renderCase_117 ?_
  refine V_getf dX12_renderCase_118 fl_X12_276 hr.1 rfl ?_
  obtain ⟨fu, hfu⟩ := hu.o
  refine V_call_a (runV1 dX12_renderCase_121 ce_J4_append_15ec4 rfl ml_X12_370 im_J4_append_15ec4 se_J4_append_15ec4 hfu ⟨_, rfl, rfl⟩ (Nat.le_of_ble_eq_true rfl)) (by omega) (by omega) (by omega) (c_soS hu hrm (by (try simp only [List.length_append, List.length_cons, List.length_nil]); omega) (by omega) (by decide) fun H16 g16 hu_ e16 => ?_)
  replace ho := ho.fr e16 (by decide)
  replace hnw := hnw.fr e16 (tkn0 (by decide))
  replace hsp := hsp.fr e16 (tkn0 (by decide))
  replace hel := hel.fr FRs e16 (by decide) (by decide)
  replace hw := hw.fr e16 (by decide)
  replace hs := hs.fr e16 (by decide)
  replace hu := hu_
  replace hco := hco.fr e16 (by decide)
  replace hdk := hdk.fr e16 (by decide)
  replace hse := hse.fr e16 (by decide)
  clear hu_
  replace hr := hr.fr e16 (by decide)
  replace hrm := hrm.fr e16 (by decide)
  replace E := E.trans (e16.wide (by decide))
  refine V_pop dX12_renderCase_124 rfl ?_
  refine V_aload_2 dX12_renderCase_125 ?_
  refine V_getf dX12_renderCase_126 fl_X12_272 hr.1 rfl ?_
  refine V_bipush (v := 102) dX12_renderCase_129 (by decide) ?_
  refine V_icmp_eq (tgt := 151) dX12_renderCase_131 (by decide) (fun c_131 => ?_) (fun c_131 => ?_)
  · refine V_aload_0 dX12_renderCase_151 ?_
    refine V_getf dX12_renderCase_152 fl_X12_40 ho.ro rfl ?_
    obtain ⟨fu, hfu⟩ := hu.o
    refine V_call_i (runV0 dX12_renderCase_155 ce_J4_length_8abf5 rfl ml_X12_173 im_J4_length_8abf5 se_J4_length_8abf5 hfu ⟨_, rfl, rfl⟩ (Nat.le_of_ble_eq_true rfl)) (by omega) (by omega) (by omega) (c_soLen hu ?_)
    have hR : RG G H16 g16 o ((bal, ten, cs, ps, n, ch, td, nx), sn, tk, ea, wd, sc, [] ++ [35] ++ itoa (cId c) ++ [cSd c] ++ [32] ++ itoa (cPl c) ++ [62] ++ itoa (cDf c) ++ [32] ++ itoa (cCl c) ++ [120] ++ itoa (cDu c) ++ [33] ++ itoa (cDl c) ++ [58] ++ cMt c, le, lf, K) := ⟨nw, sp, el, w, s, u, co, dk, se, ho, htk, hnw, hsp, hel, hw, hs, hu, hco, hdk, hse⟩
    have hv : rcV c = [] ++ [35] ++ itoa (cId c) ++ [cSd c] ++ [32] ++ itoa (cPl c) ++ [62] ++ itoa (cDf c) ++ [32] ++ itoa (cCl c) ++ [120] ++ itoa (cDu c) ++ [33] ++ itoa (cDl c) ++ [58] ++ cMt c := by rw [rcV, if_pos c_131]; rfl
    rw [hv] at kk
    exact V_reti dX12_renderCase_158 rfl rfl (kk H16 g16 hR E)
  · refine V_aload_0 dX12_renderCase_134 ?_
    refine V_getf dX12_renderCase_135 fl_X12_40 ho.ro rfl ?_
    refine V_bipush (v := 61) dX12_renderCase_138 (by decide) ?_
    obtain ⟨fu, hfu⟩ := hu.o
    refine V_call_a (runV1 dX12_renderCase_140 ce_J4_append_cf468 rfl ml_X12_178 im_J4_append_cf468 se_J4_append_cf468 hfu ⟨_, rfl, rfl⟩ (Nat.le_of_ble_eq_true rfl)) (by omega) (by omega) (by omega) (c_soC hu (by decide) (by (try simp only [List.length_append, List.length_cons, List.length_nil]); omega) (by decide) fun H17 g17 hu_ e17 => ?_)
    replace ho := ho.fr e17 (by decide)
    replace hnw := hnw.fr e17 (tkn0 (by decide))
    replace hsp := hsp.fr e17 (tkn0 (by decide))
    replace hel := hel.fr FRs e17 (by decide) (by decide)
    replace hw := hw.fr e17 (by decide)
    replace hs := hs.fr e17 (by decide)
    replace hu := hu_
    replace hco := hco.fr e17 (by decide)
    replace hdk := hdk.fr e17 (by decide)
    replace hse := hse.fr e17 (by decide)
    clear hu_
    replace hr := hr.fr e17 (by decide)
    replace hrm := hrm.fr e17 (by decide)
    replace E := E.trans (e17.wide (by decide))
    refine V_aload_2 dX12_renderCase_143 ?_
    refine V_getf dX12_renderCase_144 fl_X12_293 hr.1 rfl ?_
    obtain ⟨fu, hfu⟩ := hu.o
    refine V_call_a (runV1 dX12_renderCase_147 ce_J4_append_bf812 rfl ml_X12_367 im_J4_append_bf812 se_J4_append_bf812 hfu ⟨_, rfl, rfl⟩ (Nat.le_of_ble_eq_true rfl)) (by omega) (by omega) (by omega) (c_soI hu (by (try simp only [List.length_append, List.length_cons, List.length_nil]); omega) (by decide) fun H18 g18 hu_ e18 => ?_)
    replace ho := ho.fr e18 (by decide)
    replace hnw := hnw.fr e18 (tkn0 (by decide))
    replace hsp := hsp.fr e18 (tkn0 (by decide))
    replace hel := hel.fr FRs e18 (by decide) (by decide)
    replace hw := hw.fr e18 (by decide)
    replace hs := hs.fr e18 (by decide)
    replace hu := hu_
    replace hco := hco.fr e18 (by decide)
    replace hdk := hdk.fr e18 (by decide)
    replace hse := hse.fr e18 (by decide)
    clear hu_
    replace hr := hr.fr e18 (by decide)
    replace hrm := hrm.fr e18 (by decide)
    replace E := E.trans (e18.wide (by decide))
    refine V_pop dX12_renderCase_150 rfl ?_
    refine V_aload_0 dX12_renderCase_151 ?_
    refine V_getf dX12_renderCase_152 fl_X12_40 ho.ro rfl ?_
    obtain ⟨fu, hfu⟩ := hu.o
    refine V_call_i (runV0 dX12_renderCase_155 ce_J4_length_8abf5 rfl ml_X12_173 im_J4_length_8abf5 se_J4_length_8abf5 hfu ⟨_, rfl, rfl⟩ (Nat.le_of_ble_eq_true rfl)) (by omega) (by omega) (by omega) (c_soLen hu ?_)
    have hR : RG G H18 g18 o ((bal, ten, cs, ps, n, ch, td, nx), sn, tk, ea, wd, sc, [] ++ [35] ++ itoa (cId c) ++ [cSd c] ++ [32] ++ itoa (cPl c) ++ [62] ++ itoa (cDf c) ++ [32] ++ itoa (cCl c) ++ [120] ++ itoa (cDu c) ++ [33] ++ itoa (cDl c) ++ [58] ++ cMt c ++ [61] ++ itoa (cAw c), le, lf, K) := ⟨nw, sp, el, w, s, u, co, dk, se, ho, htk, hnw, hsp, hel, hw, hs, hu, hco, hdk, hse⟩
    have hv : rcV c = [] ++ [35] ++ itoa (cId c) ++ [cSd c] ++ [32] ++ itoa (cPl c) ++ [62] ++ itoa (cDf c) ++ [32] ++ itoa (cCl c) ++ [120] ++ itoa (cDu c) ++ [33] ++ itoa (cDl c) ++ [58] ++ cMt c ++ [61] ++ itoa (cAw c) := by rw [rcV, if_neg c_131]; rfl
    rw [hv] at kk
    exact V_reti dX12_renderCase_158 rfl rfl (kk H18 g18 hR E)

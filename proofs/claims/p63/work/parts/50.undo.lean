theorem snoc_of {α : Type} {l : List α} (h : ¬ b2i (decide (l.length = 0)) = 0 → False) : ∃ (l0 : List α) (x : α), l = l0 ++ [x] := by
  rcases List.eq_nil_or_concat l with q | ⟨l0, x, q⟩
  · subst q
    exact (h (by simp [b2i])).elim
  · exact ⟨l0, x, by rw [q, List.concat_eq_append]⟩
theorem erase_snoc {α : Type} (l : List α) (x : α) : (l ++ [x]).eraseIdx l.length = l := by
  rw [List.eraseIdx_append_of_length_le (Nat.le_refl _), Nat.sub_self]
  simp
theorem get_snoc {α : Type} (l : List α) (x : α) : (l ++ [x])[l.length]? = some x := by
  rw [List.getElem?_append_right (Nat.le_refl _), Nat.sub_self]
  rfl
theorem len0 {α : Type} {l : List α} (h : ¬ b2i (decide (l.length = 0)) = 0) : l.length = 0 := of_decide_eq_true (b2i_n.mp h)
set_option maxHeartbeats 1000000 in
set_option maxRecDepth 100000 in
theorem c_fUndo {G : GT} {X : String → Heap → Prop} {H : Heap} {g : Nat → Nat} {o : Nat} {R : RgC} (hR : RG G H g o R) {F : Int32 → Heap → Prop} (kk : ∀ (ea0 : List StC) (T : StC), rgE R = ea0 ++ [T] → ∀ (H1 : Heap) (g1 : Nat → Nat), RG G H1 g1 o (T, R.2.1, R.2.2.1, ea0, R.2.2.2.2) → Ext G tsA H g H1 g1 → F (nI ea0.length) H1) (kx : (rgE R).length = 0 → ∀ (H1 : Heap) (g1 : Nat → Nat), RG G H1 g1 o R → Ext G tsA H g H1 g1 → X "java/lang/IllegalStateException" H1) : Call G kX12_undo 6 1 6 [.ref o] H (qi F) X := by
  obtain ⟨S, sn, tk, ea, wd, sc, ou, le, lf, K⟩ := R
  have E : Ext G tsA H g H g := Ext.rf
  refine startL (L0 := [some (.ref o)]) rfl rfl pl_X12_undo (Nat.le_of_ble_eq_true rfl) ?_
  obtain ⟨nw, sp, el, w, s, u, co, dk, se, ho, htk, hnw, hsp, hel, hw, hs, hu, hco, hdk, hse⟩ := hR
  refine V_aload_0 dX12_undo_0 ?_
  refine V_getf dX12_undo_1 fl_X12_26 ho.ro rfl ?_
  obtain ⟨fe, hfe⟩ := hel.ro
  refine V_call_i (runV0 dX12_undo_4 ce_Jx4a65c_isEmpty_aae02 rfl ml_X12_406 im_Jx4a65c_isEmpty_aae02 se_Jx4a65c_isEmpty_aae02 hfe ⟨_, rfl, rfl⟩ (Nat.le_of_ble_eq_true rfl)) (by omega) (by omega) (by omega) (c_glempty hel ?_)
  refine V_if_eq (tgt := 21) dX12_undo_7 (by decide) (fun c_7 => ?_) (fun c_7 => ?_)
  · obtain ⟨ea0, T, rfl⟩ := snoc_of (fun z => z c_7)
    have hl := hel.len
    rw [List.length_append] at hl
    have hl1 : ea0.length + 1 < 2 ^ 18 := hl
    refine V_aload_0 dX12_undo_21 ?_
    refine V_aload_0 dX12_undo_22 ?_
    refine V_getf dX12_undo_23 fl_X12_26 ho.ro rfl ?_
    refine V_aload_0 dX12_undo_26 ?_
    refine V_getf dX12_undo_27 fl_X12_26 ho.ro rfl ?_
    refine V_call_i (runV0 dX12_undo_30 ce_Jx4a65c_size_8abf5 rfl ml_X12_128 im_Jx4a65c_size_8abf5 se_Jx4a65c_size_8abf5 hfe ⟨_, rfl, rfl⟩ (Nat.le_of_ble_eq_true rfl)) (by omega) (by omega) (by omega) (c_glsize hel ?_)
    refine V_iconst (v := 1) dX12_undo_33 rfl ?_
    refine V_isub dX12_undo_34 ?_
    refine V_int (y := nI ea0.length) (by rw [List.length_append]; exact nI_sub (Nat.le_add_left 1 _)) ?_
    refine V_call_a (runV1 dX12_undo_35 ce_Jx4a65c_remove_915e3 rfl ml_X12_132 im_Jx4a65c_remove_915e3 se_Jx4a65c_remove_915e3 hfe ⟨_, rfl, rfl⟩ (Nat.le_of_ble_eq_true rfl)) (by omega) (by omega) (by omega) (c_glrem (j := ea0.length) FRs hel (get_snoc ea0 T) (by decide) fun r H1 hr hel_ e1 => ?_)
    rw [erase_snoc] at hel_
    replace ho := ho.fr e1 (by decide)
    replace hnw := hnw.fr e1 (tkn0 (by decide))
    replace hsp := hsp.fr e1 (tkn0 (by decide))
    replace hel := hel_
    replace hw := hw.fr e1 (by decide)
    replace hs := hs.fr e1 (by decide)
    replace hu := hu.fr e1 (by decide)
    replace hco := hco.fr e1 (by decide)
    replace hdk := hdk.fr e1 (by decide)
    replace hse := hse.fr e1 (by decide)
    clear hel_
    replace E := E.trans (e1.wide (by decide))
    obtain ⟨fr, hfr⟩ := MS.o (show MS G H1 g 0 r T from hr)
    refine V_castS (ci := 13) dX12_undo_38 rfl ck_X12_7 hfr ?_
    replace hr : MS G H1 g 0 r T := hr
    refine V_put dX12_undo_41 fp_X12_undo_10 ho (by decide) ⟨rfl, rfl⟩ (Nat.le_of_ble_eq_true rfl) rfl fun H2 ho_ e2 z => ?_
    clear hnw
    have hnw := hr
    clear hr
    replace ho := ho_
    replace hnw := hnw.fr e2 (tkn0 (by decide))
    replace hsp := hsp.fr e2 (tkn0 (by decide))
    replace hel := hel.fr FRs e2 (by decide) (by decide)
    replace hw := hw.fr e2 (by decide)
    replace hs := hs.fr e2 (by decide)
    replace hu := hu.fr e2 (by decide)
    replace hco := hco.fr e2 (by decide)
    replace hdk := hdk.fr e2 (by decide)
    replace hse := hse.fr e2 (by decide)
    clear ho_
    replace E := E.trans (e2.wide (by decide))
    refine V_aload_0 dX12_undo_44 ?_
    refine V_getf dX12_undo_45 fl_X12_26 ho.ro rfl ?_
    obtain ⟨fe, hfe⟩ := hel.ro
    refine V_call_i (runV0 dX12_undo_48 ce_Jx4a65c_size_8abf5 rfl ml_X12_128 im_Jx4a65c_size_8abf5 se_Jx4a65c_size_8abf5 hfe ⟨_, rfl, rfl⟩ (Nat.le_of_ble_eq_true rfl)) (by omega) (by omega) (by omega) (c_glsize hel ?_)
    exact V_reti dX12_undo_51 rfl rfl (kk ea0 T rfl H2 g ⟨r, sp, el, w, s, u, co, dk, se, ho, htk, hnw, hsp, hel, hw, hs, hu, hco, hdk, hse⟩ E)
  · have hR : RG G H g o (S, sn, tk, ea, wd, sc, ou, le, lf, K) := ⟨nw, sp, el, w, s, u, co, dk, se, ho, htk, hnw, hsp, hel, hw, hs, hu, hco, hdk, hse⟩
    exact V_throwSW (i := 23) (by decide +kernel) tc_IllegalState ti_IllegalState tw_IllegalState tg_IllegalState rfl dX12_undo_10 dX12_undo_13 dX12_undo_14 dX12_undo_17 dX12_undo_20 rfl (by omega) (by omega) (by omega) (Nat.le_of_ble_eq_true rfl) (fun H1 hz hq => kx (len0 c_7) H1 g (hR.keep hz hq) (E.trans (Ext.keep hz hq)))

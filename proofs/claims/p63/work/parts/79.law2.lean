theorem was_set {ll : List Int64} {ea : List StC} {d : Nat} {S : StC} (hl : ea.length = d) (hll : ll.length = 9) (hd : d < 9) (h : ∀ i : Nat, i < d → ll.getD i 0 = asksV (ea.getD i S0)) : ∀ i : Nat, i < d + 1 → (ll.set d (asksV S)).getD i 0 = asksV ((ea ++ [S]).getD i S0) := by
  intro i hi
  rw [List.getD_eq_getElem?_getD, List.getD_eq_getElem?_getD, List.getElem?_set]
  by_cases e : d = i
  · subst e
    rw [if_pos rfl, if_pos (by omega), List.getElem?_append_right (by omega), hl, Nat.sub_self]; rfl
  · rw [if_neg e, List.getElem?_append_left (by omega)]
    have := h i (by omega)
    rw [List.getD_eq_getElem?_getD, List.getD_eq_getElem?_getD] at this
    exact this
set_option maxHeartbeats 1000000 in
set_option maxRecDepth 100000 in
theorem c_lwC {G : GT} {X : String → Heap → Prop} {o p w : Nat} {l : List Int32} {sn : StC} {tk : Int32} (hI : INV 100 sn) (htk : ¬ tk = 0) {F : Int32 → Prop} (kk : F 1) : ∀ (f i d : Nat) (ll : List Int64) (S : StC) (ea : List StC) (wd u : List Int32) (le lf : Int32) (K : ScC) (H : Heap) (g : Nat → Nat), i + f = 8 → d ≤ i → ll.length = 9 → ea.length = d → (∀ T ∈ ea, INV 100 T) → (∀ i : Nat, i < d → ll.getD i 0 = asksV (ea.getD i S0)) → INV (28 + 3 * i) S → RG G H g o (S, sn, tk, ea, wd, [], u, le, lf, K) → Zi G H g p l → La G H g 50 w ll → V G kL_law 20 (5868 + 12263 * f) (1282038 + 372850 * f) (qi fun v _ => F v) X 754 [some (.ref p), none, some (.ref o), some (.long (asksV sn)), none, some (.int (nI sn.2.2.1.length)), some (.ref w), some (.int (nI d)), some (.int (nI i)), none, none] [] H := by
  intro f
  induction f with
  | zero =>
    intro i d ll S ea wd u le lf K H g hif hdi hll hl hIT hwas hIS hR hs hw
    refine V_iload_8 dL_law_754 ?_
    refine V_bipush (v := 8) dL_law_756 (by decide) ?_
    refine V_icmp_ge (tgt := 821) dL_law_758 (by decide) (fun c_758 => ?_) (fun c_758 => ?_)
    · refine V_iconst (v := 1) dL_law_821 rfl ?_
      refine V_istore_8 dL_law_822 rfl ?_
      have hd1 : d - d + 1 = 1 := by omega
      have hz := c_lwU (X := X) (p := p) (w := w) (d := d) (by omega) hll hI htk kk d ea S u K H g hl (Nat.le_refl _) hIT hwas hR hw
      rw [hd1] at hz
      exact V_mono (c2 := 660 + 651 * d) (s2 := 142470 + 142446 * d) (by omega) (by omega) hz
    · exact absurd (show (8 : Int32) ≤ nI i from (nI_le_iff (a := 8) (by omega) (by omega)).mpr (by omega)) c_758
  | succ f ih =>
    intro i d ll S ea wd u le lf K H g hif hdi hll hl hIT hwas hIS hR hs hw
    refine V_iload_8 dL_law_754 ?_
    refine V_bipush (v := 8) dL_law_756 (by decide) ?_
    refine V_icmp_ge (tgt := 821) dL_law_758 (by decide) (fun c_758 => ?_) (fun c_758 => ?_)
    · exact absurd c_758 (fun z => absurd ((nI_le_iff (a := 8) (by omega) (by omega)).mp z) (by omega))
    · refine V_aload_2 dL_law_761 ?_
      refine V_call_l (runS1 dL_law_762 ce_L_asks rfl ml_L_338 st_L_asks (Nat.le_of_ble_eq_true rfl)) (by omega) (by omega) (by omega) (c_asks hIS hR fun u1 K1 H1 g1 hR1 e1 => ?_)
      have hs1 := hs.fr e1 (by decide)
      have hw1 := hw.fr e1 (by decide)
      refine V_lstore_9 dL_law_765 rfl ?_
      refine V_aload_2 dL_law_767 ?_
      refine V_aload_0 dL_law_768 ?_
      refine V_bipush (v := 20) dL_law_769 (by decide) ?_
      refine V_iload_8 dL_law_771 ?_
      refine V_iadd dL_law_773 ?_
      refine V_call_i (runS2 dL_law_774 ce_L_at rfl ml_L_223 st_L_at (Nat.le_of_ble_eq_true rfl)) (by omega) (by omega) (by omega) (c_at hs1 (by rw [show (20 : Int32) + nI i = nI (20 + i) from nI_a]; exact nI_pos (by omega)) ?_)
      refine V_iload_8 dL_law_777 ?_
      refine V_sipush (v := 977) dL_law_779 (by decide) ?_
      refine V_imul dL_law_782 ?_
      refine V_ixor dL_law_783 ?_
      generalize (atV l (20 + nI i)) ^^^ ((nI i) * 977) = x
      refine V_call_i (runS2 dL_law_784 ce_L_changes rfl ml_L_408 st_L_changes (Nat.le_of_ble_eq_true rfl)) (by omega) (by omega) (by omega) (c_changes hR1 (by omega) hIS (by omega) (fun S2 wd2 K2 le2 lf2 H2 g2 hI2 hR2 e2 => ?_) (fun wd2 K2 le2 lf2 H2 g2 hR2 e2 => ?_))
      · skip
        have hs2 := hs1.fr e2 (by decide)
        have hw2 := hw1.fr e2 (by decide)
        refine V_if_eq (tgt := 803) dL_law_787 (by decide) (fun c => absurd c (by decide)) (fun _ => ?_)
        refine V_aload_6 dL_law_790 ?_
        refine V_iload_7 dL_law_792 ?_
        refine V_iinc_7 (v := 1) dL_law_794 rfl rfl ?_
        refine V_lload_9 dL_law_797 ?_
        have hpe : pushE ea S = ea ++ [S] := by rw [pushE, if_pos (show nI ea.length < 8 from nI_lt (b := 8) (by omega) (by decide))]
        rw [hpe] at hR2
        refine V_las dL_law_799 hw2 (by decide) (vp_in_nI (by omega) (by omega)) fun H3 hw3 e3 z3 => ?_
        rw [nI_clamp (by omega)] at hw3
        have hR3 := hR2.fr e3 (by decide)
        have hs3 := hs2.fr e3 (by decide)
        refine V_goto (tgt := 815) dL_law_800 (by decide) ?_
        refine V_iinc_8 (v := 1) dL_law_815 rfl rfl ?_
        refine V_goto (tgt := 754) dL_law_818 (by decide) ?_
        refine V_drop 9 rfl ?_
        rw [nI_s, nI_s]
        exact V_mono (c2 := 5868 + 12263 * f) (s2 := 1282038 + 372850 * f) (by omega) (by omega) (ih (i + 1) (d + 1) (ll.set d (asksV S)) S2 (ea ++ [S]) wd2 u1 le2 lf2 K2 H3 g2 (by omega) (by omega) (by rw [List.length_set]; exact hll) (by rw [List.length_append, hl]; rfl) (fun T hT => (List.mem_append.mp hT).elim (hIT T) (fun h => by rw [List.mem_singleton.mp h]; exact hIS.mono (by omega))) (was_set hl hll (by omega) hwas) (hI2.mono (by omega)) hR3 hs3 hw3)
      · skip
        have hs2 := hs1.fr e2 (by decide)
        have hw2 := hw1.fr e2 (by decide)
        refine V_if_eq (tgt := 803) dL_law_787 (by decide) (fun _ => ?_) (fun c => absurd rfl c)
        refine V_aload_2 dL_law_803 ?_
        refine V_call_l (runS1 dL_law_804 ce_L_asks rfl ml_L_338 st_L_asks (Nat.le_of_ble_eq_true rfl)) (by omega) (by omega) (by omega) (c_asks hIS hR2 fun u4 K4 H4 g4 hR4 e4 => ?_)
        have hs4 := hs2.fr e4 (by decide)
        have hw4 := hw2.fr e4 (by decide)
        refine V_lload_9 dL_law_807 ?_
        refine V_lcmp dL_law_809 lcmp_eq ?_
        refine V_if_eq (tgt := 815) dL_law_810 (by decide) (fun _ => ?_) (fun c => absurd rfl c)
        refine V_iinc_8 (v := 1) dL_law_815 rfl rfl ?_
        refine V_goto (tgt := 754) dL_law_818 (by decide) ?_
        refine V_drop 9 rfl ?_
        rw [nI_s]
        exact V_mono (c2 := 5868 + 12263 * f) (s2 := 1282038 + 372850 * f) (by omega) (by omega) (ih (i + 1) d ll S ea wd2 u4 le2 lf2 K4 H4 g4 (by omega) (by omega) hll hl hIT hwas (hIS.mono (by omega)) hR4 hs4 hw4)

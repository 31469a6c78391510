set_option maxHeartbeats 1000000 in
set_option maxRecDepth 100000 in
theorem c_lwEnd {G : GT} {X : String → Heap → Prop} {H : Heap} {g : Nat → Nat} {o p : Nat} {S sn : StC} {tk : Int32} {wd sc u : List Int32} {le lf : Int32} {K : ScC} {k0 : Nat} (hI : INV k0 sn) (htk : ¬ tk = 0) (hR : RG G H g o (S, sn, tk, [], wd, sc, u, le, lf, K)) {F : Int32 → Prop} (kk : F 1) : V G kL_law 20 660 142470 (qi fun v _ => F v) X 867 [some (.ref p), none, some (.ref o), some (.long (asksV sn)), none, some (.int (nI sn.2.2.1.length)), none, none, none, none, none] [] H := by
  have E : Ext G tsA H g H g := Ext.rf
  refine V_aload_2 dL_law_867 ?_
  refine V_call_i (runSX1 dL_law_868 ce_L_undo rfl ml_L_389 st_L_undo (Nat.le_of_ble_eq_true rfl)) (by omega) (by omega) (by omega) (c_lUndo (R := (S, sn, tk, [], wd, sc, u, le, lf, K)) hR (fun ea0 T hT => absurd (show ([] : List StC) = ea0 ++ [T] from hT) (by simp)) (fun _ H1 g1 hR e1 => ?_))
  replace E := E.trans e1
  refine V_sipush (v := (-1001)) dL_law_871 (by decide) ?_
  refine V_icmp_ne (tgt := 909) dL_law_874 (by decide) (fun c => absurd rfl c) (fun _ => ?_)
  refine V_aload_2 dL_law_877 ?_
  refine V_call_i (runSX1 dL_law_878 ce_L_restore rfl ml_L_391 st_L_restore (Nat.le_of_ble_eq_true rfl)) (by omega) (by omega) (by omega) (c_lRest (R := (S, sn, tk, [], wd, sc, u, le, lf, K)) hR (fun _ H2 g2 hR e2 => ?_) (fun h => absurd h htk))
  replace E := E.trans e2
  refine V_iload_5 dL_law_881 ?_
  refine V_icmp_ne (tgt := 909) dL_law_883 (by decide) (fun c => absurd rfl c) (fun _ => ?_)
  refine V_aload_2 dL_law_886 ?_
  refine V_call_l (runS1 dL_law_887 ce_L_asks rfl ml_L_338 st_L_asks (Nat.le_of_ble_eq_true rfl)) (by omega) (by omega) (by omega) (c_asks hI (show RG G H2 g2 o (sn, sn, tk, [], wd, sc, u, le, lf, K) from hR) fun u9 K9 H3 g3 hR e3 => ?_)
  replace E := E.trans e3
  refine V_lload_3 dL_law_890 ?_
  refine V_lcmp dL_law_891 lcmp_eq ?_
  refine V_if_ne (tgt := 909) dL_law_892 (by decide) (fun c => absurd rfl c) (fun _ => ?_)
  refine V_aload_2 dL_law_895 ?_
  refine V_call_i (runSX1 dL_law_896 ce_L_undo rfl ml_L_389 st_L_undo (Nat.le_of_ble_eq_true rfl)) (by omega) (by omega) (by omega) (c_lUndo (R := (sn, sn, tk, [], wd, sc, u9, le, lf, K9)) hR (fun ea0 T hT => absurd (show ([] : List StC) = ea0 ++ [T] from hT) (by simp)) (fun _ H4 g4 hR e4 => ?_))
  replace E := E.trans e4
  refine V_sipush (v := (-1001)) dL_law_899 (by decide) ?_
  refine V_icmp_ne (tgt := 909) dL_law_902 (by decide) (fun c => absurd rfl c) (fun _ => ?_)
  refine V_iconst (v := 1) dL_law_905 rfl ?_
  refine V_goto (tgt := 910) dL_law_906 (by decide) ?_
  exact V_retb true dL_law_910 rfl rfl kk
set_option maxHeartbeats 1000000 in
set_option maxRecDepth 100000 in
theorem c_lwU {G : GT} {X : String → Heap → Prop} {o p w d : Nat} (hd : d ≤ 8) {ll : List Int64} (hll : ll.length = 9) {sn : StC} {tk : Int32} {wd sc : List Int32} {le lf : Int32} {k0 : Nat} (hI : INV k0 sn) (htk : ¬ tk = 0) {F : Int32 → Prop} (kk : F 1) : ∀ (f : Nat) (ea : List StC) (S : StC) (u : List Int32) (K : ScC) (H : Heap) (g : Nat → Nat), ea.length = f → f ≤ d → (∀ T ∈ ea, INV k0 T) → (∀ i : Nat, i < f → ll.getD i 0 = asksV (ea.getD i S0)) → RG G H g o (S, sn, tk, ea, wd, sc, u, le, lf, K) → La G H g 50 w ll → V G kL_law 20 (660 + 651 * f) (142470 + 142446 * f) (qi fun v _ => F v) X 824 [some (.ref p), none, some (.ref o), some (.long (asksV sn)), none, some (.int (nI sn.2.2.1.length)), some (.ref w), some (.int (nI d)), some (.int (nI (d - f + 1))), none, none] [] H := by
  intro f
  induction f with
  | zero =>
    intro ea S u K H g hl hfd hIT hwas hR hw
    refine V_iload_8 dL_law_824 ?_
    refine V_iload_7 dL_law_826 ?_
    refine V_icmp_gt (tgt := 867) dL_law_828 (by decide) (fun c_828 => ?_) (fun c_828 => ?_)
    · refine V_drop 6 rfl ?_
      refine V_drop 7 rfl ?_
      refine V_drop 8 rfl ?_
      have he : ea = [] := List.length_eq_zero_iff.mp hl
      subst he
      exact c_lwEnd hI htk hR kk
    · exact absurd ((nI_ltI (by omega) (by omega)).mpr (by omega)) c_828
  | succ f ih =>
    intro ea S u K H g hl hfd hIT hwas hR hw
    refine V_iload_8 dL_law_824 ?_
    refine V_iload_7 dL_law_826 ?_
    refine V_icmp_gt (tgt := 867) dL_law_828 (by decide) (fun c_828 => ?_) (fun c_828 => ?_)
    · exact absurd ((nI_ltI (by omega) (by omega)).mp c_828) (by omega)
    · refine V_aload_2 dL_law_831 ?_
      refine V_call_i (runSX1 dL_law_832 ce_L_undo rfl ml_L_389 st_L_undo (Nat.le_of_ble_eq_true rfl)) (by omega) (by omega) (by omega) (c_lUndo (R := (S, sn, tk, ea, wd, sc, u, le, lf, K)) hR (fun ea0 T hT H1 g1 hR e1 => ?_) (fun h => absurd (show ea.length = 0 from h) (by omega)))
      have hea : ea = ea0 ++ [T] := hT
      subst hea
      have hl0 : ea0.length = f := by rw [List.length_append, List.length_singleton] at hl; omega
      have hw1 := hw.fr e1 (by decide)
      have hTI := hIT T (List.mem_append.mpr (Or.inr List.mem_cons_self))
      have hwf : ll.getD f 0 = asksV T := by have := hwas f (by omega); rw [this, List.getD_eq_getElem?_getD, List.getElem?_append_right (by omega), hl0, Nat.sub_self]; rfl
      have hsub : nI d - nI (d - (f + 1) + 1) = nI f := by rw [nI_sub (by omega)]; congr 1; omega
      refine V_iload_7 dL_law_835 ?_
      refine V_iload_8 dL_law_837 ?_
      refine V_isub dL_law_839 ?_
      rw [hsub, hl0]
      refine V_icmp_ne (tgt := 859) dL_law_840 (by decide) (fun c => absurd rfl c) (fun _ => ?_)
      refine V_aload_2 dL_law_843 ?_
      refine V_call_l (runS1 dL_law_844 ce_L_asks rfl ml_L_338 st_L_asks (Nat.le_of_ble_eq_true rfl)) (by omega) (by omega) (by omega) (c_asks hTI (show RG G H1 g1 o (T, sn, tk, ea0, wd, sc, u, le, lf, K) from hR) fun u9 K9 H2 g2 hR e2 => ?_)
      have hw2 := hw1.fr e2 (by decide)
      refine V_aload_6 dL_law_847 ?_
      refine V_iload_7 dL_law_849 ?_
      refine V_iload_8 dL_law_851 ?_
      refine V_isub dL_law_853 ?_
      rw [hsub]
      refine V_lald (v := .long (asksV T)) dL_law_854 hw2.ra (vp_in_nI (by omega) (by omega)) (by rw [nI_clamp (by omega)]; exact congrArg Value.long hwf) ?_
      refine V_lcmp dL_law_855 lcmp_eq ?_
      refine V_if_eq (tgt := 861) dL_law_856 (by decide) (fun _ => ?_) (fun c => absurd rfl c)
      refine V_iinc_8 (v := 1) dL_law_861 rfl rfl ?_
      refine V_goto (tgt := 824) dL_law_864 (by decide) ?_
      rw [show nI (d - (f + 1) + 1) + 1 = nI (d - f + 1) from by rw [nI_s]; congr 1; omega]
      exact V_mono (c2 := 660 + 651 * f) (s2 := 142470 + 142446 * f) (by omega) (by omega) (ih ea0 T u9 K9 H2 g2 hl0 (by omega) (fun T2 h2 => hIT T2 (List.mem_append.mpr (Or.inl h2))) (fun i hi => by have := hwas i (by omega); rw [this, List.getD_eq_getElem?_getD, List.getD_eq_getElem?_getD, List.getElem?_append_left (by omega)]) hR hw2)

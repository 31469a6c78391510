set_option maxHeartbeats 1000000 in
set_option maxRecDepth 100000 in
theorem c_lwEnd {G : GT} {X : String → Heap → Prop} {H : Heap} {g : Nat → Nat} {o p : Nat} {S sn : StC} {tk : Int32} {wd sc u : List Int32} {le lf : Int32} {K : ScC} {k0 : Nat} (hI : INV k0 sn) (htk : ¬ tk = 0) (hR : RG G H g o (S, sn, tk, [], wd, sc, u, le, lf, K)) {F : Int32 → Prop} (kk : F 1) : V G kL_law 20 660 142470 (qi fun v _ => F v) X 867 [some (.ref p), none, some (.ref o), some (.long (asksV sn)), none, some (.int (nI sn.2.2.1.length)), none, none, none, none, none] [] H := by
  have E : Ext G tsA H g H g := Ext.rf
  refine V_aload_2 dL_law_867 ?_
  refine V_call_i (runSX1 dL_law_868 ce_L_undo rfl ml_L_389 st_L_undo (Nat.le_of_ble_eq_true rfl)) (by omega) (by omega) (by omega) (c_lUndo (R := (S, sn, tk, [], wd, sc, u, le, lf, K)) hR (fun ea0 T hT => absurd (show ([] : List StC) = ea0 ++ [T] from hT) (by simp)) (fun _ H1 g1 hR e1 => ?_))
  replace E := E.trans e1
  refine V_sipush (v := (-1001)) dL_law_871 (by decide) ?_
  refine V_icmp_ne (tgt := 909) dL_law_874 (by decide) (fun c => absurd rfl c) (fun _ => ?_)
  refine V_aload_2 dL_law_877 ?_
  refine V_call_i (runSX1 dL_law_878 ce_L_restore rfl ml_L_391 st_L_restore (Nat.le_of_ble_eq_true rfl)) (by omega) (by omega) (by omega) (c_lRest (R := (S, sn, tk, [], wd, sc, u, le, lf, K)) hR (fun _ H2 g2 hR e2 => ?_) (fun h => absurd h htk))
  replace E := E.trans e2
  refine V_iload_5 dL_law_881 ?_
  refine V_icmp_ne (tgt := 909) dL_law_883 (by decide) (fun c => absurd rfl c) (fun _ => ?_)
  refine V_aload_2 dL_law_886 ?_
  refine V_call_l (runS1 dL_law_887 ce_L_asks rfl ml_L_338 st_L_asks (Nat.le_of_ble_eq_true rfl)) (by omega) (by omega) (by omega) (c_asks hI (show RG G H2 g2 o (sn, sn, tk, [], wd, sc, u, le, lf, K) from hR) fun u9 K9 H3 g3 hR e3 => ?_)
  replace E := E.trans e3
  refine V_lload_3 dL_law_890 ?_
  refine V_lcmp dL_law_891 lcmp_eq ?_
  refine V_if_ne (tgt := 909) dL_law_892 (by decide) (fun c => absurd rfl c) (fun _ => ?_)
  refine V_aload_2 dL_law_895 ?_
  refine V_call_i (runSX1 dL_law_896 ce_L_undo rfl ml_L_389 st_L_undo (Nat.le_of_ble_eq_true rfl)) (by omega) (by omega) (by omega) (c_lUndo (R := (sn, sn, tk, [], wd, sc, u9, le, lf, K9)) hR (fun ea0 T hT => absurd (show ([] : List StC) = ea0 ++ [T] from hT) (by simp)) (fun _ H4 g4 hR e4 => ?_))
  replace E := E.trans e4
  refine V_sipush (v := (-1001)) dL_law_899 (by decide) ?_
  refine V_icmp_ne (tgt := 909) dL_law_902 (by decide) (fun c => absurd rfl c) (fun _ => ?_)
  refine V_iconst (v := 1) dL_law_905 rfl ?_
  refine V_goto (tgt := 910) dL_law_906 (by decide) ?_
  exact V_retb true dL_law_910 rfl rfl kk

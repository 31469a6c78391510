set_option maxHeartbeats 1000000 in
set_option maxRecDepth 100000 in
theorem c_lwM {G : GT} {X : String → Heap → Prop} {H : Heap} {g : Nat → Nat} {p : Nat} {l : List Int32} (hs : Zi G H g p l) {F : Int32 → Prop} (kk : F 1) : V G kL_law 20 144000 5400000 (qi fun v _ => F v) X 677 [some (.ref p), none, none, none, none, none, none, none, none, none, none] [] H := by
  refine V_mk2 (g := g) 1 12 dL_law_677 nw_L_8 rfl (by omega) (by omega) fun o H1 g1 ho e1 z1 => ?_
  have hs1 := hs.fr e1 (by simp)
  refine V_dup dL_law_680 rfl ?_
  refine V_call_v (runI0 dL_law_681 ce_X12_init rfl rfl rfl ml_L_388 im_X12_init (Nat.le_of_ble_eq_true rfl)) (by omega) (by omega) (by omega) (c_rgInit ho fun H2 g2 hR e2 => ?_)
  have hs2 := hs1.fr e2 (by decide)
  refine V_astore_2 dL_law_684 rfl ?_
  refine V_aload_2 dL_law_685 ?_
  refine V_aload_0 dL_law_686 ?_
  refine V_call_i (runS2 dL_law_687 ce_L_makes rfl ml_L_400 st_L_makes (Nat.le_of_ble_eq_true rfl)) (by omega) (by omega) (by omega) (c_makes hR hs2 fun m S ea wd K H3 g3 hm2 hm8 hR3 hea hI hn hc5 hps e3 => ?_)
  have hs3 := hs2.fr e3 (by decide)
  refine V_if_eq (tgt := 700) dL_law_690 (by decide) (fun c => absurd c (by decide)) (fun _ => ?_)
  refine V_aload_2 dL_law_693 ?_
  refine V_call_i (runS1 dL_law_694 ce_L_thrown rfl ml_L_404 st_L_thrown (Nat.le_of_ble_eq_true rfl)) (by omega) (by omega) (by omega) (c_thrown hm2 hm8 hn hI hea hps hc5 hR3 fun u4 K4 le4 lf4 H4 g4 hR4 e4 => ?_)
  have hs4 := hs3.fr e4 (by decide)
  refine V_if_ne (tgt := 702) dL_law_697 (by decide) (fun _ => ?_) (fun c => absurd c (by decide))
  refine V_aload_2 dL_law_702 ?_
  refine V_call_l (runS1 dL_law_703 ce_L_asks rfl ml_L_338 st_L_asks (Nat.le_of_ble_eq_true rfl)) (by omega) (by omega) (by omega) (c_asks hI hR4 fun u5 K5 H5 g5 hR5 e5 => ?_)
  have hs5 := hs4.fr e5 (by decide)
  refine V_lstore_3 dL_law_706 rfl ?_
  refine V_aload_2 dL_law_707 ?_
  obtain ⟨fo, hfo⟩ := hR5.o
  refine V_call_i (runV0 dL_law_708 ce_X12_save rfl ml_L_393 im_X12_save se_X12_save hfo ⟨_, rfl, rfl⟩ (Nat.le_of_ble_eq_true rfl)) (by omega) (by omega) (by omega) (c_fSave hR5 fun H6 g6 hR6 e6 => ?_)
  have hs6 := hs5.fr e6 (by decide)
  change RG G H6 g6 o (S, S, 1, ea, [], [], u5, le4, lf4, K5) at hR6
  refine V_istore_5 dL_law_711 rfl ?_
  refine V_iload_5 dL_law_713 ?_
  refine V_aload_2 dL_law_715 ?_
  obtain ⟨fo6, hfo6⟩ := hR6.o
  refine V_call_i (runV0 dL_law_716 ce_X12_caseCount rfl ml_L_295 im_X12_caseCount se_X12_caseCount hfo6 ⟨_, rfl, rfl⟩ (Nat.le_of_ble_eq_true rfl)) (by omega) (by omega) (by omega) (c_fCas hR6 ?_)
  refine V_icmp_ne (tgt := 740) dL_law_719 (by decide) (fun c => absurd rfl c) (fun _ => ?_)
  refine V_aload_2 dL_law_722 ?_
  refine V_call_l (runS1 dL_law_723 ce_L_asks rfl ml_L_338 st_L_asks (Nat.le_of_ble_eq_true rfl)) (by omega) (by omega) (by omega) (c_asks hI hR6 fun u7 K7 H7 g7 hR7 e7 => ?_)
  have hs7 := hs6.fr e7 (by decide)
  refine V_lload_3 dL_law_726 ?_
  refine V_lcmp dL_law_727 lcmp_eq ?_
  refine V_if_ne (tgt := 740) dL_law_728 (by decide) (fun c => absurd rfl c) (fun _ => ?_)
  refine V_aload_2 dL_law_731 ?_
  refine V_call_i (runSX1 dL_law_732 ce_L_restore rfl ml_L_391 st_L_restore (Nat.le_of_ble_eq_true rfl)) (by omega) (by omega) (by omega) (c_lRest hR7 (fun _ H8 g8 hR8 e8 => ?_) (fun h => absurd (show (1 : Int32) = 0 from h) (by decide)))
  have hs8 := hs7.fr e8 (by decide)
  change RG G H8 g8 o (S, S, 1, [], [], [], u7, le4, lf4, K7) at hR8
  refine V_iload_5 dL_law_735 ?_
  refine V_icmp_eq (tgt := 742) dL_law_737 (by decide) (fun _ => ?_) (fun c => absurd rfl c)
  refine V_bipush (v := 9) dL_law_742 (by decide) ?_
  refine V_mkL (g := g8) 50 dL_law_744 ac_long rfl rfl rfl (fun C => by intro h; cases h) (by decide) (N := 9) rfl (by decide) (by decide) (by omega) (by omega) fun w H9 g9 hw e9 z9 => ?_
  have hR9 := hR8.fr e9 (by decide)
  have hs9 := hs8.fr e9 (by decide)
  refine V_astore_6 dL_law_746 rfl ?_
  refine V_iconst (v := 0) dL_law_748 rfl ?_
  refine V_istore_7 dL_law_749 rfl ?_
  refine V_iconst (v := 0) dL_law_751 rfl ?_
  refine V_istore_8 dL_law_752 rfl ?_
  exact V_mono (c2 := 5868 + 12263 * 8) (s2 := 1282038 + 372850 * 8) (by omega) (by omega) (c_lwC (hI.mono (by omega)) (by decide) kk 8 0 0 (List.replicate 9 0) S [] [] u7 le4 lf4 K7 H9 g9 (by omega) (by omega) rfl rfl (fun T hT => absurd hT List.not_mem_nil) (fun i hi => absurd hi (by omega)) hI hR9 hs9 hw)

set_option maxHeartbeats 1000000 in
set_option maxRecDepth 100000 in
theorem c_lh637 {G : GT} {X : String → Heap → Prop} {o p : Nat} {l : List Int32} {F : Int32 → Prop} (kk : F 1) {H : Heap} {g : Nat → Nat} {x2 : Int32} {S : StC} {ea : List StC} {le : Int32} {K : ScC} (hp : Zi G H g p l) (hR : RG G H g o (S, S0, 1, ea, [], [], [], le, -1, K)) : V G kL_law 20 144010 5400100 (qi fun v _ => F v) X 637 [some (.ref p), some (.ref o), some (.int x2), none, none, none, none, none, none, none, none] [] H := by
  refine V_aload_1 dL_law_637 ?_
  refine V_call_i (runSX1 dL_law_638 ce_L_restore rfl ml_L_391 st_L_restore (Nat.le_of_ble_eq_true rfl)) (by omega) (by omega) (by omega) (c_lRest hR (fun _ H1 g1 hR e1 => ?_) (fun h => absurd (show (1 : Int32) = 0 from h) (by decide)))
  replace hp := hp.fr e1 (by decide)
  change RG G H1 g1 o (S0, S0, 1, [], [], [], [], le, -1, K) at hR
  refine V_int (y := 0) (rfl) ?_
  refine V_if_ne (tgt := 675) dL_law_641 (by decide) (fun c => absurd rfl c) (fun _ => ?_)
  refine V_aload_1 dL_law_644 ?_
  obtain ⟨fo2, hfo2⟩ := hR.o
  refine V_call_i (runV0 dL_law_645 ce_X12_buttonCount rfl ml_L_246 im_X12_buttonCount se_X12_buttonCount hfo2 ⟨_, rfl, rfl⟩ (Nat.le_of_ble_eq_true rfl)) (by omega) (by omega) (by omega) (c_fBut hR ?_)
  refine V_int (y := 0) (rfl) ?_
  refine V_if_ne (tgt := 675) dL_law_648 (by decide) (fun c => absurd rfl c) (fun _ => ?_)
  refine V_aload_1 dL_law_651 ?_
  obtain ⟨fo3, hfo3⟩ := hR.o
  refine V_call_i (runV0 dL_law_652 ce_X12_day rfl ml_L_272 im_X12_day se_X12_day hfo3 ⟨_, rfl, rfl⟩ (Nat.le_of_ble_eq_true rfl)) (by omega) (by omega) (by omega) (c_fDay hR ?_)
  refine V_int (y := 0) (rfl) ?_
  refine V_if_ne (tgt := 675) dL_law_655 (by decide) (fun c => absurd rfl c) (fun _ => ?_)
  refine V_aload_1 dL_law_658 ?_
  obtain ⟨fo4, hfo4⟩ := hR.o
  refine V_call_i (runV0 dL_law_659 ce_X12_precedentCount rfl ml_L_275 im_X12_precedentCount se_X12_precedentCount hfo4 ⟨_, rfl, rfl⟩ (Nat.le_of_ble_eq_true rfl)) (by omega) (by omega) (by omega) (c_fPre hR ?_)
  refine V_int (y := 0) (rfl) ?_
  refine V_if_ne (tgt := 675) dL_law_662 (by decide) (fun c => absurd rfl c) (fun _ => ?_)
  refine V_aload_1 dL_law_665 ?_
  refine V_call_i (runSX1 dL_law_666 ce_L_undo rfl ml_L_389 st_L_undo (Nat.le_of_ble_eq_true rfl)) (by omega) (by omega) (by omega) (w_Undo0 hR fun H5 g5 hR e5 => ?_)
  replace hp := hp.fr e5 (by decide)
  refine V_sipush (v := (-1001)) dL_law_669 (by decide) ?_
  refine V_icmp_eq (tgt := 677) dL_law_672 (by decide) (fun _ => ?_) (fun c => absurd rfl c)
  refine V_drop 1 rfl ?_
  refine V_drop 2 rfl ?_
  exact V_mono (c2 := 144000) (s2 := 5400000) (by omega) (by omega) (c_lwM hp kk)
set_option maxHeartbeats 1000000 in
set_option maxRecDepth 100000 in
theorem c_lh469 {G : GT} {X : String → Heap → Prop} {o p : Nat} {l : List Int32} {F : Int32 → Prop} (kk : F 1) {H : Heap} {g : Nat → Nat} {x2 : Int32} {S : StC} {K : ScC} (hp : Zi G H g p l) (hR : RG G H g o (S, S0, 1, eaD 37 45, [], [], [], 1, -1, K)) : V G kL_law 20 144080 5404900 (qi fun v _ => F v) X 469 [some (.ref p), some (.ref o), some (.int x2), none, none, none, none, none, none, none, none] [] H := by
  refine V_aload_1 dL_law_469 ?_
  refine V_call_i (runSX1 dL_law_470 ce_L_undo rfl ml_L_389 st_L_undo (Nat.le_of_ble_eq_true rfl)) (by omega) (by omega) (by omega) (w_Undo (a := 37) (b := 44) (by omega) hR fun H1 g1 hR e1 => ?_)
  replace hp := hp.fr e1 (by decide)
  refine V_int (y := 7) (rfl) ?_
  refine V_bipush (v := 7) dL_law_473 (by decide) ?_
  refine V_icmp_ne (tgt := 635) dL_law_475 (by decide) (fun c => absurd rfl c) (fun _ => ?_)
  refine V_aload_1 dL_law_478 ?_
  obtain ⟨fo2, hfo2⟩ := hR.o
  refine V_call_i (runV0 dL_law_479 ce_X12_caseCount rfl ml_L_295 im_X12_caseCount se_X12_caseCount hfo2 ⟨_, rfl, rfl⟩ (Nat.le_of_ble_eq_true rfl)) (by omega) (by omega) (by omega) (c_fCas hR ?_)
  refine V_int (y := 11) (d_qs.1) ?_
  refine V_bipush (v := 11) dL_law_482 (by decide) ?_
  refine V_icmp_ne (tgt := 635) dL_law_484 (by decide) (fun c => absurd rfl c) (fun _ => ?_)
  refine V_aload_1 dL_law_487 ?_
  refine V_call_i (runSX1 dL_law_488 ce_L_undo rfl ml_L_389 st_L_undo (Nat.le_of_ble_eq_true rfl)) (by omega) (by omega) (by omega) (w_Undo (a := 37) (b := 43) (by omega) hR fun H3 g3 hR e3 => ?_)
  replace hp := hp.fr e3 (by decide)
  refine V_int (y := 6) (rfl) ?_
  refine V_bipush (v := 6) dL_law_491 (by decide) ?_
  refine V_icmp_ne (tgt := 635) dL_law_493 (by decide) (fun c => absurd rfl c) (fun _ => ?_)
  refine V_aload_1 dL_law_496 ?_
  refine V_bipush (v := 11) dL_law_497 (by decide) ?_
  refine V_call_i (runSX2 dL_law_499 ce_L_claim rfl ml_L_376 st_L_claim (Nat.le_of_ble_eq_true rfl)) (by omega) (by omega) (by omega) (c_lClm hR fun H4 g4 hR e4 => ?_)
  replace hp := hp.fr e4 (by decide)
  refine V_int (y := 10) (d_q43.2.2.2.2) ?_
  refine V_bipush (v := 10) dL_law_502 (by decide) ?_
  refine V_icmp_ne (tgt := 635) dL_law_504 (by decide) (fun c => absurd rfl c) (fun _ => ?_)
  refine V_aload_1 dL_law_507 ?_
  refine V_call_i (runSX1 dL_law_508 ce_L_undo rfl ml_L_389 st_L_undo (Nat.le_of_ble_eq_true rfl)) (by omega) (by omega) (by omega) (w_Undo (a := 37) (b := 42) (by omega) hR fun H5 g5 hR e5 => ?_)
  replace hp := hp.fr e5 (by decide)
  refine V_int (y := 5) (rfl) ?_
  refine V_iconst (v := 5) dL_law_511 rfl ?_
  refine V_icmp_ne (tgt := 635) dL_law_512 (by decide) (fun c => absurd rfl c) (fun _ => ?_)
  refine V_aload_1 dL_law_515 ?_
  refine V_iconst (v := 1) dL_law_516 rfl ?_
  refine V_call_i (runSX2 dL_law_517 ce_L_balance rfl ml_L_342 st_L_balance (Nat.le_of_ble_eq_true rfl)) (by omega) (by omega) (by omega) (c_lBal hR fun H6 g6 hR e6 => ?_)
  replace hp := hp.fr e6 (by decide)
  refine V_int (y := (-37)) (d_q42.2.2.2.1) ?_
  refine V_bipush (v := (-37)) dL_law_520 (by decide) ?_
  refine V_icmp_ne (tgt := 635) dL_law_522 (by decide) (fun c => absurd rfl c) (fun _ => ?_)
  refine V_aload_1 dL_law_525 ?_
  refine V_call_i (runSX1 dL_law_526 ce_L_undo rfl ml_L_389 st_L_undo (Nat.le_of_ble_eq_true rfl)) (by omega) (by omega) (by omega) (w_Undo (a := 37) (b := 41) (by omega) hR fun H7 g7 hR e7 => ?_)
  replace hp := hp.fr e7 (by decide)
  refine V_int (y := 4) (rfl) ?_
  refine V_iconst (v := 4) dL_law_529 rfl ?_
  refine V_icmp_ne (tgt := 635) dL_law_530 (by decide) (fun c => absurd rfl c) (fun _ => ?_)
  refine V_aload_1 dL_law_533 ?_
  refine V_iconst (v := 0) dL_law_534 rfl ?_
  refine V_call_i (runSX2 dL_law_535 ce_L_state rfl ml_L_349 st_L_state (Nat.le_of_ble_eq_true rfl)) (by omega) (by omega) (by omega) (c_lSta hR fun H8 g8 hR e8 => ?_)
  replace hp := hp.fr e8 (by decide)
  refine V_int (y := 102) (d_qs.2.1) ?_
  refine V_bipush (v := 102) dL_law_538 (by decide) ?_
  refine V_icmp_ne (tgt := 635) dL_law_540 (by decide) (fun c => absurd rfl c) (fun _ => ?_)
  refine V_aload_1 dL_law_543 ?_
  obtain ⟨fo9, hfo9⟩ := hR.o
  refine V_call_i (runV0 dL_law_544 ce_X12_day rfl ml_L_272 im_X12_day se_X12_day hfo9 ⟨_, rfl, rfl⟩ (Nat.le_of_ble_eq_true rfl)) (by omega) (by omega) (by omega) (c_fDay hR ?_)
  refine V_int (y := 99) (d_qs.2.2.1) ?_
  refine V_bipush (v := 99) dL_law_547 (by decide) ?_
  refine V_icmp_ne (tgt := 635) dL_law_549 (by decide) (fun c => absurd rfl c) (fun _ => ?_)
  refine V_aload_1 dL_law_552 ?_
  obtain ⟨fo10, hfo10⟩ := hR.o
  refine V_call_i (runV0 dL_law_553 ce_X12_chest rfl ml_L_269 im_X12_chest se_X12_chest hfo10 ⟨_, rfl, rfl⟩ (Nat.le_of_ble_eq_true rfl)) (by omega) (by omega) (by omega) (c_fChe hR ?_)
  refine V_int (y := 0) (d_qs.2.2.2.1) ?_
  refine V_if_ne (tgt := 635) dL_law_556 (by decide) (fun c => absurd rfl c) (fun _ => ?_)
  refine V_aload_1 dL_law_559 ?_
  refine V_call_i (runSX1 dL_law_560 ce_L_undo rfl ml_L_389 st_L_undo (Nat.le_of_ble_eq_true rfl)) (by omega) (by omega) (by omega) (w_Undo (a := 37) (b := 40) (by omega) hR fun H11 g11 hR e11 => ?_)
  replace hp := hp.fr e11 (by decide)
  refine V_int (y := 3) (rfl) ?_
  refine V_iconst (v := 3) dL_law_563 rfl ?_
  refine V_icmp_ne (tgt := 635) dL_law_564 (by decide) (fun c => absurd rfl c) (fun _ => ?_)
  refine V_aload_1 dL_law_567 ?_
  obtain ⟨fo12, hfo12⟩ := hR.o
  refine V_call_i (runV0 dL_law_568 ce_X12_caseCount rfl ml_L_295 im_X12_caseCount se_X12_caseCount hfo12 ⟨_, rfl, rfl⟩ (Nat.le_of_ble_eq_true rfl)) (by omega) (by omega) (by omega) (c_fCas hR ?_)
  refine V_int (y := 11) (d_qs.2.2.2.2.1) ?_
  refine V_bipush (v := 11) dL_law_571 (by decide) ?_
  refine V_icmp_ne (tgt := 635) dL_law_573 (by decide) (fun c => absurd rfl c) (fun _ => ?_)
  refine V_aload_1 dL_law_576 ?_
  refine V_call_i (runSX1 dL_law_577 ce_L_undo rfl ml_L_389 st_L_undo (Nat.le_of_ble_eq_true rfl)) (by omega) (by omega) (by omega) (w_Undo (a := 37) (b := 39) (by omega) hR fun H13 g13 hR e13 => ?_)
  replace hp := hp.fr e13 (by decide)
  refine V_int (y := 2) (rfl) ?_
  refine V_iconst (v := 2) dL_law_580 rfl ?_
  refine V_icmp_ne (tgt := 635) dL_law_581 (by decide) (fun c => absurd rfl c) (fun _ => ?_)
  refine V_aload_1 dL_law_584 ?_
  refine V_call_i (runSX1 dL_law_585 ce_L_undo rfl ml_L_389 st_L_undo (Nat.le_of_ble_eq_true rfl)) (by omega) (by omega) (by omega) (w_Undo (a := 37) (b := 38) (by omega) hR fun H14 g14 hR e14 => ?_)
  replace hp := hp.fr e14 (by decide)
  refine V_int (y := 1) (rfl) ?_
  refine V_iconst (v := 1) dL_law_588 rfl ?_
  refine V_icmp_ne (tgt := 635) dL_law_589 (by decide) (fun c => absurd rfl c) (fun _ => ?_)
  refine V_aload_1 dL_law_592 ?_
  refine V_call_i (runSX1 dL_law_593 ce_L_undo rfl ml_L_389 st_L_undo (Nat.le_of_ble_eq_true rfl)) (by omega) (by omega) (by omega) (w_Undo (a := 37) (b := 37) (by omega) hR fun H15 g15 hR e15 => ?_)
  replace hp := hp.fr e15 (by decide)
  refine V_int (y := 0) (rfl) ?_
  refine V_if_ne (tgt := 635) dL_law_596 (by decide) (fun c => absurd rfl c) (fun _ => ?_)
  refine V_aload_1 dL_law_599 ?_
  obtain ⟨fo16, hfo16⟩ := hR.o
  refine V_call_i (runV0 dL_law_600 ce_X12_caseCount rfl ml_L_295 im_X12_caseCount se_X12_caseCount hfo16 ⟨_, rfl, rfl⟩ (Nat.le_of_ble_eq_true rfl)) (by omega) (by omega) (by omega) (c_fCas hR ?_)
  refine V_int (y := 8) (d_qs.2.2.2.2.2) ?_
  refine V_bipush (v := 8) dL_law_603 (by decide) ?_
  refine V_icmp_ne (tgt := 635) dL_law_605 (by decide) (fun c => absurd rfl c) (fun _ => ?_)
  refine V_aload_1 dL_law_608 ?_
  have he : eaD 37 37 = [] := List.length_eq_zero_iff.mp eaD_len
  rw [he] at hR
  refine V_call_i (runSX1 dL_law_609 ce_L_undo rfl ml_L_389 st_L_undo (Nat.le_of_ble_eq_true rfl)) (by omega) (by omega) (by omega) (w_Undo0 hR fun H17 g17 hR e17 => ?_)
  replace hp := hp.fr e17 (by decide)
  refine V_sipush (v := (-1001)) dL_law_612 (by decide) ?_
  refine V_icmp_ne (tgt := 635) dL_law_615 (by decide) (fun c => absurd rfl c) (fun _ => ?_)
  refine V_aload_1 dL_law_618 ?_
  refine V_iconst (v := 0) dL_law_619 rfl ?_
  refine V_iconst (v := 1) dL_law_620 rfl ?_
  refine V_iconst (v := 1) dL_law_621 rfl ?_
  refine V_iconst (v := 1) dL_law_622 rfl ?_
  refine V_iconst (v := 1) dL_law_623 rfl ?_
  refine V_txt (g := g17) 43 rfl (l := [97]) (by decide +kernel) fun hS => ?_
  refine V_ldcsw (i := 43) dL_law_624 rfl ?_
  refine V_call_i (runS7 dL_law_627 ce_L_files rfl ml_L_240 st_L_files (Nat.le_of_ble_eq_true rfl)) (by omega) (by omega) (by omega) (w_Files (w := [97]) (by decide) (by decide) hS hR (d_ok 37 (by decide)) (by decide) (by decide) d_f8 fun H18 g18 hR e18 => ?_)
  replace hp := hp.fr e18 (by decide)
  refine V_int (y := 8) (rfl) ?_
  refine V_bipush (v := 8) dL_law_630 (by decide) ?_
  refine V_icmp_eq (tgt := 637) dL_law_632 (by decide) (fun _ => ?_) (fun c => absurd rfl c)
  exact V_mono (c2 := 144010) (s2 := 5400100) (by omega) (by omega) (c_lh637 kk hp hR)
set_option maxHeartbeats 1000000 in
set_option maxRecDepth 100000 in
theorem c_lh283 {G : GT} {X : String → Heap → Prop} {o p : Nat} {l : List Int32} {F : Int32 → Prop} (kk : F 1) {H : Heap} {g : Nat → Nat} {x2 : Int32} (hp : Zi G H g p l) (hR : RG G H g o (hs 41, S0, 1, eaD 33 41, [], [], [], 1, -1, K0)) : V G kL_law 20 144380 5425400 (qi fun v _ => F v) X 283 [some (.ref p), some (.ref o), some (.int x2), none, none, none, none, none, none, none, none] [] H := by
  refine V_aload_1 dL_law_283 ?_
  refine V_iconst (v := 0) dL_law_284 rfl ?_
  refine V_iconst (v := 1) dL_law_285 rfl ?_
  refine V_iconst (v := 1) dL_law_286 rfl ?_
  refine V_iconst (v := 1) dL_law_287 rfl ?_
  refine V_iconst (v := 1) dL_law_288 rfl ?_
  refine V_txt (g := g) 43 rfl (l := [97]) (by decide +kernel) fun hS => ?_
  refine V_ldcsw (i := 43) dL_law_289 rfl ?_
  refine V_call_i (runS7 dL_law_292 ce_L_files rfl ml_L_240 st_L_files (Nat.le_of_ble_eq_true rfl)) (by omega) (by omega) (by omega) (w_FilesX (w := [97]) (by decide) (by decide) hS hR (d_ok 41 (by decide)) (ea8 (t := 41)) d_filex fun H1 g1 hR e1 => ?_)
  replace hp := hp.fr e1 (by decide)
  refine V_sipush (v := (-1003)) dL_law_295 (by decide) ?_
  refine V_icmp_ne (tgt := 467) dL_law_298 (by decide) (fun c => absurd rfl c) (fun _ => ?_)
  refine V_aload_1 dL_law_301 ?_
  obtain ⟨fo2, hfo2⟩ := hR.o
  refine V_call_i (runV0 dL_law_302 ce_X12_clearWord rfl ml_L_170 im_X12_clearWord se_X12_clearWord hfo2 ⟨_, rfl, rfl⟩ (Nat.le_of_ble_eq_true rfl)) (by omega) (by omega) (by omega) (c_fClr hR fun H2 g2 hR e2 => ?_)
  replace hp := hp.fr e2 (by decide)
  change RG G H2 g2 o (hs 41, S0, 1, eaD 33 41, [], [], [], 1, -1, K0) at hR
  refine V_int (y := 1) (rfl) ?_
  refine V_iconst (v := 1) dL_law_305 rfl ?_
  refine V_icmp_ne (tgt := 467) dL_law_306 (by decide) (fun c => absurd rfl c) (fun _ => ?_)
  refine V_aload_1 dL_law_309 ?_
  refine V_bipush (v := 50) dL_law_310 (by decide) ?_
  refine V_txt (g := g2) 43 rfl (l := [97]) (by decide +kernel) fun hS => ?_
  refine V_ldcsw (i := 43) dL_law_312 rfl ?_
  refine V_call_i (runS3 dL_law_315 ce_L_rules rfl ml_L_236 st_L_rules (Nat.le_of_ble_eq_true rfl)) (by omega) (by omega) (by omega) (w_RulesX (w := [97]) (by decide) (by decide) hS hR (d_ok 41 (by decide)) (ea8 (t := 41)) d_rulex fun H3 g3 hR e3 => ?_)
  replace hp := hp.fr e3 (by decide)
  refine V_sipush (v := (-1002)) dL_law_318 (by decide) ?_
  refine V_icmp_ne (tgt := 467) dL_law_321 (by decide) (fun c => absurd rfl c) (fun _ => ?_)
  refine V_aload_1 dL_law_324 ?_
  obtain ⟨fo4, hfo4⟩ := hR.o
  refine V_call_i (runV0 dL_law_325 ce_X12_clearWord rfl ml_L_170 im_X12_clearWord se_X12_clearWord hfo4 ⟨_, rfl, rfl⟩ (Nat.le_of_ble_eq_true rfl)) (by omega) (by omega) (by omega) (c_fClr hR fun H4 g4 hR e4 => ?_)
  replace hp := hp.fr e4 (by decide)
  change RG G H4 g4 o (hs 41, S0, 1, eaD 33 41, [], [], [], 1, -1, K0) at hR
  refine V_int (y := 1) (rfl) ?_
  refine V_iconst (v := 1) dL_law_328 rfl ?_
  refine V_icmp_ne (tgt := 467) dL_law_329 (by decide) (fun c => absurd rfl c) (fun _ => ?_)
  refine V_aload_1 dL_law_332 ?_
  refine V_iconst (v := 0) dL_law_333 rfl ?_
  refine V_call_i (runSX2 dL_law_334 ce_L_hear rfl ml_L_244 st_L_hear (Nat.le_of_ble_eq_true rfl)) (by omega) (by omega) (by omega) (w_Hear hR (d_ok 41 (by decide)) (ea8 (t := 41)) (by decide) d_hear fun H5 g5 hR e5 => ?_)
  replace hp := hp.fr e5 (by decide)
  refine V_int (y := 9) (rfl) ?_
  refine V_bipush (v := 9) dL_law_337 (by decide) ?_
  have hp41 : pushE (eaD 33 41) (hs 41) = eaD 34 42 := pushE_h (t := 41)
  rw [hp41] at hR
  refine V_icmp_ne (tgt := 467) dL_law_339 (by decide) (fun c => absurd rfl c) (fun _ => ?_)
  refine V_aload_1 dL_law_342 ?_
  obtain ⟨fo6, hfo6⟩ := hR.o
  refine V_call_i (runV0 dL_law_343 ce_X12_precedentCount rfl ml_L_275 im_X12_precedentCount se_X12_precedentCount hfo6 ⟨_, rfl, rfl⟩ (Nat.le_of_ble_eq_true rfl)) (by omega) (by omega) (by omega) (c_fPre hR ?_)
  refine V_int (y := 20) (d_q42.1) ?_
  refine V_bipush (v := 20) dL_law_346 (by decide) ?_
  refine V_icmp_ne (tgt := 467) dL_law_348 (by decide) (fun c => absurd rfl c) (fun _ => ?_)
  refine V_aload_1 dL_law_351 ?_
  refine V_iconst (v := 0) dL_law_352 rfl ?_
  refine V_call_i (runSX2 dL_law_353 ce_L_cost rfl ml_L_308 st_L_cost (Nat.le_of_ble_eq_true rfl)) (by omega) (by omega) (by omega) (c_lCst hR fun H7 g7 hR e7 => ?_)
  replace hp := hp.fr e7 (by decide)
  refine V_int (y := 29) (d_q42.2.1) ?_
  refine V_bipush (v := 29) dL_law_356 (by decide) ?_
  refine V_icmp_ne (tgt := 467) dL_law_358 (by decide) (fun c => absurd rfl c) (fun _ => ?_)
  refine V_aload_1 dL_law_361 ?_
  refine V_iconst (v := 0) dL_law_362 rfl ?_
  refine V_call_i (runSX2 dL_law_363 ce_L_balance rfl ml_L_342 st_L_balance (Nat.le_of_ble_eq_true rfl)) (by omega) (by omega) (by omega) (c_lBal hR fun H8 g8 hR e8 => ?_)
  replace hp := hp.fr e8 (by decide)
  refine V_int (y := 8) (d_q42.2.2.1) ?_
  refine V_bipush (v := 8) dL_law_366 (by decide) ?_
  refine V_icmp_ne (tgt := 467) dL_law_368 (by decide) (fun c => absurd rfl c) (fun _ => ?_)
  refine V_aload_1 dL_law_371 ?_
  refine V_iconst (v := 1) dL_law_372 rfl ?_
  refine V_call_i (runSX2 dL_law_373 ce_L_balance rfl ml_L_342 st_L_balance (Nat.le_of_ble_eq_true rfl)) (by omega) (by omega) (by omega) (c_lBal hR fun H9 g9 hR e9 => ?_)
  replace hp := hp.fr e9 (by decide)
  refine V_int (y := (-37)) (d_q42.2.2.2.1) ?_
  refine V_bipush (v := (-37)) dL_law_376 (by decide) ?_
  refine V_icmp_ne (tgt := 467) dL_law_378 (by decide) (fun c => absurd rfl c) (fun _ => ?_)
  refine V_aload_1 dL_law_381 ?_
  obtain ⟨fo10, hfo10⟩ := hR.o
  refine V_call_i (runV0 dL_law_382 ce_X12_chest rfl ml_L_269 im_X12_chest se_X12_chest hfo10 ⟨_, rfl, rfl⟩ (Nat.le_of_ble_eq_true rfl)) (by omega) (by omega) (by omega) (c_fChe hR ?_)
  refine V_int (y := 29) (d_q42.2.2.2.2) ?_
  refine V_bipush (v := 29) dL_law_385 (by decide) ?_
  refine V_icmp_ne (tgt := 467) dL_law_387 (by decide) (fun c => absurd rfl c) (fun _ => ?_)
  refine V_aload_1 dL_law_390 ?_
  refine V_iconst (v := 0) dL_law_391 rfl ?_
  refine V_call_i (runSX2 dL_law_392 ce_L_appeal rfl ml_L_315 st_L_appeal (Nat.le_of_ble_eq_true rfl)) (by omega) (by omega) (by omega) (w_App hR (d_ok 42 (by decide)) (ea8 (t := 42)) (by decide) d_app fun H11 g11 hR e11 => ?_)
  replace hp := hp.fr e11 (by decide)
  refine V_int (y := 9) (rfl) ?_
  refine V_bipush (v := 9) dL_law_395 (by decide) ?_
  have hp42 : pushE (eaD 34 42) (hs 42) = eaD 35 43 := pushE_h (t := 42)
  rw [hp42] at hR
  generalize (qApp 0 (hs 42) (qHear 0 (hs 41) K0).2.2).2.2 = K2 at hR
  refine V_icmp_ne (tgt := 467) dL_law_397 (by decide) (fun c => absurd rfl c) (fun _ => ?_)
  refine V_aload_1 dL_law_400 ?_
  refine V_iconst (v := 0) dL_law_401 rfl ?_
  refine V_call_i (runSX2 dL_law_402 ce_L_percentage rfl ml_L_310 st_L_percentage (Nat.le_of_ble_eq_true rfl)) (by omega) (by omega) (by omega) (c_lPct hR fun H12 g12 hR e12 => ?_)
  replace hp := hp.fr e12 (by decide)
  refine V_int (y := 90) (d_q43.1) ?_
  refine V_bipush (v := 90) dL_law_405 (by decide) ?_
  refine V_icmp_ne (tgt := 467) dL_law_407 (by decide) (fun c => absurd rfl c) (fun _ => ?_)
  refine V_aload_1 dL_law_410 ?_
  refine V_iconst (v := 0) dL_law_411 rfl ?_
  refine V_call_i (runSX2 dL_law_412 ce_L_balance rfl ml_L_342 st_L_balance (Nat.le_of_ble_eq_true rfl)) (by omega) (by omega) (by omega) (c_lBal hR fun H13 g13 hR e13 => ?_)
  replace hp := hp.fr e13 (by decide)
  refine V_int (y := 5) (d_q43.2.1) ?_
  refine V_iconst (v := 5) dL_law_415 rfl ?_
  refine V_icmp_ne (tgt := 467) dL_law_416 (by decide) (fun c => absurd rfl c) (fun _ => ?_)
  refine V_aload_1 dL_law_419 ?_
  refine V_iconst (v := 1) dL_law_420 rfl ?_
  refine V_call_i (runSX2 dL_law_421 ce_L_balance rfl ml_L_342 st_L_balance (Nat.le_of_ble_eq_true rfl)) (by omega) (by omega) (by omega) (c_lBal hR fun H14 g14 hR e14 => ?_)
  replace hp := hp.fr e14 (by decide)
  refine V_int (y := (-40)) (d_q43.2.2.1) ?_
  refine V_bipush (v := (-40)) dL_law_424 (by decide) ?_
  refine V_icmp_ne (tgt := 467) dL_law_426 (by decide) (fun c => absurd rfl c) (fun _ => ?_)
  refine V_aload_1 dL_law_429 ?_
  obtain ⟨fo15, hfo15⟩ := hR.o
  refine V_call_i (runV0 dL_law_430 ce_X12_chest rfl ml_L_269 im_X12_chest se_X12_chest hfo15 ⟨_, rfl, rfl⟩ (Nat.le_of_ble_eq_true rfl)) (by omega) (by omega) (by omega) (c_fChe hR ?_)
  refine V_int (y := 35) (d_q43.2.2.2.1) ?_
  refine V_bipush (v := 35) dL_law_433 (by decide) ?_
  refine V_icmp_ne (tgt := 467) dL_law_435 (by decide) (fun c => absurd rfl c) (fun _ => ?_)
  refine V_aload_1 dL_law_438 ?_
  refine V_bipush (v := 11) dL_law_439 (by decide) ?_
  refine V_call_i (runSX2 dL_law_441 ce_L_withdraw rfl ml_L_317 st_L_withdraw (Nat.le_of_ble_eq_true rfl)) (by omega) (by omega) (by omega) (w_With hR (d_ok 43 (by decide)) (ea8 (t := 43)) (by decide) d_with fun H16 g16 hR e16 => ?_)
  replace hp := hp.fr e16 (by decide)
  refine V_int (y := 10) (rfl) ?_
  refine V_bipush (v := 10) dL_law_444 (by decide) ?_
  have hp43 : pushE (eaD 35 43) (hs 43) = eaD 36 44 := pushE_h (t := 43)
  rw [hp43] at hR
  refine V_icmp_ne (tgt := 467) dL_law_446 (by decide) (fun c => absurd rfl c) (fun _ => ?_)
  refine V_aload_1 dL_law_449 ?_
  refine V_iconst (v := 1) dL_law_450 rfl ?_
  refine V_iconst (v := 2) dL_law_451 rfl ?_
  refine V_bipush (v := 7) dL_law_452 (by decide) ?_
  refine V_iconst (v := 1) dL_law_454 rfl ?_
  refine V_iconst (v := 5) dL_law_455 rfl ?_
  refine V_txt (g := g16) 44 rfl (l := [98]) (by decide +kernel) fun hS => ?_
  refine V_ldcsw (i := 44) dL_law_456 rfl ?_
  refine V_call_i (runS7 dL_law_459 ce_L_files rfl ml_L_240 st_L_files (Nat.le_of_ble_eq_true rfl)) (by omega) (by omega) (by omega) (w_Files (w := [98]) (by decide) (by decide) hS hR (d_ok 44 (by decide)) (ea8 (t := 44)) (by decide) d_f45 fun H17 g17 hR e17 => ?_)
  replace hp := hp.fr e17 (by decide)
  refine V_int (y := 12) (rfl) ?_
  refine V_bipush (v := 12) dL_law_462 (by decide) ?_
  have hp44 : pushE (eaD 36 44) (hs 44) = eaD 37 45 := pushE_h (t := 44)
  rw [hp44] at hR
  refine V_icmp_eq (tgt := 469) dL_law_464 (by decide) (fun _ => ?_) (fun c => absurd rfl c)
  exact V_mono (c2 := 144080) (s2 := 5404900) (by omega) (by omega) (c_lh469 kk hp hR)
set_option maxHeartbeats 1000000 in
set_option maxRecDepth 100000 in
theorem c_lhCas {G : GT} {X : String → Heap → Prop} {o p : Nat} {l : List Int32} {F : Int32 → Prop} (kk : F 1) : ∀ (f k : Nat) (H : Heap) (g : Nat → Nat), k + f = 12 → Zi G H g p l → RG G H g o (hs (29 + k), S0, 1, eaD (29 + k - 8) (29 + k), [], [], [], 1, -1, K0) → V G kL_law 20 (144380 + 51 * f) (5425400 + 4614 * f) (qi fun v _ => F v) X 242 [some (.ref p), some (.ref o), some (.int (nI k)), none, none, none, none, none, none, none, none] [] H := by
  intro f
  induction f with
  | zero =>
    intro k H g hk hp hR
    refine V_iload_2 dL_law_242 ?_
    refine V_bipush (v := 12) dL_law_243 (by decide) ?_
    have hk12 : k = 12 := by omega
    subst hk12
    refine V_icmp_ge (tgt := 283) dL_law_245 (by decide) (fun c_245 => ?_) (fun c_245 => ?_)
    · exact c_lh283 kk hp hR
    · exact absurd (show (12 : Int32) ≤ nI 12 from by decide) c_245
  | succ f ih =>
    intro k H g hk hp hR
    refine V_iload_2 dL_law_242 ?_
    refine V_bipush (v := 12) dL_law_243 (by decide) ?_
    have hkN : k < 12 := by omega
    refine V_icmp_ge (tgt := 283) dL_law_245 (by decide) (fun c_245 => ?_) (fun c_245 => ?_)
    · exact absurd c_245 (fun z => absurd ((nI_le_iff (a := 12) (b := k) (by omega) (by omega)).mp z) (by omega))
    · refine V_aload_1 dL_law_248 ?_
      refine V_iload_2 dL_law_249 ?_
      refine V_bipush (v := 8) dL_law_250 (by decide) ?_
      refine V_irem dL_law_252 (by decide) ?_
      refine V_iload_2 dL_law_253 ?_
      refine V_iconst (v := 1) dL_law_254 rfl ?_
      refine V_iadd dL_law_255 ?_
      refine V_bipush (v := 8) dL_law_256 (by decide) ?_
      refine V_irem dL_law_258 (by decide) ?_
      refine V_bipush (v := 10) dL_law_259 (by decide) ?_
      refine V_iconst (v := 1) dL_law_261 rfl ?_
      refine V_sipush (v := 999) dL_law_262 (by decide) ?_
      rw [(d_p8 k hkN).1]
      rw [(d_p8 k hkN).2]
      refine V_txt (g := g) 36 rfl (l := ab) (by decide +kernel) fun hS => ?_
      refine V_ldcsw (i := 36) dL_law_265 rfl ?_
      refine V_call_i (runS7 dL_law_268 ce_L_files rfl ml_L_240 st_L_files (Nat.le_of_ble_eq_true rfl)) (by omega) (by omega) (by omega) (w_Files (w := ab) (by decide) (by decide) hS hR (d_ok (29 + k) (by omega)) ea8 (by omega) (congrArg Prod.fst (d_file k hkN)) fun H1 g1 hR e1 => ?_)
      replace hp := hp.fr e1 (by decide)
      rw [congrArg Prod.snd (d_file k hkN), pushE_h] at hR
      refine V_iload_2 dL_law_271 ?_
      refine V_icmp_eq (tgt := 277) dL_law_272 (by decide) (fun _ => ?_) (fun c => absurd rfl c)
      refine V_iinc_2 (v := 1) dL_law_277 rfl rfl ?_
      refine V_goto (tgt := 242) dL_law_280 (by decide) ?_
      rw [nI_s]
      exact V_mono (c2 := 144380 + 51 * f) (s2 := 5425400 + 4614 * f) (by omega) (by omega) (ih (k + 1) H1 g1 (by omega) hp hR)
set_option maxHeartbeats 1000000 in
set_option maxRecDepth 100000 in
theorem c_lhPre {G : GT} {X : String → Heap → Prop} {o p : Nat} {l : List Int32} {F : Int32 → Prop} (kk : F 1) : ∀ (f k : Nat) (H : Heap) (g : Nat → Nat), k + f = 20 → Zi G H g p l → RG G H g o (hs (9 + k), S0, 1, eaD (9 + k - 8) (9 + k), [], [], [], 1, -1, K0) → V G kL_law 20 (144992 + 51 * f) (5480768 + 4602 * f) (qi fun v _ => F v) X 212 [some (.ref p), some (.ref o), some (.int (nI k)), none, none, none, none, none, none, none, none] [] H := by
  intro f
  induction f with
  | zero =>
    intro k H g hk hp hR
    refine V_iload_2 dL_law_212 ?_
    refine V_bipush (v := 20) dL_law_213 (by decide) ?_
    have hk20 : k = 20 := by omega
    subst hk20
    refine V_icmp_ge (tgt := 240) dL_law_215 (by decide) (fun c_215 => ?_) (fun c_215 => ?_)
    · refine V_iconst (v := 0) dL_law_240 rfl ?_
      refine V_istore_2 dL_law_241 rfl ?_
      exact V_mono (c2 := 144380 + 51 * 12) (s2 := 5425400 + 4614 * 12) (by omega) (by omega) (c_lhCas kk 12 0 H g (by omega) hp hR)
    · exact absurd (show (20 : Int32) ≤ nI 20 from by decide) c_215
  | succ f ih =>
    intro k H g hk hp hR
    refine V_iload_2 dL_law_212 ?_
    refine V_bipush (v := 20) dL_law_213 (by decide) ?_
    have hkN : k < 20 := by omega
    refine V_icmp_ge (tgt := 240) dL_law_215 (by decide) (fun c_215 => ?_) (fun c_215 => ?_)
    · exact absurd c_215 (fun z => absurd ((nI_le_iff (a := 20) (b := k) (by omega) (by omega)).mp z) (by omega))
    · refine V_aload_1 dL_law_218 ?_
      refine V_iconst (v := 5) dL_law_219 rfl ?_
      refine V_iload_2 dL_law_220 ?_
      refine V_imul dL_law_221 ?_
      refine V_txt (g := g) 36 rfl (l := ab) (by decide +kernel) fun hS => ?_
      refine V_ldcsw (i := 36) dL_law_222 rfl ?_
      refine V_call_i (runS3 dL_law_225 ce_L_rules rfl ml_L_236 st_L_rules (Nat.le_of_ble_eq_true rfl)) (by omega) (by omega) (by omega) (w_Rules (w := ab) (by decide) (by decide) hS hR (d_ok (9 + k) (by omega)) ea8 (by omega) (d_rule k hkN) fun H1 g1 hR e1 => ?_)
      replace hp := hp.fr e1 (by decide)
      rw [pushE_h] at hR
      refine V_iload_2 dL_law_228 ?_
      refine V_icmp_eq (tgt := 234) dL_law_229 (by decide) (fun _ => ?_) (fun c => absurd rfl c)
      refine V_iinc_2 (v := 1) dL_law_234 rfl rfl ?_
      refine V_goto (tgt := 212) dL_law_237 (by decide) ?_
      rw [nI_s]
      exact V_mono (c2 := 144992 + 51 * f) (s2 := 5480768 + 4602 * f) (by omega) (by omega) (ih (k + 1) H1 g1 (by omega) hp hR)
set_option maxHeartbeats 1000000 in
set_option maxRecDepth 100000 in
theorem c_lh177 {G : GT} {X : String → Heap → Prop} {o p : Nat} {l : List Int32} {F : Int32 → Prop} (kk : F 1) {H : Heap} {g : Nat → Nat} {x2 : Int32} (hp : Zi G H g p l) (hR : RG G H g o (hs 9, S0, 1, eaD 1 9, List.replicate 8 97, [], [], 1, -1, K0)) : V G kL_law 20 146062 5575308 (qi fun v _ => F v) X 177 [some (.ref p), some (.ref o), some (.int x2), none, none, none, none, none, none, none, none] [] H := by
  refine V_aload_1 dL_law_177 ?_
  refine V_call_i (runSX1 dL_law_178 ce_L_addButton rfl ml_L_227 st_L_addButton (Nat.le_of_ble_eq_true rfl)) (by omega) (by omega) (by omega) (w_AddX hR (d_ok 9 (by decide)) (ea8 (t := 9)) d_entx fun H1 g1 hR e1 => ?_)
  replace hp := hp.fr e1 (by decide)
  refine V_sipush (v := (-1001)) dL_law_181 (by decide) ?_
  refine V_icmp_ne (tgt := 208) dL_law_184 (by decide) (fun c => absurd rfl c) (fun _ => ?_)
  refine V_aload_1 dL_law_187 ?_
  refine V_bipush (v := 97) dL_law_188 (by decide) ?_
  refine V_call_i (runSX2 dL_law_190 ce_L_typeLetter rfl ml_L_181 st_L_typeLetter (Nat.le_of_ble_eq_true rfl)) (by omega) (by omega) (by omega) (c_lType hR (fun _ h8 => absurd (show (List.replicate 8 (97 : Int32)).length < 8 from h8) (by decide)) (fun hn => absurd hn (by decide)) (fun _ _ H2 g2 hR e2 => ?_))
  replace hp := hp.fr e2 (by decide)
  refine V_sipush (v := (-1002)) dL_law_193 (by decide) ?_
  refine V_icmp_ne (tgt := 208) dL_law_196 (by decide) (fun c => absurd rfl c) (fun _ => ?_)
  refine V_aload_1 dL_law_199 ?_
  obtain ⟨fo3, hfo3⟩ := hR.o
  refine V_call_i (runV0 dL_law_200 ce_X12_clearWord rfl ml_L_170 im_X12_clearWord se_X12_clearWord hfo3 ⟨_, rfl, rfl⟩ (Nat.le_of_ble_eq_true rfl)) (by omega) (by omega) (by omega) (c_fClr hR fun H3 g3 hR e3 => ?_)
  replace hp := hp.fr e3 (by decide)
  change RG G H3 g3 o (hs 9, S0, 1, eaD 1 9, [], [], [], 1, -1, K0) at hR
  refine V_int (y := 8) (rfl) ?_
  refine V_bipush (v := 8) dL_law_203 (by decide) ?_
  refine V_icmp_eq (tgt := 210) dL_law_205 (by decide) (fun _ => ?_) (fun c => absurd rfl c)
  refine V_iconst (v := 0) dL_law_210 rfl ?_
  refine V_istore_2 dL_law_211 rfl ?_
  exact V_mono (c2 := 144992 + 51 * 20) (s2 := 5480768 + 4602 * 20) (by omega) (by omega) (c_lhPre kk 20 0 H3 g3 (by omega) hp hR)
set_option maxHeartbeats 1000000 in
set_option maxRecDepth 100000 in
theorem c_lhBut {G : GT} {X : String → Heap → Prop} {o p : Nat} {l : List Int32} {F : Int32 → Prop} (kk : F 1) : ∀ (f k : Nat) (H : Heap) (g : Nat → Nat), k + f = 8 → Zi G H g p l → RG G H g o (hs (1 + k), S0, 1, eaD (1 + k - 8) (1 + k), List.replicate k 97, [], [], 1, -1, K0) → V G kL_law 20 (146062 + 40 * f) (5575308 + 2391 * f) (qi fun v _ => F v) X 143 [some (.ref p), some (.ref o), some (.int (nI k)), none, none, none, none, none, none, none, none] [] H := by
  intro f
  induction f with
  | zero =>
    intro k H g hk hp hR
    refine V_iload_2 dL_law_143 ?_
    refine V_bipush (v := 8) dL_law_144 (by decide) ?_
    have hk8 : k = 8 := by omega
    subst hk8
    refine V_icmp_ge (tgt := 177) dL_law_146 (by decide) (fun c_146 => ?_) (fun c_146 => ?_)
    · exact c_lh177 kk hp hR
    · exact absurd (show (8 : Int32) ≤ nI 8 from by decide) c_146
  | succ f ih =>
    intro k H g hk hp hR
    refine V_iload_2 dL_law_143 ?_
    refine V_bipush (v := 8) dL_law_144 (by decide) ?_
    have hkN : k < 8 := by omega
    refine V_icmp_ge (tgt := 177) dL_law_146 (by decide) (fun c_146 => ?_) (fun c_146 => ?_)
    · exact absurd c_146 (fun z => absurd ((nI_le_iff (a := 8) (b := k) (by omega) (by omega)).mp z) (by omega))
    · refine V_aload_1 dL_law_149 ?_
      refine V_call_i (runSX1 dL_law_150 ce_L_addButton rfl ml_L_227 st_L_addButton (Nat.le_of_ble_eq_true rfl)) (by omega) (by omega) (by omega) (w_Add hR (d_ok (1 + k) (by omega)) ea8 (by omega) (d_ent k hkN) fun H1 g1 hR e1 => ?_)
      replace hp := hp.fr e1 (by decide)
      rw [pushE_h] at hR
      refine V_iload_2 dL_law_153 ?_
      refine V_icmp_ne (tgt := 169) dL_law_154 (by decide) (fun c => absurd rfl c) (fun _ => ?_)
      refine V_aload_1 dL_law_157 ?_
      refine V_bipush (v := 97) dL_law_158 (by decide) ?_
      refine V_call_i (runSX2 dL_law_160 ce_L_typeLetter rfl ml_L_181 st_L_typeLetter (Nat.le_of_ble_eq_true rfl)) (by omega) (by omega) (by omega) (c_lType hR (fun _ _ H2 g2 hR e2 => ?_) (fun hn => absurd hn (by decide)) (fun _ h8 => absurd (show 8 ≤ (List.replicate k (97 : Int32)).length from h8) (by rw [List.length_replicate]; omega)))
      replace hp := hp.fr e2 (by decide)
      change RG G H2 g2 o (hs (1 + k + 1), S0, 1, eaD (1 + k + 1 - 8) (1 + k + 1), List.replicate k 97 ++ [97], [], [], 1, -1, K0) at hR
      rw [← List.replicate_succ'] at hR
      refine V_int (y := nI k + 1) (show nI (List.replicate k (97 : Int32) ++ [97]).length = nI k + 1 from by rw [nI_s, List.length_append, List.length_replicate]; rfl) ?_
      refine V_iload_2 dL_law_163 ?_
      refine V_iconst (v := 1) dL_law_164 rfl ?_
      refine V_iadd dL_law_165 ?_
      refine V_icmp_eq (tgt := 171) dL_law_166 (by decide) (fun _ => ?_) (fun c => absurd rfl c)
      refine V_iinc_2 (v := 1) dL_law_171 rfl rfl ?_
      refine V_goto (tgt := 143) dL_law_174 (by decide) ?_
      rw [nI_s]
      exact V_mono (c2 := 146062 + 40 * f) (s2 := 5575308 + 2391 * f) (by omega) (by omega) (ih (k + 1) H2 g2 (by omega) hp hR)
set_option maxHeartbeats 1000000 in
set_option maxRecDepth 100000 in
theorem c_lh82 {G : GT} {X : String → Heap → Prop} {o p : Nat} {l : List Int32} {F : Int32 → Prop} (kk : F 1) {H : Heap} {g : Nat → Nat} {x2 : Int32} (hp : Zi G H g p l) (hR : RG G H g o (hs 1, S0, 1, eaD 0 1, [], scr 60, [], -1, -1, K0)) : V G kL_law 20 147382 5602236 (qi fun v _ => F v) X 82 [some (.ref p), some (.ref o), some (.int x2), none, none, none, none, none, none, none, none] [] H := by
  refine V_aload_1 dL_law_82 ?_
  refine V_bipush (v := 100) dL_law_83 (by decide) ?_
  refine V_call_i (runSX2 dL_law_85 ce_L_type rfl ml_L_196 st_L_type (Nat.le_of_ble_eq_true rfl)) (by omega) (by omega) (by omega) (c_lTyp hR (fun _ h => absurd (show (scr 60).length < 60 from h) (by rw [scr_len]; omega)) (fun h => absurd h (by decide)) (fun _ _ H1 g1 hR e1 => ?_))
  replace hp := hp.fr e1 (by decide)
  refine V_sipush (v := (-1002)) dL_law_88 (by decide) ?_
  refine V_icmp_ne (tgt := 139) dL_law_91 (by decide) (fun c => absurd rfl c) (fun _ => ?_)
  refine V_aload_1 dL_law_94 ?_
  refine V_call_i (runSX1 dL_law_95 ce_L_run rfl ml_L_198 st_L_run (Nat.le_of_ble_eq_true rfl)) (by omega) (by omega) (by omega) (c_lRunF (r := rCmd (scr 60) 0 []) hR (show (scr 60).length ≠ 16 ∧ (scr 60).length ≠ 34 ∧ (scr 60).length ≠ 70 ∧ (scr 60).length ≠ 142 from (by rw [scr_len]; decide)) rfl d_r60.1 fun H2 g2 hR e2 => ?_)
  replace hp := hp.fr e2 (by decide)
  change RG G H2 g2 o (hs 1, S0, 1, eaD 0 1, [], [], [], (rCmd (scr 60) 0 []).2.1, -1, K0) at hR
  rw [d_r60.2] at hR
  refine V_sipush (v := (-1001)) dL_law_98 (by decide) ?_
  refine V_icmp_ne (tgt := 139) dL_law_101 (by decide) (fun c => absurd rfl c) (fun _ => ?_)
  refine V_aload_1 dL_law_104 ?_
  refine V_call_i (runSX1 dL_law_105 ce_L_errorPosition rfl ml_L_380 st_L_errorPosition (Nat.le_of_ble_eq_true rfl)) (by omega) (by omega) (by omega) (c_lErr hR fun H3 g3 hR e3 => ?_)
  replace hp := hp.fr e3 (by decide)
  refine V_int (y := 0) (show (if (0 : Int32) = -1 then (-1001 : Int32) else 0) = 0 from if_neg (by decide)) ?_
  refine V_if_ne (tgt := 139) dL_law_108 (by decide) (fun c => absurd rfl c) (fun _ => ?_)
  refine V_aload_1 dL_law_111 ?_
  refine V_bipush (v := 100) dL_law_112 (by decide) ?_
  refine V_call_i (runSX2 dL_law_114 ce_L_type rfl ml_L_196 st_L_type (Nat.le_of_ble_eq_true rfl)) (by omega) (by omega) (by omega) (c_lTyp hR (fun _ _ H4 g4 hR e4 => ?_) (fun h => absurd h (by decide)) (fun _ h => absurd (show 60 ≤ ([] : List Int32).length from h) (by decide)))
  replace hp := hp.fr e4 (by decide)
  change RG G H4 g4 o (hs 1, S0, 1, eaD 0 1, [], [100], [], 0, -1, K0) at hR
  refine V_int (y := 1) (rfl) ?_
  refine V_iconst (v := 1) dL_law_117 rfl ?_
  refine V_icmp_ne (tgt := 139) dL_law_118 (by decide) (fun c => absurd rfl c) (fun _ => ?_)
  refine V_aload_1 dL_law_121 ?_
  refine V_call_i (runSX1 dL_law_122 ce_L_run rfl ml_L_198 st_L_run (Nat.le_of_ble_eq_true rfl)) (by omega) (by omega) (by omega) (c_lRunF (r := rCmd [100] 0 []) hR (show [100].length ≠ 16 ∧ [100].length ≠ 34 ∧ [100].length ≠ 70 ∧ [100].length ≠ 142 from (by decide)) rfl d_r1.1 fun H5 g5 hR e5 => ?_)
  replace hp := hp.fr e5 (by decide)
  change RG G H5 g5 o (hs 1, S0, 1, eaD 0 1, [], [], [], (rCmd [100] 0 []).2.1, -1, K0) at hR
  rw [d_r1.2] at hR
  refine V_sipush (v := (-1001)) dL_law_125 (by decide) ?_
  refine V_icmp_ne (tgt := 139) dL_law_128 (by decide) (fun c => absurd rfl c) (fun _ => ?_)
  refine V_aload_1 dL_law_131 ?_
  refine V_call_i (runSX1 dL_law_132 ce_L_errorPosition rfl ml_L_380 st_L_errorPosition (Nat.le_of_ble_eq_true rfl)) (by omega) (by omega) (by omega) (c_lErr hR fun H6 g6 hR e6 => ?_)
  replace hp := hp.fr e6 (by decide)
  refine V_int (y := 1) (show (if (1 : Int32) = -1 then (-1001 : Int32) else 1) = 1 from if_neg (by decide)) ?_
  refine V_iconst (v := 1) dL_law_135 rfl ?_
  refine V_icmp_eq (tgt := 141) dL_law_136 (by decide) (fun _ => ?_) (fun c => absurd rfl c)
  refine V_iconst (v := 0) dL_law_141 rfl ?_
  refine V_istore_2 dL_law_142 rfl ?_
  exact V_mono (c2 := 146062 + 40 * 8) (s2 := 5575308 + 2391 * 8) (by omega) (by omega) (c_lhBut kk 8 0 H6 g6 (by omega) hp hR)
set_option maxHeartbeats 1000000 in
set_option maxRecDepth 100000 in
theorem c_lhChr {G : GT} {X : String → Heap → Prop} {o p : Nat} {l : List Int32} {F : Int32 → Prop} (kk : F 1) : ∀ (f k : Nat) (H : Heap) (g : Nat → Nat), k + f = 60 → Zi G H g p l → RG G H g o (hs 1, S0, 1, eaD 0 1, [], scr k, [], -1, -1, K0) → V G kL_law 20 (147382 + 1 * f) (5602236 + 286 * f) (qi fun v _ => F v) X 50 [some (.ref p), some (.ref o), some (.int (nI k)), none, none, none, none, none, none, none, none] [] H := by
  intro f
  induction f with
  | zero =>
    intro k H g hk hp hR
    refine V_iload_2 dL_law_50 ?_
    refine V_bipush (v := 60) dL_law_51 (by decide) ?_
    have hk60 : k = 60 := by omega
    subst hk60
    refine V_icmp_ge (tgt := 82) dL_law_53 (by decide) (fun c_53 => ?_) (fun c_53 => ?_)
    · exact c_lh82 kk hp hR
    · exact absurd (show (60 : Int32) ≤ nI 60 from by decide) c_53
  | succ f ih =>
    intro k H g hk hp hR
    refine V_iload_2 dL_law_50 ?_
    refine V_bipush (v := 60) dL_law_51 (by decide) ?_
    have hkN : k < 60 := by omega
    refine V_icmp_ge (tgt := 82) dL_law_53 (by decide) (fun c_53 => ?_) (fun c_53 => ?_)
    · exact absurd c_53 (fun z => absurd ((nI_le_iff (a := 60) (b := k) (by omega) (by omega)).mp z) (by omega))
    · refine V_aload_1 dL_law_56 ?_
      refine V_bipush (v := 65) dL_law_57 (by decide) ?_
      refine V_iload_2 dL_law_59 ?_
      refine V_bipush (v := 26) dL_law_60 (by decide) ?_
      refine V_irem dL_law_62 (by decide) ?_
      refine V_iadd dL_law_63 ?_
      rw [(d_ch k hkN).1]
      refine V_i2c dL_law_64 (d_ch k hkN).2.1 ?_
      refine V_call_i (runSX2 dL_law_65 ce_L_type rfl ml_L_196 st_L_type (Nat.le_of_ble_eq_true rfl)) (by omega) (by omega) (by omega) (c_lTyp hR (fun _ _ H1 g1 hR e1 => ?_) (fun h => absurd (h.symm.trans (d_ch k hkN).2.2) (by decide)) (fun _ h => absurd (show 60 ≤ (scr k).length from h) (by rw [scr_len]; omega)))
      replace hp := hp.fr e1 (by decide)
      change RG G H1 g1 o (hs 1, S0, 1, eaD 0 1, [], scr k ++ [nI (65 + k % 26)], [], -1, -1, K0) at hR
      rw [scr_s] at hR
      refine V_int (y := nI k + 1) (show nI (scr k ++ [nI (65 + k % 26)]).length = nI k + 1 from by rw [scr_s, scr_len, nI_s]) ?_
      refine V_iload_2 dL_law_68 ?_
      refine V_iconst (v := 1) dL_law_69 rfl ?_
      refine V_iadd dL_law_70 ?_
      refine V_icmp_eq (tgt := 76) dL_law_71 (by decide) (fun _ => ?_) (fun c => absurd rfl c)
      refine V_iinc_2 (v := 1) dL_law_76 rfl rfl ?_
      refine V_goto (tgt := 50) dL_law_79 (by decide) ?_
      rw [nI_s]
      exact V_mono (c2 := 147382 + 1 * f) (s2 := 5602236 + 286 * f) (by omega) (by omega) (ih (k + 1) H1 g1 (by omega) hp hR)
set_option maxHeartbeats 1000000 in
set_option maxRecDepth 100000 in
theorem c_lh0 {G : GT} {X : String → Heap → Prop} {p : Nat} {l : List Int32} {F : Int32 → Prop} (kk : F 1) {H : Heap} {g : Nat → Nat} (hp : Zi G H g p l) : V G kL_law 20 147522 5622596 (qi fun v _ => F v) X 0 [some (.ref p), none, none, none, none, none, none, none, none, none, none] [] H := by
  refine V_mk2 (g := g) 1 12 dL_law_0 nw_L_8 rfl (by omega) (by omega) fun o H1 g1 ho e1 z1 => ?_
  replace hp := hp.fr e1 (by simp)
  refine V_dup dL_law_3 rfl ?_
  refine V_call_v (runI0 dL_law_4 ce_X12_init rfl rfl rfl ml_L_388 im_X12_init (Nat.le_of_ble_eq_true rfl)) (by omega) (by omega) (by omega) (c_rgInit ho fun H2 g2 hR e2 => ?_)
  replace hp := hp.fr e2 (by decide)
  change RG G H2 g2 o (S0, S0, 0, [], [], [], [], -1, -1, K0) at hR
  refine V_astore_1 dL_law_7 rfl ?_
  refine V_aload_1 dL_law_8 ?_
  refine V_call_i (runSX1 dL_law_9 ce_L_undo rfl ml_L_389 st_L_undo (Nat.le_of_ble_eq_true rfl)) (by omega) (by omega) (by omega) (w_Undo0 hR fun H3 g3 hR e3 => ?_)
  replace hp := hp.fr e3 (by decide)
  refine V_sipush (v := (-1001)) dL_law_12 (by decide) ?_
  refine V_icmp_ne (tgt := 46) dL_law_15 (by decide) (fun c => absurd rfl c) (fun _ => ?_)
  refine V_aload_1 dL_law_18 ?_
  refine V_call_i (runSX1 dL_law_19 ce_L_restore rfl ml_L_391 st_L_restore (Nat.le_of_ble_eq_true rfl)) (by omega) (by omega) (by omega) (c_lRest hR (fun h => absurd (show (0 : Int32) = 0 from rfl) h) (fun _ H4 g4 hR e4 => ?_))
  replace hp := hp.fr e4 (by decide)
  refine V_sipush (v := (-1001)) dL_law_22 (by decide) ?_
  refine V_icmp_ne (tgt := 46) dL_law_25 (by decide) (fun c => absurd rfl c) (fun _ => ?_)
  refine V_aload_1 dL_law_28 ?_
  obtain ⟨fo5, hfo5⟩ := hR.o
  refine V_call_i (runV0 dL_law_29 ce_X12_save rfl ml_L_393 im_X12_save se_X12_save hfo5 ⟨_, rfl, rfl⟩ (Nat.le_of_ble_eq_true rfl)) (by omega) (by omega) (by omega) (c_fSave hR fun H5 g5 hR e5 => ?_)
  replace hp := hp.fr e5 (by decide)
  change RG G H5 g5 o (S0, S0, 1, [], [], [], [], -1, -1, K0) at hR
  refine V_int (y := 0) (rfl) ?_
  refine V_if_ne (tgt := 46) dL_law_32 (by decide) (fun c => absurd rfl c) (fun _ => ?_)
  refine V_aload_1 dL_law_35 ?_
  refine V_bipush (v := 99) dL_law_36 (by decide) ?_
  refine V_call_i (runSX2 dL_law_38 ce_L_passDays rfl ml_L_334 st_L_passDays (Nat.le_of_ble_eq_true rfl)) (by omega) (by omega) (by omega) (w_Days hR (by decide) (by decide) (by decide) d_days fun H6 g6 hR e6 => ?_)
  replace hp := hp.fr e6 (by decide)
  rw [show pushE [] S0 = eaD 0 1 from pushE_h (t := 0)] at hR
  refine V_int (y := 99) (rfl) ?_
  refine V_bipush (v := 99) dL_law_41 (by decide) ?_
  refine V_icmp_eq (tgt := 48) dL_law_43 (by decide) (fun _ => ?_) (fun c => absurd rfl c)
  refine V_iconst (v := 0) dL_law_48 rfl ?_
  refine V_istore_2 dL_law_49 rfl ?_
  exact V_mono (c2 := 147382 + 1 * 60) (s2 := 5602236 + 286 * 60) (by omega) (by omega) (c_lhChr kk 60 0 H6 g6 (by omega) hp hR)

set_option maxHeartbeats 1000000 in
set_option maxRecDepth 100000 in
theorem c_canEnc {G : GT} {H : Heap} {X : String → Heap → Prop} {x : Int32} (hx : 0 ≤ x ∧ x < 128) {F : Int32 → Heap → Prop} (kk : F 1 H) : Call G kJ1_canEncode_fc78d 0 0 0 [.int x] H (qi F) X := by
  refine startL (L0 := [some (.int x)]) rfl rfl pl_J1_canEncode_fc78d (Nat.le_of_ble_eq_true rfl) ?_
  refine V_iload_0 dJ1_canEncode_fc78d_0 ?_
  refine V_sipush (v := 255) dJ1_canEncode_fc78d_1 (by decide) ?_
  refine V_icmp_gt (tgt := 11) dJ1_canEncode_fc78d_4 (by decide) (fun c_4 => ?_) (fun c_4 => ?_)
  · exact absurd c_4 (Int32.not_lt.mpr (Int32.le_trans (Int32.le_of_lt hx.2) (by decide)))
  · refine V_iconst (v := 1) dJ1_canEncode_fc78d_7 rfl ?_
    refine V_goto (tgt := 12) dJ1_canEncode_fc78d_8 (by decide) ?_
    exact V_retz dJ1_canEncode_fc78d_12 rfl rfl rfl kk

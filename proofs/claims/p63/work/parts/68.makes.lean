theorem mem1 {E a : String} (h : E ∈ [a]) : E = a := List.mem_singleton.mp h
theorem mem2 {E a b : String} (h : E ∈ [a, b]) : E = a ∨ E = b := (List.mem_cons.mp h).imp id mem1
theorem mem3 {E a b c : String} (h : E ∈ [a, b, c]) : E = a ∨ E = b ∨ E = c := (List.mem_cons.mp h).imp id mem2
theorem mem4 {E a b c d : String} (h : E ∈ [a, b, c, d]) : E = a ∨ E = b ∨ E = c ∨ E = d := (List.mem_cons.mp h).imp id mem3
theorem good.ne {Es : List String} {k : Nat} {r : Int32 × StC} {v : Nat} (hv : v < 2 ^ 31) (e : r.1 = nI v) {E : String} (hE : flt r.1 = some E) : False := by
  rw [e, flt_nI hv] at hE
  cases hE
theorem nz {m : Nat} (h1 : 1 ≤ m) (h2 : m < 2 ^ 31) : ¬ nI m = 0 := fun q => absurd (nI_inj h2 (by omega) (show nI m = nI 0 from q)) (by omega)
set_option maxHeartbeats 1000000 in
set_option maxRecDepth 100000 in
theorem c_mk1 {G : GT} {Q : Option Value → Heap → Prop} {X : String → Heap → Prop} {H0 : Heap} {g0 : Nat → Nat} {o p m : Nat} (hm : m ≤ 8) {sn : StC} {tk : Int32} {sc u : List Int32} {le lf : Int32} {wd : List Int32} {cc ss : Nat} : ∀ (k b : Nat) (S : StC) (ea : List StC) (K : ScC) (H : Heap) (g : Nat → Nat), b + k = m → RG G H g o (S, sn, tk, ea, wd, sc, u, le, lf, K) → ea.length ≤ 8 → INV b S → S.2.2.2.2.1 = nI b → S.2.2.1 = [] → S.2.2.2.1 = [] → S.2.2.2.2.2.2.2 = 0 → Ext G tsA H0 g0 H g → (∀ (S : StC) (ea : List StC) (K : ScC) (H1 : Heap) (g1 : Nat → Nat), RG G H1 g1 o (S, sn, tk, ea, wd, sc, u, le, lf, K) → ea.length ≤ 8 → INV m S → S.2.2.2.2.1 = nI m → S.2.2.1 = [] → S.2.2.2.1 = [] → S.2.2.2.2.2.2.2 = 0 → Ext G tsA H0 g0 H1 g1 → V G kL_makes 14 cc ss Q X 36 [some (.ref o), some (.ref p), some (.int (nI m)), some (.int (nI m)), none, none, none, none] [] H1) → V G kL_makes 14 (cc + 39 * k) (ss + 2105 * k) Q X 15 [some (.ref o), some (.ref p), some (.int (nI m)), some (.int (nI b)), none, none, none, none] [] H := by
  intro k
  induction k with
  | zero =>
    intro b S ea K H g hb hR hea hI hn hcs hps hnx E kk
    refine V_iload_3 dL_makes_15 ?_
    refine V_iload_2 dL_makes_16 ?_
    have hbm : b = m := by omega
    subst hbm
    refine V_icmp_ge (tgt := 36) dL_makes_17 (by decide) (fun c_17 => ?_) (fun c_17 => ?_)
    · exact kk S ea K H g hR hea hI hn hcs hps hnx E
    · exact absurd (Int32.le_refl _) c_17
  | succ k ih =>
    intro b S ea K H g hb hR hea hI hn hcs hps hnx E kk
    refine V_iload_3 dL_makes_15 ?_
    refine V_iload_2 dL_makes_16 ?_
    refine V_icmp_ge (tgt := 36) dL_makes_17 (by decide) (fun c_17 => ?_) (fun c_17 => ?_)
    · exact absurd c_17 (fun z => absurd ((nI_le_iff (by omega) (by omega)).mp z) (by omega))
    · refine V_aload_0 dL_makes_20 ?_
      have hv := qEnt_v hn (by omega)
      refine V_call_i (runSX1 dL_makes_21 ce_L_addButton rfl ml_L_227 st_L_addButton (Nat.le_of_ble_eq_true rfl)) (by omega) (by omega) (by omega) (c_lAdd (R := (S, sn, tk, ea, wd, sc, u, le, lf, K)) hR hI.okS hea (fun E hE => mem1 ((qEnt_g hI).fa E hE)) (fun hf H1 g1 hR1 e1 => ?_) (fun E v hE _ => (good.ne (Es := []) (k := 0) (by omega) hv.1 hE).elim))
      rw [hv.1]
      refine V_iload_3 dL_makes_24 ?_
      refine V_icmp_eq (tgt := 30) dL_makes_25 (by decide) (fun c_25 => ?_) (fun c_25 => ?_)
      · refine V_iinc_3 (v := 1) dL_makes_30 rfl rfl ?_
        refine V_goto (tgt := 15) dL_makes_33 (by decide) ?_
        rw [nI_s]
        have h2 := ((qEnt_g hI).ok hf).2
        have e2 := hv.2
        exact V_mono (c2 := cc + 39 * k) (s2 := ss + 2105 * k) (by omega) (by omega) (ih (b + 1) (qEnt S).2 (pushE ea S) K H1 g1 (by omega) hR1 (pushE_len hea) h2 (by rw [e2]) (by rw [e2]; exact hcs) (by rw [e2]; exact hps) (by rw [e2]; exact hnx) (E.trans e1) kk)
      · exact absurd rfl c_25
set_option maxHeartbeats 1000000 in
set_option maxRecDepth 100000 in
theorem c_mk2 {G : GT} {Q : Option Value → Heap → Prop} {X : String → Heap → Prop} {H0 : Heap} {g0 : Nat → Nat} {o p m : Nat} (hm : m ≤ 8) (hm2 : 2 ≤ m) {l : List Int32} {sn : StC} {tk : Int32} {sc u : List Int32} {le lf : Int32} {wd : List Int32} {cc ss : Nat} : ∀ (k b : Nat) (S : StC) (ea : List StC) (K : ScC) (H : Heap) (g : Nat → Nat), b + k = 7 → RG G H g o (S, sn, tk, ea, wd, sc, u, le, lf, K) → Ia G H g 0 p 0 l → ea.length ≤ 8 → INV (8 + b) S → S.2.2.2.2.1 = nI m → S.2.2.1 = [] → S.2.2.2.1 = [] → S.2.2.2.2.2.2.2 = 0 → Ext G tsA H0 g0 H g → (∀ (S : StC) (ea : List StC) (K : ScC) (H1 : Heap) (g1 : Nat → Nat), RG G H1 g1 o (S, sn, tk, ea, wd, sc, u, le, lf, K) → Ia G H1 g1 0 p 0 l → ea.length ≤ 8 → INV 15 S → S.2.2.2.2.1 = nI m → S.2.2.1 = [] → S.2.2.2.1 = [] → S.2.2.2.2.2.2.2 = 0 → Ext G tsA H0 g0 H1 g1 → V G kL_makes 14 cc ss Q X 124 [some (.ref o), some (.ref p), some (.int (nI m)), some (.int (nI 7)), none, none, none, none] [] H1) → V G kL_makes 14 (cc + 39 * k) (ss + 2105 * k) Q X 38 [some (.ref o), some (.ref p), some (.int (nI m)), some (.int (nI b)), none, none, none, none] [] H := by
  intro k
  induction k with
  | zero =>
    intro b S ea K H g hb hR hs hea hI hn hcs hps hnx E kk
    refine V_iload_3 dL_makes_38 ?_
    refine V_bipush (v := 7) dL_makes_39 (by decide) ?_
    have hbm : b = 7 := by omega
    subst hbm
    refine V_icmp_ge (tgt := 124) dL_makes_41 (by decide) (fun c_41 => ?_) (fun c_41 => ?_)
    · exact kk S ea K H g hR hs hea hI hn hcs hps hnx E
    · exact absurd (by decide) c_41
  | succ k ih =>
    intro b S ea K H g hb hR hs hea hI hn hcs hps hnx E kk
    refine V_iload_3 dL_makes_38 ?_
    refine V_bipush (v := 7) dL_makes_39 (by decide) ?_
    refine V_icmp_ge (tgt := 124) dL_makes_41 (by decide) (fun c_41 => ?_) (fun c_41 => ?_)
    · exact absurd c_41 (fun z => absurd ((nI_le_iff (a := 7) (by omega) (by omega)).mp z) (by omega))
    · refine V_aload_1 dL_makes_44 ?_
      refine V_iconst (v := 1) dL_makes_45 rfl ?_
      refine V_iload_3 dL_makes_46 ?_
      refine V_iadd dL_makes_47 ?_
      refine V_call_i (runS2 dL_makes_48 ce_L_at rfl ml_L_223 st_L_at (Nat.le_of_ble_eq_true rfl)) (by omega) (by omega) (by omega) (c_at hs (by rw [nI_s2]; exact nI_pos (by omega)) ?_)
      refine V_istore_4 dL_makes_51 rfl ?_
      refine V_iload_4 dL_makes_53 ?_
      refine V_iload_2 dL_makes_55 ?_
      generalize atV l (1 + nI b) = z
      have hmz := nz (m := m) (by omega) (by omega)
      refine V_call_i (runS2 dL_makes_56 ce_L_some rfl ml_L_206 st_L_some (Nat.le_of_ble_eq_true rfl)) (by omega) (by omega) (by omega) (c_some hmz ?_)
      obtain ⟨a, ha, eqa⟩ := someV_nI z (k := m) (by omega) (by omega)
      rw [eqa]
      refine V_istore_5 dL_makes_59 rfl ?_
      refine V_iload_4 dL_makes_61 ?_
      refine V_iconst (v := 4) dL_makes_63 rfl ?_
      refine V_ishr dL_makes_64 ?_
      refine V_iload_2 dL_makes_65 ?_
      refine V_call_i (runS2 dL_makes_66 ce_L_some rfl ml_L_206 st_L_some (Nat.le_of_ble_eq_true rfl)) (by omega) (by omega) (by omega) (c_some hmz ?_)
      obtain ⟨d, hd, eqd⟩ := someV_nI (z >>> ((4 : Int32) &&& 31)) (k := m) (by omega) (by omega)
      rw [eqd]
      refine V_istore_6 dL_makes_69 rfl ?_
      refine V_aload_0 dL_makes_71 ?_
      refine V_iload_5 dL_makes_72 ?_
      refine V_iload_6 dL_makes_74 ?_
      refine V_iconst (v := 1) dL_makes_76 rfl ?_
      refine V_iload_4 dL_makes_77 ?_
      refine V_bipush (v := 8) dL_makes_79 (by decide) ?_
      refine V_ishr dL_makes_81 ?_
      refine V_bipush (v := 20) dL_makes_82 (by decide) ?_
      refine V_call_i (runS2 dL_makes_84 ce_L_some rfl ml_L_206 st_L_some (Nat.le_of_ble_eq_true rfl)) (by omega) (by omega) (by omega) (c_some (by decide) ?_)
      obtain ⟨v, hv, eqv⟩ := someV_nI (z >>> ((8 : Int32) &&& 31)) (k := 20) (by omega) (by omega)
      rw [show someV (z >>> ((8 : Int32) &&& 31)) 20 = nI v from eqv]
      refine V_iadd dL_makes_87 ?_
      rw [nI_s2]
      have hv := qJoin_v hI.2.1 hn hm ha hd (v := 1 + v) (by omega) (by omega)
      refine V_call_i (runSX4 dL_makes_88 ce_L_setBond rfl ml_L_229 st_L_setBond (Nat.le_of_ble_eq_true rfl)) (by omega) (by omega) (by omega) (c_lBond (R := (S, sn, tk, ea, wd, sc, u, le, lf, K)) hR hI.okS hea (fun E hE => mem2 ((qJoin_g hI).fa E hE)) (fun hf H1 g1 hR1 e1 => ?_) (fun eE v2 hE hv2 H1 g1 hR1 e1 => ?_))
      · skip
        have hq : ¬ a = d ∧ rng 20 (qJoin (nI a) (nI d) (nI (1 + v)) S).1 ∧ sm7 S (qJoin (nI a) (nI d) (nI (1 + v)) S).2 := hv.elim (fun q => by rw [q.2] at hf; cases hf) id
        obtain ⟨had, ⟨w, hw, ew⟩, hs7⟩ := hq
        have h2 := ((qJoin_g hI).ok hf).2
        rw [ew]
        refine V_istore_7 dL_makes_91 rfl ?_
        refine V_iload_5 dL_makes_93 ?_
        refine V_iload_6 dL_makes_95 ?_
        refine V_icmp_ne (tgt := 111) dL_makes_97 (by decide) (fun c_97 => ?_) (fun c_97 => ?_)
        · refine V_iload_7 dL_makes_111 ?_
          refine V_if_ge (tgt := 118) dL_makes_113 (by decide) (fun c_113 => ?_) (fun c_113 => ?_)
          · refine V_iinc_3 (v := 1) dL_makes_118 rfl rfl ?_
            refine V_goto (tgt := 38) dL_makes_121 (by decide) ?_
            refine V_drop 4 rfl ?_
            refine V_drop 5 rfl ?_
            refine V_drop 6 rfl ?_
            refine V_drop 7 rfl ?_
            rw [nI_s]
            exact V_mono (c2 := cc + 39 * k) (s2 := ss + 2105 * k) (by omega) (by omega) (ih (b + 1) (qJoin (nI a) (nI d) (nI (1 + v)) S).2 (pushE ea S) K H1 g1 (by omega) hR1 (hs.fr e1 (by decide)) (pushE_len hea) h2 (by rw [hs7.2]; exact hn) (by rw [hs7.2]; exact hcs) (by rw [hs7.2]; exact hps) (by rw [hs7.2]; exact hnx) (E.trans e1) kk)
          · exact absurd (Int32.not_lt.mp (nI_pos (by omega))) c_113
        · exact absurd (nI_inj (by omega) (by omega) c_97) had
      · skip
        have hq : a = d ∧ flt (qJoin (nI a) (nI d) (nI (1 + v)) S).1 = some IA := hv.elim id (fun q => by obtain ⟨-, ⟨w, hw, ew⟩, -⟩ := q; exact (good.ne (Es := []) (k := 0) (by omega) ew hE).elim)
        have hEI : eE = IA := Option.some.inj (hE.symm.trans hq.2)
        have hv3 : v2 = -1002 := by rw [hEI] at hv2; rcases List.mem_cons.mp hv2 with q | q; exact absurd (show IA = IO from congrArg Prod.fst q) (by decide +kernel); exact congrArg Prod.snd (List.mem_singleton.mp q)
        subst hv3
        refine V_istore_7 dL_makes_91 rfl ?_
        refine V_iload_5 dL_makes_93 ?_
        refine V_iload_6 dL_makes_95 ?_
        refine V_icmp_ne (tgt := 111) dL_makes_97 (by decide) (fun c_97 => ?_) (fun c_97 => ?_)
        · exact absurd (by rw [hq.1]) c_97
        · refine V_iload_7 dL_makes_100 ?_
          refine V_sipush (v := (-1002)) dL_makes_102 (by decide) ?_
          refine V_icmp_eq (tgt := 118) dL_makes_105 (by decide) (fun c_105 => ?_) (fun c_105 => ?_)
          · refine V_iinc_3 (v := 1) dL_makes_118 rfl rfl ?_
            refine V_goto (tgt := 38) dL_makes_121 (by decide) ?_
            refine V_drop 4 rfl ?_
            refine V_drop 5 rfl ?_
            refine V_drop 6 rfl ?_
            refine V_drop 7 rfl ?_
            rw [nI_s]
            exact V_mono (c2 := cc + 39 * k) (s2 := ss + 2105 * k) (by omega) (by omega) (ih (b + 1) S ea K H1 g1 (by omega) hR1 (hs.fr e1 (by decide)) hea (hI.mono (by omega)) hn hcs hps hnx (E.trans e1) kk)
          · exact absurd rfl c_105

theorem mem1 {E a : String} (h : E ∈ [a]) : E = a := List.mem_singleton.mp h
theorem mem2 {E a b : String} (h : E ∈ [a, b]) : E = a ∨ E = b := (List.mem_cons.mp h).imp id mem1
theorem mem3 {E a b c : String} (h : E ∈ [a, b, c]) : E = a ∨ E = b ∨ E = c := (List.mem_cons.mp h).imp id mem2
theorem mem4 {E a b c d : String} (h : E ∈ [a, b, c, d]) : E = a ∨ E = b ∨ E = c ∨ E = d := (List.mem_cons.mp h).imp id mem3
theorem good.ne {Es : List String} {k : Nat} {r : Int32 × StC} {v : Nat} (hv : v < 2 ^ 31) (e : r.1 = nI v) {E : String} (hE : flt r.1 = some E) : False := by
  rw [e, flt_nI hv] at hE
  cases hE
theorem nz {m : Nat} (h1 : 1 ≤ m) (h2 : m < 2 ^ 31) : ¬ nI m = 0 := fun q => absurd (nI_inj h2 (by omega) (show nI m = nI 0 from q)) (by omega)
set_option maxHeartbeats 1000000 in
set_option maxRecDepth 100000 in
theorem c_mk1 {G : GT} {Q : Option Value → Heap → Prop} {X : String → Heap → Prop} {H0 : Heap} {g0 : Nat → Nat} {o p m : Nat} (hm : m ≤ 8) {sn : StC} {tk : Int32} {sc u : List Int32} {le lf : Int32} {wd : List Int32} {cc ss : Nat} : ∀ (k b : Nat) (S : StC) (ea : List StC) (K : ScC) (H : Heap) (g : Nat → Nat), b + k = m → RG G H g o (S, sn, tk, ea, wd, sc, u, le, lf, K) → ea.length ≤ 8 → INV b S → S.2.2.2.2.1 = nI b → S.2.2.1 = [] → S.2.2.2.1 = [] → S.2.2.2.2.2.2.2 = 0 → Ext G tsA H0 g0 H g → (∀ (S : StC) (ea : List StC) (K : ScC) (H1 : Heap) (g1 : Nat → Nat), RG G H1 g1 o (S, sn, tk, ea, wd, sc, u, le, lf, K) → ea.length ≤ 8 → INV m S → S.2.2.2.2.1 = nI m → S.2.2.1 = [] → S.2.2.2.1 = [] → S.2.2.2.2.2.2.2 = 0 → Ext G tsA H0 g0 H1 g1 → V G kL_makes 14 cc ss Q X 36 [some (.ref o), some (.ref p), some (.int (nI m)), some (.int (nI m)), none, none, none, none] [] H1) → V G kL_makes 14 (cc + 39 * k) (ss + 2105 * k) Q X 15 [some (.ref o), some (.ref p), some (.int (nI m)), some (.int (nI b)), none, none, none, none] [] H := by
  intro k
  induction k with
  | zero =>
    intro b S ea K H g hb hR hea hI hn hcs hps hnx E kk
    refine V_iload_3 dL_makes_15 ?_
    refine V_iload_2 dL_makes_16 ?_
    have hbm : b = m := by omega
    subst hbm
    refine V_icmp_ge (tgt := 36) dL_makes_17 (by decide) (fun c_17 => ?_) (fun c_17 => ?_)
    · exact kk S ea K H g hR hea hI hn hcs hps hnx E
    · exact absurd (Int32.le_refl _) c_17
  | succ k ih =>
    intro b S ea K H g hb hR hea hI hn hcs hps hnx E kk
    refine V_iload_3 dL_makes_15 ?_
    refine V_iload_2 dL_makes_16 ?_
    refine V_icmp_ge (tgt := 36) dL_makes_17 (by decide) (fun c_17 => ?_) (fun c_17 => ?_)
    · exact absurd c_17 (fun z => absurd ((nI_le_iff (by omega) (by omega)).mp z) (by omega))
    · refine V_aload_0 dL_makes_20 ?_
      have hv := qEnt_v hn (by omega)
      refine V_call_i (runSX1 dL_makes_21 ce_L_addButton rfl ml_L_227 st_L_addButton (Nat.le_of_ble_eq_true rfl)) (by omega) (by omega) (by omega) (c_lAdd (R := (S, sn, tk, ea, wd, sc, u, le, lf, K)) hR hI.okS hea (fun E hE => mem1 ((qEnt_g hI).fa E hE)) (fun hf H1 g1 hR1 e1 => ?_) (fun E v hE _ => (good.ne (Es := []) (k := 0) (by omega) hv.1 hE).elim))
      rw [hv.1]
      refine V_iload_3 dL_makes_24 ?_
      refine V_icmp_eq (tgt := 30) dL_makes_25 (by decide) (fun c_25 => ?_) (fun c_25 => ?_)
      · refine V_iinc_3 (v := 1) dL_makes_30 rfl rfl ?_
        refine V_goto (tgt := 15) dL_makes_33 (by decide) ?_
        rw [nI_s]
        have h2 := ((qEnt_g hI).ok hf).2
        have e2 := hv.2
        exact V_mono (c2 := cc + 39 * k) (s2 := ss + 2105 * k) (by omega) (by omega) (ih (b + 1) (qEnt S).2 (pushE ea S) K H1 g1 (by omega) hR1 (pushE_len hea) h2 (by rw [e2]) (by rw [e2]; exact hcs) (by rw [e2]; exact hps) (by rw [e2]; exact hnx) (E.trans e1) kk)
      · exact absurd rfl c_25
set_option maxHeartbeats 1000000 in
set_option maxRecDepth 100000 in
theorem c_mk2 {G : GT} {Q : Option Value → Heap → Prop} {X : String → Heap → Prop} {H0 : Heap} {g0 : Nat → Nat} {o p m : Nat} (hm : m ≤ 8) (hm2 : 2 ≤ m) {l : List Int32} {sn : StC} {tk : Int32} {sc u : List Int32} {le lf : Int32} {wd : List Int32} {cc ss : Nat} : ∀ (k b : Nat) (S : StC) (ea : List StC) (K : ScC) (H : Heap) (g : Nat → Nat), b + k = 7 → RG G H g o (S, sn, tk, ea, wd, sc, u, le, lf, K) → Zi G H g p l → ea.length ≤ 8 → INV (8 + b) S → S.2.2.2.2.1 = nI m → S.2.2.1 = [] → S.2.2.2.1 = [] → S.2.2.2.2.2.2.2 = 0 → Ext G tsA H0 g0 H g → (∀ (S : StC) (ea : List StC) (K : ScC) (H1 : Heap) (g1 : Nat → Nat), RG G H1 g1 o (S, sn, tk, ea, wd, sc, u, le, lf, K) → Zi G H1 g1 p l → ea.length ≤ 8 → INV 15 S → S.2.2.2.2.1 = nI m → S.2.2.1 = [] → S.2.2.2.1 = [] → S.2.2.2.2.2.2.2 = 0 → Ext G tsA H0 g0 H1 g1 → V G kL_makes 14 cc ss Q X 124 [some (.ref o), some (.ref p), some (.int (nI m)), some (.int (nI 7)), none, none, none, none] [] H1) → V G kL_makes 14 (cc + 39 * k) (ss + 2105 * k) Q X 38 [some (.ref o), some (.ref p), some (.int (nI m)), some (.int (nI b)), none, none, none, none] [] H := by
  intro k
  induction k with
  | zero =>
    intro b S ea K H g hb hR hs hea hI hn hcs hps hnx E kk
    refine V_iload_3 dL_makes_38 ?_
    refine V_bipush (v := 7) dL_makes_39 (by decide) ?_
    have hbm : b = 7 := by omega
    subst hbm
    refine V_icmp_ge (tgt := 124) dL_makes_41 (by decide) (fun c_41 => ?_) (fun c_41 => ?_)
    · exact kk S ea K H g hR hs hea hI hn hcs hps hnx E
    · exact absurd (by decide) c_41
  | succ k ih =>
    intro b S ea K H g hb hR hs hea hI hn hcs hps hnx E kk
    refine V_iload_3 dL_makes_38 ?_
    refine V_bipush (v := 7) dL_makes_39 (by decide) ?_
    refine V_icmp_ge (tgt := 124) dL_makes_41 (by decide) (fun c_41 => ?_) (fun c_41 => ?_)
    · exact absurd c_41 (fun z => absurd ((nI_le_iff (a := 7) (by omega) (by omega)).mp z) (by omega))
    · refine V_aload_1 dL_makes_44 ?_
      refine V_iconst (v := 1) dL_makes_45 rfl ?_
      refine V_iload_3 dL_makes_46 ?_
      refine V_iadd dL_makes_47 ?_
      refine V_call_i (runS2 dL_makes_48 ce_L_at rfl ml_L_223 st_L_at (Nat.le_of_ble_eq_true rfl)) (by omega) (by omega) (by omega) (c_at hs (by rw [nI_s2]; exact nI_pos (by omega)) ?_)
      refine V_istore_4 dL_makes_51 rfl ?_
      refine V_iload_4 dL_makes_53 ?_
      refine V_iload_2 dL_makes_55 ?_
      generalize atV l (1 + nI b) = z
      have hmz := nz (m := m) (by omega) (by omega)
      refine V_call_i (runS2 dL_makes_56 ce_L_some rfl ml_L_206 st_L_some (Nat.le_of_ble_eq_true rfl)) (by omega) (by omega) (by omega) (c_some hmz ?_)
      obtain ⟨a, ha, eqa⟩ := someV_nI z (k := m) (by omega) (by omega)
      rw [eqa]
      refine V_istore_5 dL_makes_59 rfl ?_
      refine V_iload_4 dL_makes_61 ?_
      refine V_iconst (v := 4) dL_makes_63 rfl ?_
      refine V_ishr dL_makes_64 ?_
      refine V_iload_2 dL_makes_65 ?_
      refine V_call_i (runS2 dL_makes_66 ce_L_some rfl ml_L_206 st_L_some (Nat.le_of_ble_eq_true rfl)) (by omega) (by omega) (by omega) (c_some hmz ?_)
      obtain ⟨d, hd, eqd⟩ := someV_nI (z >>> ((4 : Int32) &&& 31)) (k := m) (by omega) (by omega)
      rw [eqd]
      refine V_istore_6 dL_makes_69 rfl ?_
      refine V_aload_0 dL_makes_71 ?_
      refine V_iload_5 dL_makes_72 ?_
      refine V_iload_6 dL_makes_74 ?_
      refine V_iconst (v := 1) dL_makes_76 rfl ?_
      refine V_iload_4 dL_makes_77 ?_
      refine V_bipush (v := 8) dL_makes_79 (by decide) ?_
      refine V_ishr dL_makes_81 ?_
      refine V_bipush (v := 20) dL_makes_82 (by decide) ?_
      refine V_call_i (runS2 dL_makes_84 ce_L_some rfl ml_L_206 st_L_some (Nat.le_of_ble_eq_true rfl)) (by omega) (by omega) (by omega) (c_some (by decide) ?_)
      obtain ⟨v, hv, eqv⟩ := someV_nI (z >>> ((8 : Int32) &&& 31)) (k := 20) (by omega) (by omega)
      rw [show someV (z >>> ((8 : Int32) &&& 31)) 20 = nI v from eqv]
      refine V_iadd dL_makes_87 ?_
      rw [nI_s2]
      have hv := qJoin_v hI.2.1 hn hm ha hd (v := 1 + v) (by omega) (by omega)
      refine V_call_i (runSX4 dL_makes_88 ce_L_setBond rfl ml_L_229 st_L_setBond (Nat.le_of_ble_eq_true rfl)) (by omega) (by omega) (by omega) (c_lBond (R := (S, sn, tk, ea, wd, sc, u, le, lf, K)) hR hI.okS hea (fun E hE => mem2 ((qJoin_g hI).fa E hE)) (fun hf H1 g1 hR1 e1 => ?_) (fun eE v2 hE hv2 H1 g1 hR1 e1 => ?_))
      · skip
        have hq : ¬ a = d ∧ rng 20 (qJoin (nI a) (nI d) (nI (1 + v)) S).1 ∧ sm7 S (qJoin (nI a) (nI d) (nI (1 + v)) S).2 := hv.elim (fun q => by rw [q.2] at hf; cases hf) id
        obtain ⟨had, ⟨w, hw, ew⟩, hs7⟩ := hq
        have h2 := ((qJoin_g hI).ok hf).2
        rw [ew]
        refine V_istore_7 dL_makes_91 rfl ?_
        refine V_iload_5 dL_makes_93 ?_
        refine V_iload_6 dL_makes_95 ?_
        refine V_icmp_ne (tgt := 111) dL_makes_97 (by decide) (fun c_97 => ?_) (fun c_97 => ?_)
        · refine V_iload_7 dL_makes_111 ?_
          refine V_if_ge (tgt := 118) dL_makes_113 (by decide) (fun c_113 => ?_) (fun c_113 => ?_)
          · refine V_iinc_3 (v := 1) dL_makes_118 rfl rfl ?_
            refine V_goto (tgt := 38) dL_makes_121 (by decide) ?_
            refine V_drop 4 rfl ?_
            refine V_drop 5 rfl ?_
            refine V_drop 6 rfl ?_
            refine V_drop 7 rfl ?_
            rw [nI_s]
            exact V_mono (c2 := cc + 39 * k) (s2 := ss + 2105 * k) (by omega) (by omega) (ih (b + 1) (qJoin (nI a) (nI d) (nI (1 + v)) S).2 (pushE ea S) K H1 g1 (by omega) hR1 (hs.fr e1 (by decide)) (pushE_len hea) h2 (by rw [hs7.2]; exact hn) (by rw [hs7.2]; exact hcs) (by rw [hs7.2]; exact hps) (by rw [hs7.2]; exact hnx) (E.trans e1) kk)
          · exact absurd (Int32.not_lt.mp (nI_pos (by omega))) c_113
        · exact absurd (nI_inj (by omega) (by omega) c_97) had
      · skip
        have hq : a = d ∧ flt (qJoin (nI a) (nI d) (nI (1 + v)) S).1 = some IA := hv.elim id (fun q => by obtain ⟨-, ⟨w, hw, ew⟩, -⟩ := q; exact (good.ne (Es := []) (k := 0) (by omega) ew hE).elim)
        have hEI : eE = IA := Option.some.inj (hE.symm.trans hq.2)
        have hv3 : v2 = -1002 := by rw [hEI] at hv2; rcases List.mem_cons.mp hv2 with q | q; exact absurd (show IA = IO from congrArg Prod.fst q) (by decide +kernel); exact congrArg Prod.snd (List.mem_singleton.mp q)
        subst hv3
        refine V_istore_7 dL_makes_91 rfl ?_
        refine V_iload_5 dL_makes_93 ?_
        refine V_iload_6 dL_makes_95 ?_
        refine V_icmp_ne (tgt := 111) dL_makes_97 (by decide) (fun c_97 => ?_) (fun c_97 => ?_)
        · exact absurd (by rw [hq.1]) c_97
        · refine V_iload_7 dL_makes_100 ?_
          refine V_sipush (v := (-1002)) dL_makes_102 (by decide) ?_
          refine V_icmp_eq (tgt := 118) dL_makes_105 (by decide) (fun c_105 => ?_) (fun c_105 => ?_)
          · refine V_iinc_3 (v := 1) dL_makes_118 rfl rfl ?_
            refine V_goto (tgt := 38) dL_makes_121 (by decide) ?_
            refine V_drop 4 rfl ?_
            refine V_drop 5 rfl ?_
            refine V_drop 6 rfl ?_
            refine V_drop 7 rfl ?_
            rw [nI_s]
            exact V_mono (c2 := cc + 39 * k) (s2 := ss + 2105 * k) (by omega) (by omega) (ih (b + 1) S ea K H1 g1 (by omega) hR1 (hs.fr e1 (by decide)) hea (hI.mono (by omega)) hn hcs hps hnx (E.trans e1) kk)
          · exact absurd rfl c_105
set_option maxHeartbeats 1000000 in
set_option maxRecDepth 100000 in
theorem c_mk3 {G : GT} {Q : Option Value → Heap → Prop} {X : String → Heap → Prop} {H0 : Heap} {g0 : Nat → Nat} {o p m : Nat} {l : List Int32} {sn : StC} {tk : Int32} {sc u : List Int32} {le lf : Int32} {cc ss : Nat} : ∀ (k b : Nat) (S : StC) (ea : List StC) (wd : List Int32) (K : ScC) (H : Heap) (g : Nat → Nat), b + k = 3 → RG G H g o (S, sn, tk, ea, wd, sc, u, le, lf, K) → Zi G H g p l → ea.length ≤ 8 → INV (15 + b) S → S.2.2.2.2.1 = nI m → S.2.2.1 = [] → S.2.2.2.1.length = b → S.2.2.2.2.2.2.2 = 0 → Ext G tsA H0 g0 H g → (∀ (S : StC) (ea : List StC) (wd : List Int32) (K : ScC) (H1 : Heap) (g1 : Nat → Nat), RG G H1 g1 o (S, sn, tk, ea, wd, sc, u, le, lf, K) → Zi G H1 g1 p l → ea.length ≤ 8 → INV 18 S → S.2.2.2.2.1 = nI m → S.2.2.1 = [] → S.2.2.2.1.length = 3 → S.2.2.2.2.2.2.2 = 0 → Ext G tsA H0 g0 H1 g1 → V G kL_makes 14 cc ss Q X 171 [some (.ref o), some (.ref p), some (.int (nI m)), some (.int (nI 3)), none, none, none, none] [] H1) → V G kL_makes 14 (cc + 115 * k) (ss + 11002 * k) Q X 126 [some (.ref o), some (.ref p), some (.int (nI m)), some (.int (nI b)), none, none, none, none] [] H := by
  intro k
  induction k with
  | zero =>
    intro b S ea wd K H g hb hR hs hea hI hn hcs hps hnx E kk
    refine V_iload_3 dL_makes_126 ?_
    refine V_iconst (v := 3) dL_makes_127 rfl ?_
    have hbm : b = 3 := by omega
    subst hbm
    refine V_icmp_ge (tgt := 171) dL_makes_128 (by decide) (fun c_128 => ?_) (fun c_128 => ?_)
    · exact kk S ea wd K H g hR hs hea hI hn hcs hps hnx E
    · exact absurd (by decide) c_128
  | succ k ih =>
    intro b S ea wd K H g hb hR hs hea hI hn hcs hps hnx E kk
    refine V_iload_3 dL_makes_126 ?_
    refine V_iconst (v := 3) dL_makes_127 rfl ?_
    refine V_icmp_ge (tgt := 171) dL_makes_128 (by decide) (fun c_128 => ?_) (fun c_128 => ?_)
    · exact absurd c_128 (fun z => absurd ((nI_le_iff (a := 3) (by omega) (by omega)).mp z) (by omega))
    · refine V_aload_0 dL_makes_131 ?_
      refine V_aload_1 dL_makes_132 ?_
      refine V_bipush (v := 8) dL_makes_133 (by decide) ?_
      refine V_iload_3 dL_makes_135 ?_
      refine V_iadd dL_makes_136 ?_
      refine V_call_i (runS2 dL_makes_137 ce_L_at rfl ml_L_223 st_L_at (Nat.le_of_ble_eq_true rfl)) (by omega) (by omega) (by omega) (c_at hs (by rw [show (8 : Int32) + nI b = nI (8 + b) from nI_a]; exact nI_pos (by omega)) ?_)
      refine V_bipush (v := 101) dL_makes_140 (by decide) ?_
      generalize atV l (8 + nI b) = z1
      refine V_call_i (runS2 dL_makes_142 ce_L_some rfl ml_L_206 st_L_some (Nat.le_of_ble_eq_true rfl)) (by omega) (by omega) (by omega) (c_some (by decide) ?_)
      obtain ⟨v, hv, eqv⟩ := someV_nI z1 (k := 101) (by omega) (by omega)
      rw [show someV z1 101 = nI v from eqv]
      refine V_aload_1 dL_makes_145 ?_
      refine V_bipush (v := 11) dL_makes_146 (by decide) ?_
      refine V_iload_3 dL_makes_148 ?_
      refine V_iadd dL_makes_149 ?_
      refine V_call_i (runS2 dL_makes_150 ce_L_at rfl ml_L_223 st_L_at (Nat.le_of_ble_eq_true rfl)) (by omega) (by omega) (by omega) (c_at hs (by rw [show (11 : Int32) + nI b = nI (11 + b) from nI_a]; exact nI_pos (by omega)) ?_)
      generalize atV l (11 + nI b) = z2
      refine V_call_a (runS1 dL_makes_153 ce_L_word rfl ml_L_232 st_L_word (Nat.le_of_ble_eq_true rfl)) (by omega) (by omega) (by omega) (c_word (g := g) fun q H1 g1 hq e1 => ?_)
      have hR1 := hR.fr e1 (by decide)
      have hs1 := hs.fr e1 (by decide)
      have hv := qRule_v (S := S) (k := b) (v := v) hps (by omega) (by omega) (worV_ne z2)
      have hg := qRule_g hI (x := nI v) (worV_ok z2).1
      refine V_call_i (runS3 dL_makes_156 ce_L_rules rfl ml_L_236 st_L_rules (Nat.le_of_ble_eq_true rfl)) (by omega) (by omega) (by omega) (c_rules (R := (S, sn, tk, ea, wd, sc, u, le, lf, K)) (worV_ok z2).1 (worV_ok z2).2 hq hR1 hI.okS hea (fun E hE => mem3 (hg.fa E hE)) (fun hf H2 g2 hR2 e2 => ?_) (fun eE v2 hE _ => (good.ne (Es := []) (k := 0) (by omega) hv.1 hE).elim))
      rw [hv.1]
      refine V_iload_3 dL_makes_159 ?_
      refine V_icmp_eq (tgt := 165) dL_makes_160 (by decide) (fun c_160 => ?_) (fun c_160 => ?_)
      · refine V_iinc_3 (v := 1) dL_makes_165 rfl rfl ?_
        refine V_goto (tgt := 126) dL_makes_168 (by decide) ?_
        rw [nI_s]
        have h2 := (hg.ok hf).2
        have e3 := hv.2
        exact V_mono (c2 := cc + 115 * k) (s2 := ss + 11002 * k) (by omega) (by omega) (ih (b + 1) (qRule (nI v) (worV z2) S).2 (pushE ea S) [] K H2 g2 (by omega) hR2 (hs1.fr e2 (by decide)) (pushE_len hea) h2 (by rw [e3]; exact hn) (by rw [e3]; exact hcs) (by rw [e3, ← hps]; exact List.length_append) (by rw [e3]; exact hnx) ((E.trans (e1.wide (by decide))).trans e2) kk)
      · exact absurd rfl c_160
set_option maxHeartbeats 1000000 in
set_option maxRecDepth 100000 in
theorem c_mk4 {G : GT} {Q : Option Value → Heap → Prop} {X : String → Heap → Prop} {H0 : Heap} {g0 : Nat → Nat} {o p m : Nat} (hm : m ≤ 8) (hm2 : 2 ≤ m) {l : List Int32} {sn : StC} {tk : Int32} {sc u : List Int32} {le lf : Int32} {cc ss : Nat} : ∀ (k b : Nat) (S : StC) (ea : List StC) (wd : List Int32) (K : ScC) (H : Heap) (g : Nat → Nat), b + k = 5 → RG G H g o (S, sn, tk, ea, wd, sc, u, le, lf, K) → Zi G H g p l → ea.length ≤ 8 → INV (18 + 2 * b) S → S.2.2.2.2.1 = nI m → S.2.2.1.length = b → (∀ x ∈ S.2.2.1.map cId, ∃ u : Nat, u < b ∧ x = nI u) → 3 ≤ S.2.2.2.1.length → S.2.2.2.2.2.2.2 = nI b → Ext G tsA H0 g0 H g → (∀ (S : StC) (ea : List StC) (wd : List Int32) (K : ScC) (H1 : Heap) (g1 : Nat → Nat), RG G H1 g1 o (S, sn, tk, ea, wd, sc, u, le, lf, K) → Zi G H1 g1 p l → ea.length ≤ 8 → INV 28 S → S.2.2.2.2.1 = nI m → S.2.2.1.length = 5 → (∀ x ∈ S.2.2.1.map cId, ∃ u : Nat, u < 5 ∧ x = nI u) → 3 ≤ S.2.2.2.1.length → S.2.2.2.2.2.2.2 = nI 5 → Ext G tsA H0 g0 H1 g1 → V G kL_makes 14 cc ss Q X 289 [some (.ref o), some (.ref p), some (.int (nI m)), some (.int (nI 5)), none, none, none, none] [] H1) → V G kL_makes 14 (cc + 157 * k) (ss + 13196 * k) Q X 173 [some (.ref o), some (.ref p), some (.int (nI m)), some (.int (nI b)), none, none, none, none] [] H := by
  intro k
  induction k with
  | zero =>
    intro b S ea wd K H g hb hR hs hea hI hn hcl hid hps hnx E kk
    refine V_iload_3 dL_makes_173 ?_
    refine V_iconst (v := 5) dL_makes_174 rfl ?_
    have hbm : b = 5 := by omega
    subst hbm
    refine V_icmp_ge (tgt := 289) dL_makes_175 (by decide) (fun c_175 => ?_) (fun c_175 => ?_)
    · exact kk S ea wd K H g hR hs hea hI hn hcl hid hps hnx E
    · exact absurd (by decide) c_175
  | succ k ih =>
    intro b S ea wd K H g hb hR hs hea hI hn hcl hid hps hnx E kk
    refine V_iload_3 dL_makes_173 ?_
    refine V_iconst (v := 5) dL_makes_174 rfl ?_
    refine V_icmp_ge (tgt := 289) dL_makes_175 (by decide) (fun c_175 => ?_) (fun c_175 => ?_)
    · exact absurd c_175 (fun z => absurd ((nI_le_iff (a := 5) (by omega) (by omega)).mp z) (by omega))
    · refine V_aload_1 dL_makes_178 ?_
      refine V_bipush (v := 14) dL_makes_179 (by decide) ?_
      refine V_iload_3 dL_makes_181 ?_
      refine V_iadd dL_makes_182 ?_
      refine V_call_i (runS2 dL_makes_183 ce_L_at rfl ml_L_223 st_L_at (Nat.le_of_ble_eq_true rfl)) (by omega) (by omega) (by omega) (c_at hs (by rw [show (14 : Int32) + nI b = nI (14 + b) from nI_a]; exact nI_pos (by omega)) ?_)
      refine V_istore_4 dL_makes_186 rfl ?_
      refine V_iload_4 dL_makes_188 ?_
      refine V_iload_2 dL_makes_190 ?_
      generalize atV l (14 + nI b) = z
      have hmz := nz (m := m) (by omega) (by omega)
      refine V_call_i (runS2 dL_makes_191 ce_L_some rfl ml_L_206 st_L_some (Nat.le_of_ble_eq_true rfl)) (by omega) (by omega) (by omega) (c_some hmz ?_)
      obtain ⟨a, ha, eqa⟩ := someV_nI z (k := m) (by omega) (by omega)
      rw [eqa]
      refine V_istore_5 dL_makes_194 rfl ?_
      refine V_aload_0 dL_makes_196 ?_
      refine V_iload_5 dL_makes_197 ?_
      refine V_iload_5 dL_makes_199 ?_
      refine V_iconst (v := 1) dL_makes_201 rfl ?_
      refine V_iadd dL_makes_202 ?_
      refine V_iload_4 dL_makes_203 ?_
      refine V_iconst (v := 4) dL_makes_205 rfl ?_
      refine V_ishr dL_makes_206 ?_
      refine V_iload_2 dL_makes_207 ?_
      refine V_iconst (v := 1) dL_makes_208 rfl ?_
      refine V_isub dL_makes_209 ?_
      rw [show nI m - 1 = nI (m - 1) from nI_p (by omega)]
      refine V_call_i (runS2 dL_makes_210 ce_L_some rfl ml_L_206 st_L_some (Nat.le_of_ble_eq_true rfl)) (by omega) (by omega) (by omega) (c_some (nz (m := m - 1) (by omega) (by omega)) ?_)
      obtain ⟨d, hd, eqd⟩ := someV_nI (z >>> ((4 : Int32) &&& 31)) (k := (m - 1)) (by omega) (by omega)
      rw [eqd]
      refine V_iadd dL_makes_213 ?_
      refine V_iload_2 dL_makes_214 ?_
      refine V_irem dL_makes_215 hmz ?_
      rw [show nI a + 1 + nI d = nI (a + 1 + d) from by rw [nI_s, nI_a], nI_rem (by omega) (by omega) (by omega)]
      refine V_iconst (v := 1) dL_makes_216 rfl ?_
      refine V_iload_4 dL_makes_217 ?_
      refine V_bipush (v := 7) dL_makes_219 (by decide) ?_
      refine V_ishr dL_makes_221 ?_
      refine V_bipush (v := 99) dL_makes_222 (by decide) ?_
      have hbm2 : (a + 1 + d) % m < m := Nat.mod_lt _ (by omega)
      have hab : ¬ a = (a + 1 + d) % m := by
        rcases Nat.lt_or_ge (a + 1 + d) m with q | q
        · rw [Nat.mod_eq_of_lt q]; omega
        · rw [Nat.mod_eq_sub_mod q, Nat.mod_eq_of_lt (by omega)]; omega
      generalize (a + 1 + d) % m = b2 at *
      refine V_call_i (runS2 dL_makes_224 ce_L_some rfl ml_L_206 st_L_some (Nat.le_of_ble_eq_true rfl)) (by omega) (by omega) (by omega) (c_some (by decide) ?_)
      obtain ⟨v, hv, eqv⟩ := someV_nI (z >>> ((7 : Int32) &&& 31)) (k := 99) (by omega) (by omega)
      rw [show someV (z >>> ((7 : Int32) &&& 31)) 99 = nI v from eqv]
      refine V_iadd dL_makes_227 ?_
      refine V_iconst (v := 1) dL_makes_228 rfl ?_
      refine V_iload_4 dL_makes_229 ?_
      refine V_bipush (v := 10) dL_makes_231 (by decide) ?_
      refine V_ishr dL_makes_233 ?_
      refine V_iconst (v := 5) dL_makes_234 rfl ?_
      refine V_call_i (runS2 dL_makes_235 ce_L_some rfl ml_L_206 st_L_some (Nat.le_of_ble_eq_true rfl)) (by omega) (by omega) (by omega) (c_some (by decide) ?_)
      obtain ⟨w, hw, eqw⟩ := someV_nI (z >>> ((10 : Int32) &&& 31)) (k := 5) (by omega) (by omega)
      rw [show someV (z >>> ((10 : Int32) &&& 31)) 5 = nI w from eqw]
      refine V_iadd dL_makes_238 ?_
      refine V_iload_4 dL_makes_239 ?_
      refine V_bipush (v := 12) dL_makes_241 (by decide) ?_
      refine V_ishr dL_makes_243 ?_
      refine V_bipush (v := 25) dL_makes_244 (by decide) ?_
      refine V_call_i (runS2 dL_makes_246 ce_L_some rfl ml_L_206 st_L_some (Nat.le_of_ble_eq_true rfl)) (by omega) (by omega) (by omega) (c_some (by decide) ?_)
      obtain ⟨y, hy, eqy⟩ := someV_nI (z >>> ((12 : Int32) &&& 31)) (k := 25) (by omega) (by omega)
      rw [show someV (z >>> ((12 : Int32) &&& 31)) 25 = nI y from eqy]
      refine V_iload_4 dL_makes_249 ?_
      rw [show (1 : Int32) + nI v = nI (1 + v) from nI_s2, show (1 : Int32) + nI w = nI (1 + w) from nI_s2]
      refine V_call_a (runS1 dL_makes_251 ce_L_word rfl ml_L_232 st_L_word (Nat.le_of_ble_eq_true rfl)) (by omega) (by omega) (by omega) (c_word (g := g) fun q H1 g1 hq e1 => ?_)
      have hR1 := hR.fr e1 (by decide)
      have hs1 := hs.fr e1 (by decide)
      have hv := qFile_v (S := S) (mt := worV z) hn hm ha hbm2 hab (c := 1 + v) (d := 1 + w) (e := y) (by omega) (by omega) (by omega) (worV_ne z) (by omega)
      have hv1 := hv.1.trans hnx
      have hg := qFile_g hI (by omega) (x1 := nI a) (x2 := nI b2) (x3 := nI (1 + v)) (x4 := nI (1 + w)) (x5 := nI y) (worV_ok z).1
      refine V_call_i (runS7 dL_makes_254 ce_L_files rfl ml_L_240 st_L_files (Nat.le_of_ble_eq_true rfl)) (by omega) (by omega) (by omega) (c_files (R := (S, sn, tk, ea, wd, sc, u, le, lf, K)) (worV_ok z).1 (worV_ok z).2 hq hR1 hI.okS hea (fun E hE => mem4 (hg.fa E hE)) (fun hf H2 g2 hR2 e2 => ?_) (fun eE v2 hE _ => (good.ne (Es := []) (k := 0) (by omega) hv1 hE).elim))
      have h2 := (hg.ok hf).2
      have e3 := hv.2
      have ee2 := pushE_len (S := S) hea
      rw [hv1]
      generalize hQ : (qFile (nI a) (nI b2) (nI (1 + v)) (nI (1 + w)) (nI y) (worV z) S).2 = S2 at *
      have hE2 := (E.trans (e1.wide (by decide))).trans e2
      have hs2 := hs1.fr e2 (by decide)
      change RG G H2 g2 o (S2, sn, tk, pushE ea S, [], sc, u, le, lf, K) at hR2
      generalize pushE ea S = ea2 at *
      have hn2 : S2.2.2.2.2.1 = nI m := by rw [e3]; exact hn
      have hnx2 : S2.2.2.2.2.2.2.2 = nI (b + 1) := by rw [e3]; show S.2.2.2.2.2.2.2 + 1 = _; rw [hnx, nI_s]
      have hps2 : 3 ≤ S2.2.2.2.1.length := by rw [e3]; exact hps
      obtain ⟨cN, hcs2, hcid, hc102⟩ : ∃ cN : CaseC, S2.2.2.1 = S.2.2.1 ++ [cN] ∧ cId cN = nI b ∧ cSd cN = 102 := ⟨_, by rw [e3], hnx, rfl⟩
      have hcl2 : S2.2.2.1.length = b + 1 := by rw [hcs2, List.length_append, hcl]; rfl
      have hid2 : ∀ x ∈ S2.2.2.1.map cId, ∃ u : Nat, u < b + 1 ∧ x = nI u := by
        intro x hx
        rw [hcs2, List.map_append] at hx
        rcases List.mem_append.mp hx with hx | hx
        · obtain ⟨u, u1, u2⟩ := hid x hx; exact ⟨u, by omega, u2⟩
        · exact ⟨b, by omega, (List.mem_singleton.mp hx).trans hcid⟩
      clear e3 hv hv1 hg hQ
      refine V_iload_3 dL_makes_257 ?_
      refine V_icmp_eq (tgt := 263) dL_makes_258 (by decide) (fun c_258 => ?_) (fun c_258 => ?_)
      · refine V_iload_4 dL_makes_263 ?_
        refine V_bipush (v := 16) dL_makes_265 (by decide) ?_
        refine V_ishr dL_makes_267 ?_
        refine V_iconst (v := 1) dL_makes_268 rfl ?_
        refine V_iand dL_makes_269 ?_
        refine V_if_ne (tgt := 283) dL_makes_270 (by decide) (fun c_270 => ?_) (fun c_270 => ?_)
        · refine V_iinc_3 (v := 1) dL_makes_283 rfl rfl ?_
          refine V_goto (tgt := 173) dL_makes_286 (by decide) ?_
          refine V_drop 4 rfl ?_
          refine V_drop 5 rfl ?_
          rw [nI_s]
          exact V_mono (c2 := cc + 157 * k) (s2 := ss + 13196 * k) (by omega) (by omega) (ih (b + 1) S2 ea2 [] K H2 g2 (by omega) hR2 hs2 ee2 (h2.mono (by omega)) hn2 hcl2 hid2 hps2 hnx2 hE2 kk)
        · refine V_aload_0 dL_makes_273 ?_
          refine V_iload_3 dL_makes_274 ?_
          have hpl := pos_last (cs := S.2.2.1) (k := b) (c := cN) (by omega) (by omega) (fun i hi => by obtain ⟨u, u1, u2⟩ := hid _ (List.mem_map_of_mem (f := cId) ((hI.cas (i := nI i) ⟨nI_pos (by omega), fun z => absurd ((nI_le_iff (by omega) (by omega)).mp z) (by omega)⟩).2)); exact ⟨u, u1, u2⟩) hcid
          rw [← hcs2] at hpl
          have ho := qHear_o h2 (x := nI b) (K := K) (by rw [hpl.1]; exact nI_pos (by omega)) (by rw [hpl.1]; exact nI_lt (by omega) (by omega)) (by rw [hpl.1, hpl.2]; exact hc102) (fun z => by rw [z] at hps2; exact absurd hps2 (by decide))
          obtain ⟨w9, hw9, ew9⟩ := ho.1.1
          have hg := qHear_g h2 (x := nI b) (K := K)
          refine V_call_i (runSX2 dL_makes_275 ce_L_hear rfl ml_L_244 st_L_hear (Nat.le_of_ble_eq_true rfl)) (by omega) (by omega) (by omega) (c_lHear (R := (S2, sn, tk, ea2, [], sc, u, le, lf, K)) hR2 h2.okS ee2 (fun E hE => mem3 (hg.fa E hE)) (fun hf2 H3 g3 hR3 e3 => ?_) (fun eE v2 hE _ => (good.ne (Es := []) (k := 0) (r := ((qHear (nI b) S2 K).1, S2)) hw9 ew9 hE).elim))
          refine V_int (y := nI w9) ew9 ?_
          refine V_if_ge (tgt := 283) dL_makes_278 (by decide) (fun c_278 => ?_) (fun c_278 => ?_)
          · refine V_iinc_3 (v := 1) dL_makes_283 rfl rfl ?_
            refine V_goto (tgt := 173) dL_makes_286 (by decide) ?_
            refine V_drop 4 rfl ?_
            refine V_drop 5 rfl ?_
            rw [nI_s]
            have fr := ho.2
            have frl : (qHear (nI b) S2 K).2.1.2.2.1.length = b + 1 := by have := congrArg List.length fr.2.1; rw [List.length_map, List.length_map] at this; exact this.trans hcl2
            exact V_mono (c2 := cc + 157 * k) (s2 := ss + 13196 * k) (by omega) (by omega) (ih (b + 1) (qHear (nI b) S2 K).2.1 (pushE ea2 S2) [] (qHear (nI b) S2 K).2.2 H3 g3 (by omega) hR3 (hs2.fr e3 (by decide)) (pushE_len ee2) (ho.1.2.mono (by omega)) (fr.2.2.1.trans hn2) frl (fun x hx => hid2 x (fr.2.1 ▸ hx)) (Nat.le_trans hps2 fr.2.2.2) (fr.1.trans hnx2) (hE2.trans e3) kk)
          · exact absurd (Int32.not_lt.mp (nI_pos hw9)) c_278
      · exact absurd rfl c_258
theorem INV0 : INV 0 S0 := ⟨⟨0, by omega, rfl⟩, ⟨fun j => ⟨0, by omega, by
  by_cases h : j < 64
  · show (List.replicate 64 (0 : Int32)).getD j 0 = 0
    rw [List.getD_eq_getElem?_getD, List.getElem?_replicate, if_pos h]; rfl
  · show (List.replicate 64 (0 : Int32)).getD j 0 = 0
    rw [List.getD_eq_getElem?_getD, List.getElem?_replicate, if_neg h]; rfl⟩, rfl⟩, by decide, fun c hc => absurd hc List.not_mem_nil, by decide, fun p hp => absurd hp List.not_mem_nil, ⟨0, by omega, rfl⟩, ⟨0, by omega, rfl⟩, rfl⟩
set_option maxHeartbeats 1000000 in
set_option maxRecDepth 100000 in
theorem c_makes {G : GT} {X : String → Heap → Prop} {H : Heap} {g : Nat → Nat} {o p : Nat} {l : List Int32} {sn : StC} {tk : Int32} {sc u : List Int32} {le lf : Int32} {wd : List Int32} {K : ScC} (hR : RG G H g o (S0, sn, tk, [], wd, sc, u, le, lf, K)) (hs : Zi G H g p l) {F : Int32 → Heap → Prop} (kk : ∀ (m : Nat) (S : StC) (ea : List StC) (wd : List Int32) (K : ScC) (H1 : Heap) (g1 : Nat → Nat), 2 ≤ m → m ≤ 8 → RG G H1 g1 o (S, sn, tk, ea, wd, sc, u, le, lf, K) → ea.length ≤ 8 → INV 28 S → S.2.2.2.2.1 = nI m → S.2.2.1.length = 5 → 3 ≤ S.2.2.2.1.length → Ext G tsA H g H1 g1 → F 1 H1) : Call G kL_makes 14 1715 130561 [.ref o, .ref p] H (qi F) X := by
  refine startL (L0 := [some (.ref o), some (.ref p), none, none, none, none, none, none]) rfl rfl pl_L_makes (Nat.le_of_ble_eq_true rfl) ?_
  refine V_iconst (v := 2) dL_makes_0 rfl ?_
  refine V_aload_1 dL_makes_1 ?_
  refine V_iconst (v := 0) dL_makes_2 rfl ?_
  refine V_call_i (runS2 dL_makes_3 ce_L_at rfl ml_L_223 st_L_at (Nat.le_of_ble_eq_true rfl)) (by omega) (by omega) (by omega) (c_at hs (by decide) ?_)
  refine V_bipush (v := 7) dL_makes_6 (by decide) ?_
  generalize atV l 0 = z0
  obtain ⟨j, hj, ej⟩ := someV_nI z0 (k := 7) (by omega) (by omega)
  refine V_call_i (runS2 dL_makes_8 ce_L_some rfl ml_L_206 st_L_some (Nat.le_of_ble_eq_true rfl)) (by omega) (by omega) (by omega) (c_some (by decide) ?_)
  rw [show someV z0 7 = nI j from ej]
  refine V_iadd dL_makes_11 ?_
  rw [show (2 : Int32) + nI j = nI (2 + j) from nI_a]
  have hm8 : 2 + j ≤ 8 := by omega
  have hm2 : 2 ≤ 2 + j := by omega
  generalize 2 + j = m at *
  refine V_istore_2 dL_makes_12 rfl ?_
  refine V_iconst (v := 0) dL_makes_13 rfl ?_
  refine V_istore_3 dL_makes_14 rfl ?_
  refine V_mono (c2 := 0 + 157 * 5 + 115 * 3 + 39 * 7 + 39 * m) (s2 := 0 + 13196 * 5 + 11002 * 3 + 2105 * 7 + 2105 * m) (by omega) (by omega) ?_
  refine c_mk1 (H0 := H) (g0 := g) hm8 m 0 S0 [] K H g (by omega) hR (by decide) INV0 rfl rfl rfl rfl Ext.rf (fun S1 ea1 K1 H1 g1 hR1 hea1 hI1 hn1 hcs1 hps1 hnx1 E1 => ?_)
  refine V_iconst (v := 0) dL_makes_36 rfl ?_
  refine V_istore_3 dL_makes_37 rfl ?_
  refine c_mk2 (H0 := H) (g0 := g) hm8 hm2 7 0 S1 ea1 K1 H1 g1 (by omega) hR1 (hs.fr E1 (by decide)) hea1 (hI1.mono (by omega)) hn1 hcs1 hps1 hnx1 E1 (fun S2 ea2 K2 H2 g2 hR2 hs2 hea2 hI2 hn2 hcs2 hps2 hnx2 E2 => ?_)
  refine V_iconst (v := 0) dL_makes_124 rfl ?_
  refine V_istore_3 dL_makes_125 rfl ?_
  refine c_mk3 (H0 := H) (g0 := g) 3 0 S2 ea2 wd K2 H2 g2 (by omega) hR2 hs2 hea2 hI2 hn2 hcs2 (by rw [hps2]; rfl) hnx2 E2 (fun S3 ea3 wd3 K3 H3 g3 hR3 hs3 hea3 hI3 hn3 hcs3 hps3 hnx3 E3 => ?_)
  refine V_iconst (v := 0) dL_makes_171 rfl ?_
  refine V_istore_3 dL_makes_172 rfl ?_
  refine c_mk4 (H0 := H) (g0 := g) hm8 hm2 5 0 S3 ea3 wd3 K3 H3 g3 (by omega) hR3 hs3 hea3 hI3 hn3 (by rw [hcs3]; rfl) (by rw [hcs3]; exact fun x hx => absurd hx List.not_mem_nil) (by omega) hnx3 E3 (fun S4 ea4 wd4 K4 H4 g4 hR4 hs4 hea4 hI4 hn4 hcl4 hid4 hps4 hnx4 E4 => ?_)
  refine V_iconst (v := 1) dL_makes_289 rfl ?_
  exact V_retb true dL_makes_290 rfl rfl (kk m S4 ea4 wd4 K4 H4 g4 hm2 hm8 hR4 hea4 hI4 hn4 hcl4 hps4 E4)

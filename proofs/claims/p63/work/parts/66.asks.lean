theorem suL_r {k0 : Nat} {S : StC} (h : INV k0 S) : ∀ (k s i : Nat), i + k ≤ S.2.2.1.length → s + 99 * k < 2 ^ 20 → ∃ t : Nat, t ≤ s + 99 * k ∧ suL S.2.2.1 k (nI s) (nI i) = nI t := by
  have h12 := h.2.2.1
  intro k
  induction k with
  | zero => intro s i h1 h2; exact ⟨s, by omega, rfl⟩
  | succ k ih =>
    intro s i h1 h2
    have hi : ¬ nI S.2.2.1.length ≤ nI i := fun z => absurd ((nI_le_iff (by omega) (by omega)).mp z) (by omega)
    rw [suL, if_neg hi]
    obtain ⟨v, v1, v2, v3⟩ := (h.cas ⟨nI_pos (by omega), hi⟩).1.2.1
    rw [v3, nI_a, nI_s]
    obtain ⟨t, t1, t2⟩ := ih (s + v) (i + 1) (by omega) (by omega)
    exact ⟨t, by omega, t2⟩
theorem ruL_r {cs : List CaseC} : ∀ (k s : Nat) (i : Int32), s + k < 2 ^ 20 → ∃ t : Nat, t ≤ s + k ∧ ruL cs k (nI s) i = nI t := by
  intro k
  induction k with
  | zero => intro s i h2; exact ⟨s, by omega, rfl⟩
  | succ k ih =>
    intro s i h2
    rw [ruL]
    split
    · exact ⟨s, by omega, rfl⟩
    · split
      · rw [nI_s]
        obtain ⟨t, t1, t2⟩ := ih (s + 1) (i + 1) (by omega)
        exact ⟨t, by omega, t2⟩
      · obtain ⟨t, t1, t2⟩ := ih s (i + 1) (by omega)
        exact ⟨t, by omega, t2⟩
theorem meaV_ok {k : Nat} {S : StC} (h : INV k S) (h0 : ¬ nI S.2.2.1.length = 0) : fpOK (meaV S) = true := by
  have h12 := h.2.2.1
  obtain ⟨t, t1, t2⟩ := suL_r h S.2.2.1.length 0 0 (by omega) (by omega)
  have t2' : suL S.2.2.1 S.2.2.1.length 0 0 = nI t := t2
  rw [meaV, nI_nat (by omega), t2']
  rcases meaE t (by omega) S.2.2.1.length (by omega) with e | e
  · exact absurd (by rw [e]; rfl) h0
  · exact e
theorem shaV_ok {k : Nat} {S : StC} (h : INV k S) (h0 : ¬ nI S.2.2.1.length = 0) : fpOK2 (shaV S) = true := by
  have h12 := h.2.2.1
  obtain ⟨t, t1, t2⟩ := ruL_r (cs := S.2.2.1) S.2.2.1.length 0 0 (by omega)
  have t2' : ruL S.2.2.1 S.2.2.1.length 0 0 = nI t := t2
  rw [shaV, nI_nat (by omega), t2']
  rcases shaE t (by omega) S.2.2.1.length (by omega) with e | e
  · exact absurd (by rw [e]; rfl) h0
  · exact e
theorem fpOK_1 {x : UInt64} (h : fpOK x = true) : vf_n64 x ∧ Op.cmpValue (FP.dcmp x x) .l = 0 := by
  unfold fpOK at h
  rw [Bool.and_eq_true] at h
  exact ⟨of_decide_eq_true (p := x &&& 0x7fffffffffffffff ≤ 0x7ff0000000000000) h.1, of_decide_eq_true h.2⟩
theorem fpOK2_1 {x : UInt32} (h : fpOK2 x = true) : vf_n32 x ∧ Op.cmpValue (FP.fcmp x x) .l = 0 := by
  unfold fpOK2 at h
  rw [Bool.and_eq_true] at h
  exact ⟨of_decide_eq_true (p := x &&& 0x7fffffff ≤ 0x7f800000) h.1, of_decide_eq_true h.2⟩
theorem vMea_c {k : Nat} {S : StC} (h : INV k S) : Op.cmpValue (FP.dcmp (vMea S) (vMea S)) .l = 0 := by
  unfold vMea
  split
  · decide +kernel
  · rename_i h0
    exact (fpOK_1 (meaV_ok h h0)).2
theorem vSha_c {k : Nat} {S : StC} (h : INV k S) : Op.cmpValue (FP.fcmp (vSha S) (vSha S)) .l = 0 := by
  unfold vSha
  split
  · decide +kernel
  · rename_i h0
    exact (fpOK2_1 (shaV_ok h h0)).2
theorem posOfL_at {cs : List CaseC} (h12 : cs.length < 2 ^ 20) : ∀ (k i j : Nat), i ≤ j → j < cs.length → cs.length ≤ i + k → ∃ p : Nat, p < cs.length ∧ posOfL cs (cId (gC cs (nI j))) k (nI i) = nI p := by
  intro k
  induction k with
  | zero => intro i j h1 h2 h3; omega
  | succ k ih =>
    intro i j h1 h2 h3
    rw [posOfL, if_neg (fun z => absurd ((nI_le_iff (by omega) (by omega)).mp z) (by omega))]
    by_cases e : cId (gC cs (nI i)) = cId (gC cs (nI j))
    · rw [if_pos e]; exact ⟨i, by omega, rfl⟩
    · rw [if_neg e, nI_s]
      have hij : i ≠ j := fun z => e (by rw [z])
      exact ih (i + 1) j (by omega) h2 (by omega)
theorem hasC_at {cs : List CaseC} (h12 : cs.length < 2 ^ 20) {j : Nat} (hj : j < cs.length) : hasC cs (cId (gC cs (nI j))) := by
  obtain ⟨p, p1, p2⟩ := posOfL_at h12 cs.length 0 j (by omega) hj (by omega)
  have e : posOf cs (cId (gC cs (nI j))) = nI p := by rw [posOf, nI_nat (by omega)]; exact p2
  unfold hasC
  rw [e]
  exact ⟨nI_pos (by omega), fun z => absurd ((nI_le_iff (by omega) (by omega)).mp z) (by omega)⟩
theorem INV.the {k : Nat} {S : StC} (h : INV k S) {x : Int32} (hh : hasC S.2.2.1 x) : casI k (theC S.2.2.1 x) := (h.cas hh).1
-- what asks answers
def outL (u : List Int32) : Nat → Nat → Int64 → Int64
  | 0, _, s => s
  | k + 1, j, s => outL u k (j + 1) (31 * s + (vOut u (nI j)).toInt64)
def butL (S : StC) : Nat → Nat → Int64 → Int64
  | 0, _, s => s
  | k + 1, j, s => butL S k (j + 1) (31 * outL (rbV S (nI j)) (rbV S (nI j)).length 0 s + (vByB S (nI j)).toInt64)
def preL (S : StC) : Nat → Nat → Int64 → Int64
  | 0, _, s => s
  | k + 1, j, s => preL S k (j + 1) (31 * s + (vPPc S (nI j)).toInt64)
def casV (S : StC) (j : Nat) (id : Int32) (s : Int64) : Int64 := 31 * (31 * (31 * (31 * outL (rcV (theC S.2.2.1 id)) (rcV (theC S.2.2.1 id)).length 0 s + (vByC S (nI j)).toInt64) + (vNea S id).toInt64) + (vDf cCo S id).toInt64) + (vDf cPc S id).toInt64
def casL (S : StC) : Nat → Nat → Int64 → Int64
  | 0, _, s => s
  | k + 1, j, s => casL S k (j + 1) (casV S j (vCAt S (nI j)) s)
def hdr1 (S : StC) : Int64 := 31 * (vMea S).toInt64 + (vSha S).toInt32.toInt64
def hdr2 (S : StC) : Int64 := 31 * (31 * (31 * (31 * (31 * hdr1 S + S.2.2.2.2.1.toInt64) + S.2.2.2.2.2.1.toInt64) + S.2.2.2.2.2.2.1.toInt64) + (nI S.2.2.2.1.length).toInt64) + (docV S).toInt64
def hdr3 (S : StC) : Int64 := 31 * (31 * hdr2 S + (forV S).toInt64) + (traV S).toInt64
def asksV (S : StC) : Int64 := casL S S.2.2.1.length 0 (preL S S.2.2.2.1.length 0 (butL S S.2.2.2.2.1.toNatClampNeg 0 (hdr3 S)))
set_option maxHeartbeats 1000000 in
set_option maxRecDepth 100000 in
theorem c_fOutN {G : GT} {X : String → Heap → Prop} {H : Heap} {g : Nat → Nat} {o : Nat} {R : RgC} {x : Int32} (hR : RG G H g o R) (hx : ∃ j : Nat, j < (rgU R).length ∧ x = nI j) {F : Int32 → Heap → Prop} (kk : F (vOut (rgU R) x) H) : Call G kX12_outputAt 5 0 0 [.ref o, .int x] H (qi F) X := by
  obtain ⟨S, sn, tk, ea, wd, sc, ou, le, lf, K⟩ := R
  refine startL (L0 := [some (.ref o), some (.int x)]) rfl rfl pl_X12_outputAt (Nat.le_of_ble_eq_true rfl) ?_
  have hR0 := hR
  obtain ⟨nw, sp, el, w, s, u, co, dk, se, ho, htk, hnw, hsp, hel, hw, hs, hu, hco, hdk, hse⟩ := hR
  obtain ⟨j, hjl, rfl⟩ := hx
  have hlu := hu.len
  have hjl2 : j < ou.length := hjl
  refine V_iload_1 dX12_outputAt_0 ?_
  refine V_if_lt (tgt := 15) dX12_outputAt_1 (by decide) (fun c_1 => ?_) (fun c_1 => ?_)
  · exact absurd c_1 (nI_pos (by omega))
  · refine V_iload_1 dX12_outputAt_4 ?_
    refine V_aload_0 dX12_outputAt_5 ?_
    refine V_getf dX12_outputAt_6 fl_X12_40 ho.ro rfl ?_
    obtain ⟨fu, hfu⟩ := hu.o
    refine V_call_i (runV0 dX12_outputAt_9 ce_J4_length_8abf5 rfl ml_X12_173 im_J4_length_8abf5 se_J4_length_8abf5 hfu ⟨_, rfl, rfl⟩ (Nat.le_of_ble_eq_true rfl)) (by omega) (by omega) (by omega) (c_soLen hu ?_)
    refine V_icmp_lt (tgt := 26) dX12_outputAt_12 (by decide) (fun c_12 => ?_) (fun c_12 => ?_)
    · refine V_aload_0 dX12_outputAt_26 ?_
      refine V_getf dX12_outputAt_27 fl_X12_40 ho.ro rfl ?_
      refine V_iload_1 dX12_outputAt_30 ?_
      refine V_call_i (runV1 dX12_outputAt_31 ce_J4_charAt_5068e rfl ml_X12_375 im_J4_charAt_5068e se_J4_charAt_5068e hfu ⟨_, rfl, rfl⟩ (Nat.le_of_ble_eq_true rfl)) (by omega) (by omega) (by omega) (c_soChar hu hjl2 ?_)
      have hv : vOut ou (nI j) = ou.getD j 0 := by rw [vOut, if_pos ⟨nI_pos (by omega), fun z => absurd ((nI_le_iff (by omega) (by omega)).mp z) (by omega)⟩, nI_nat (by omega)]
      exact V_retz dX12_outputAt_34 rfl (chr_n (asc_at hu.asc j)) rfl (by have h : F (vOut ou (nI j)) H := kk; rw [hv] at h; exact h)
    · exact absurd ((nI_ltI (by omega) (by omega)).mpr hjl2) c_12
set_option maxHeartbeats 1000000 in
set_option maxRecDepth 100000 in
theorem c_lOutN {G : GT} {X : String → Heap → Prop} {H : Heap} {g : Nat → Nat} {o : Nat} {R : RgC} {x : Int32} (hR : RG G H g o R) (hx : ∃ j : Nat, j < (rgU R).length ∧ x = nI j) {F : Int32 → Heap → Prop} (kk : F (vOut (rgU R) x) H) : Call G kL_outputAt 6 0 0 [.ref o, .int x] H (qi F) X := by
  refine startLH (L0 := [some (.ref o), some (.int x), none]) rfl rfl pl_L_outputAt (Nat.le_of_ble_eq_true rfl) ?_
  obtain ⟨fo, hfo⟩ := hR.o
  refine V_aload_0 dL_outputAt_0 ?_
  refine V_iload_1 dL_outputAt_1 ?_
  refine V_call_i (runV1 dL_outputAt_2 ce_X12_outputAt rfl ml_L_145 im_X12_outputAt se_X12_outputAt hfo ⟨_, rfl, rfl⟩ (Nat.le_of_ble_eq_true rfl)) (by omega) (by omega) (by omega) (c_fOutN hR hx ?_)
  · exact V_reti dL_outputAt_5 rfl rfl (kk)
set_option maxHeartbeats 1000000 in
set_option maxRecDepth 100000 in
theorem c_aO1 {G : GT} {Q : Option Value → Heap → Prop} {X : String → Heap → Prop} {H : Heap} {g : Nat → Nat} {o : Nat} {S sn : StC} {tk : Int32} {ea : List StC} {wd sc : List Int32} {le lf : Int32} {u : List Int32} {K : ScC} {n i : Int32} {cc ss : Nat} (hR : RG G H g o (S, sn, tk, ea, wd, sc, u, le, lf, K)) : ∀ (k j : Nat) (s : Int64), u.length = j + k → V G kL_asks 10 cc ss Q X 144 [some (.ref o), some (.int n), some (.long (outL u k j s)), none, some (.int i), some (.int (nI u.length)), some (.int (nI u.length)), none] [] H → V G kL_asks 10 cc ss Q X 117 [some (.ref o), some (.int n), some (.long s), none, some (.int i), some (.int (nI u.length)), some (.int (nI j)), none] [] H := by
  intro k
  induction k with
  | zero =>
    intro j s hj kk
    have hul := hR.uLen
    have hul2 : u.length ≤ 142 := hul
    refine V_iload_6 dL_asks_117 ?_
    refine V_iload_5 dL_asks_119 ?_
    have hjl : j = u.length := by omega
    subst hjl
    refine V_icmp_ge (tgt := 144) dL_asks_121 (by decide) (fun c_121 => ?_) (fun c_121 => ?_)
    · exact kk
    · exact absurd (Int32.le_refl _) c_121
  | succ k ih =>
    intro j s hj kk
    have hul := hR.uLen
    have hul2 : u.length ≤ 142 := hul
    refine V_iload_6 dL_asks_117 ?_
    refine V_iload_5 dL_asks_119 ?_
    refine V_icmp_ge (tgt := 144) dL_asks_121 (by decide) (fun c_121 => ?_) (fun c_121 => ?_)
    · exact absurd c_121 (fun z => absurd ((nI_le_iff (by omega) (by omega)).mp z) (by omega))
    · refine V_ldc2l dL_asks_124 cn_L_249 ?_
      refine V_lload_2 dL_asks_127 ?_
      refine V_lmul dL_asks_128 ?_
      refine V_aload_0 dL_asks_129 ?_
      refine V_iload_6 dL_asks_130 ?_
      refine V_call_i (runSX2 dL_asks_132 ce_L_outputAt rfl ml_L_202 st_L_outputAt (Nat.le_of_ble_eq_true rfl)) (by omega) (by omega) (by omega) (c_lOutN (R := (S, sn, tk, ea, wd, sc, u, le, lf, K)) hR ⟨j, by show j < u.length; omega, rfl⟩ ?_)
      refine V_i2l dL_asks_135 ?_
      refine V_ladd dL_asks_136 ?_
      refine V_lstore_2 dL_asks_137 rfl ?_
      refine V_iinc_6 (v := 1) dL_asks_138 rfl rfl ?_
      refine V_goto (tgt := 117) dL_asks_141 (by decide) ?_
      rw [nI_s]
      exact ih (j + 1) _ (by omega) kk
set_option maxHeartbeats 1000000 in
set_option maxRecDepth 100000 in
theorem c_aO2 {G : GT} {Q : Option Value → Heap → Prop} {X : String → Heap → Prop} {H : Heap} {g : Nat → Nat} {o : Nat} {S sn : StC} {tk : Int32} {ea : List StC} {wd sc : List Int32} {le lf : Int32} {u : List Int32} {K : ScC} {n i id : Int32} {cc ss : Nat} (hR : RG G H g o (S, sn, tk, ea, wd, sc, u, le, lf, K)) : ∀ (k j : Nat) (s : Int64), u.length = j + k → V G kL_asks 10 cc ss Q X 254 [some (.ref o), some (.int n), some (.long (outL u k j s)), none, some (.int i), some (.int id), some (.int (nI u.length)), some (.int (nI u.length))] [] H → V G kL_asks 10 cc ss Q X 227 [some (.ref o), some (.int n), some (.long s), none, some (.int i), some (.int id), some (.int (nI u.length)), some (.int (nI j))] [] H := by
  intro k
  induction k with
  | zero =>
    intro j s hj kk
    have hul := hR.uLen
    have hul2 : u.length ≤ 142 := hul
    refine V_iload_7 dL_asks_227 ?_
    refine V_iload_6 dL_asks_229 ?_
    have hjl : j = u.length := by omega
    subst hjl
    refine V_icmp_ge (tgt := 254) dL_asks_231 (by decide) (fun c_231 => ?_) (fun c_231 => ?_)
    · exact kk
    · exact absurd (Int32.le_refl _) c_231
  | succ k ih =>
    intro j s hj kk
    have hul := hR.uLen
    have hul2 : u.length ≤ 142 := hul
    refine V_iload_7 dL_asks_227 ?_
    refine V_iload_6 dL_asks_229 ?_
    refine V_icmp_ge (tgt := 254) dL_asks_231 (by decide) (fun c_231 => ?_) (fun c_231 => ?_)
    · exact absurd c_231 (fun z => absurd ((nI_le_iff (by omega) (by omega)).mp z) (by omega))
    · refine V_ldc2l dL_asks_234 cn_L_249 ?_
      refine V_lload_2 dL_asks_237 ?_
      refine V_lmul dL_asks_238 ?_
      refine V_aload_0 dL_asks_239 ?_
      refine V_iload_7 dL_asks_240 ?_
      refine V_call_i (runSX2 dL_asks_242 ce_L_outputAt rfl ml_L_202 st_L_outputAt (Nat.le_of_ble_eq_true rfl)) (by omega) (by omega) (by omega) (c_lOutN (R := (S, sn, tk, ea, wd, sc, u, le, lf, K)) hR ⟨j, by show j < u.length; omega, rfl⟩ ?_)
      refine V_i2l dL_asks_245 ?_
      refine V_ladd dL_asks_246 ?_
      refine V_lstore_2 dL_asks_247 rfl ?_
      refine V_iinc_7 (v := 1) dL_asks_248 rfl rfl ?_
      refine V_goto (tgt := 227) dL_asks_251 (by decide) ?_
      rw [nI_s]
      exact ih (j + 1) _ (by omega) kk
set_option maxHeartbeats 1000000 in
set_option maxRecDepth 100000 in
theorem c_aB {G : GT} {Q : Option Value → Heap → Prop} {X : String → Heap → Prop} {H0 : Heap} {g0 : Nat → Nat} {o k0 : Nat} {S sn : StC} {tk : Int32} {ea : List StC} {wd sc : List Int32} {le lf : Int32} (hI : INV k0 S) {m : Nat} (hm : m ≤ 8) (hn : S.2.2.2.2.1 = nI m) {cc ss : Nat} : ∀ (k j : Nat) (s : Int64) (u : List Int32) (K : ScC) (H : Heap) (g : Nat → Nat), m = j + k → RG G H g o (S, sn, tk, ea, wd, sc, u, le, lf, K) → Ext G tsA H0 g0 H g → (∀ (u2 : List Int32) (K2 : ScC) (H1 : Heap) (g1 : Nat → Nat), RG G H1 g1 o (S, sn, tk, ea, wd, sc, u2, le, lf, K2) → Ext G tsA H0 g0 H1 g1 → V G kL_asks 10 cc ss Q X 164 [some (.ref o), some (.int (S.2.2.2.2.1)), some (.long (butL S k j s)), none, some (.int (nI m)), none, none, none] [] H1) → V G kL_asks 10 (cc + 38 * k) (ss + 10308 * k) Q X 100 [some (.ref o), some (.int (S.2.2.2.2.1)), some (.long (s)), none, some (.int (nI j)), none, none, none] [] H := by
  intro k
  induction k with
  | zero =>
    intro j s u K H g hj hR E kk
    refine V_iload_4 dL_asks_100 ?_
    refine V_iload_1 dL_asks_102 ?_
    have hjl : j = m := by omega
    subst hjl
    refine V_icmp_ge (tgt := 164) dL_asks_103 (by decide) (fun c_103 => ?_) (fun c_103 => ?_)
    · exact kk u K H g hR E
    · exact absurd (by rw [hn]; exact Int32.le_refl _) c_103
  | succ k ih =>
    intro j s u K H g hj hR E kk
    refine V_iload_4 dL_asks_100 ?_
    refine V_iload_1 dL_asks_102 ?_
    refine V_icmp_ge (tgt := 164) dL_asks_103 (by decide) (fun c_103 => ?_) (fun c_103 => ?_)
    · exact absurd c_103 (by rw [hn]; exact fun z => absurd ((nI_le_iff (by omega) (by omega)).mp z) (by omega))
    · have hb : hasB S.2.2.2.2.1 (nI j) = true := decide_eq_true (p := ¬ nI j < 0 ∧ ¬ S.2.2.2.2.1 ≤ nI j) ⟨nI_pos (by omega), c_103⟩
      refine V_aload_0 dL_asks_106 ?_
      refine V_iload_4 dL_asks_107 ?_
      refine V_call_i (runSX2 dL_asks_109 ce_L_renderBonds rfl ml_L_287 st_L_renderBonds (Nat.le_of_ble_eq_true rfl)) (by omega) (by omega) (by omega) (c_lRBo (R := (S, sn, tk, ea, wd, sc, u, le, lf, K)) hR hI.2.1 ⟨m, hm, hn⟩ (fun hb2 H1 g1 hR1 e1 => ?_) (fun hb2 => absurd (hb.symm.trans hb2) (by decide)))
      refine V_istore_5 dL_asks_112 rfl ?_
      refine V_iconst (v := 0) dL_asks_114 rfl ?_
      refine V_istore_6 dL_asks_115 rfl ?_
      refine c_aO1 (u := rbV S (nI j)) (K := K) hR1 (rbV S (nI j)).length 0 _ (by omega) ?_
      refine V_ldc2l dL_asks_144 cn_L_249 ?_
      refine V_lload_2 dL_asks_147 ?_
      refine V_lmul dL_asks_148 ?_
      refine V_aload_0 dL_asks_149 ?_
      refine V_iload_4 dL_asks_150 ?_
      refine V_call_i (runSX2 dL_asks_152 ce_L_byBalance rfl ml_L_289 st_L_byBalance (Nat.le_of_ble_eq_true rfl)) (by omega) (by omega) (by omega) (c_lByB (R := (S, sn, tk, ea, wd, sc, rbV S (nI j), le, lf, K)) hR1 fun H2 g2 hR2 e2 => ?_)
      refine V_i2l dL_asks_155 ?_
      refine V_ladd dL_asks_156 ?_
      refine V_lstore_2 dL_asks_157 rfl ?_
      refine V_iinc_4 (v := 1) dL_asks_158 rfl rfl ?_
      refine V_goto (tgt := 100) dL_asks_161 (by decide) ?_
      refine V_drop 5 rfl ?_
      refine V_drop 6 rfl ?_
      rw [nI_s]
      exact V_mono (c2 := cc + 38 * k) (s2 := ss + 10308 * k) (by omega) (by omega) (ih (j + 1) _ _ K H2 g2 (by omega) hR2 ((E.trans e1).trans e2) kk)
set_option maxHeartbeats 1000000 in
set_option maxRecDepth 100000 in
theorem c_aP {G : GT} {Q : Option Value → Heap → Prop} {X : String → Heap → Prop} {H0 : Heap} {g0 : Nat → Nat} {o k0 : Nat} {S sn : StC} {tk : Int32} {ea : List StC} {wd sc : List Int32} {le lf : Int32} (hI : INV k0 S) {n : Int32} {cc ss : Nat} : ∀ (k j : Nat) (s : Int64) (u : List Int32) (K : ScC) (H : Heap) (g : Nat → Nat), S.2.2.2.1.length = j + k → RG G H g o (S, sn, tk, ea, wd, sc, u, le, lf, K) → Ext G tsA H0 g0 H g → (∀ (u2 : List Int32) (K2 : ScC) (H1 : Heap) (g1 : Nat → Nat), RG G H1 g1 o (S, sn, tk, ea, wd, sc, u2, le, lf, K2) → Ext G tsA H0 g0 H1 g1 → V G kL_asks 10 cc ss Q X 196 [some (.ref o), some (.int (n)), some (.long (preL S k j s)), none, some (.int (nI S.2.2.2.1.length)), none, none, none] [] H1) → V G kL_asks 10 (cc + 1 * k) (ss + 6 * k) Q X 167 [some (.ref o), some (.int (n)), some (.long (s)), none, some (.int (nI j)), none, none, none] [] H := by
  intro k
  induction k with
  | zero =>
    intro j s u K H g hj hR E kk
    refine V_iload_4 dL_asks_167 ?_
    refine V_aload_0 dL_asks_169 ?_
    obtain ⟨fo, hfo⟩ := hR.o
    have h20 := hI.2.2.2.2.1
    refine V_call_i (runV0 dL_asks_170 ce_X12_precedentCount rfl ml_L_275 im_X12_precedentCount se_X12_precedentCount hfo ⟨_, rfl, rfl⟩ (Nat.le_of_ble_eq_true rfl)) (by omega) (by omega) (by omega) (c_fPre (R := (S, sn, tk, ea, wd, sc, u, le, lf, K)) hR ?_)
    have hjl : j = S.2.2.2.1.length := by omega
    subst hjl
    refine V_icmp_ge (tgt := 196) dL_asks_173 (by decide) (fun c_173 => ?_) (fun c_173 => ?_)
    · exact kk u K H g hR E
    · exact absurd (Int32.le_refl _) c_173
  | succ k ih =>
    intro j s u K H g hj hR E kk
    refine V_iload_4 dL_asks_167 ?_
    refine V_aload_0 dL_asks_169 ?_
    obtain ⟨fo, hfo⟩ := hR.o
    have h20 := hI.2.2.2.2.1
    refine V_call_i (runV0 dL_asks_170 ce_X12_precedentCount rfl ml_L_275 im_X12_precedentCount se_X12_precedentCount hfo ⟨_, rfl, rfl⟩ (Nat.le_of_ble_eq_true rfl)) (by omega) (by omega) (by omega) (c_fPre (R := (S, sn, tk, ea, wd, sc, u, le, lf, K)) hR ?_)
    refine V_icmp_ge (tgt := 196) dL_asks_173 (by decide) (fun c_173 => ?_) (fun c_173 => ?_)
    · exact absurd c_173 (fun z => absurd ((nI_le_iff (a := S.2.2.2.1.length) (b := j) (by omega) (by omega)).mp z) (by omega))
    · refine V_ldc2l dL_asks_176 cn_L_249 ?_
      refine V_lload_2 dL_asks_179 ?_
      refine V_lmul dL_asks_180 ?_
      refine V_aload_0 dL_asks_181 ?_
      refine V_iload_4 dL_asks_182 ?_
      refine V_call_i (runSX2 dL_asks_184 ce_L_percent rfl ml_L_292 st_L_percent (Nat.le_of_ble_eq_true rfl)) (by omega) (by omega) (by omega) (c_lPPc (R := (S, sn, tk, ea, wd, sc, u, le, lf, K)) hR fun H2 g2 hR2 e2 => ?_)
      refine V_i2l dL_asks_187 ?_
      refine V_ladd dL_asks_188 ?_
      refine V_lstore_2 dL_asks_189 rfl ?_
      refine V_iinc_4 (v := 1) dL_asks_190 rfl rfl ?_
      refine V_goto (tgt := 167) dL_asks_193 (by decide) ?_
      rw [nI_s]
      exact V_mono (c2 := cc + 1 * k) (s2 := ss + 6 * k) (by omega) (by omega) (ih (j + 1) _ _ K H2 g2 (by omega) hR2 (E.trans e2) kk)
set_option maxHeartbeats 1000000 in
set_option maxRecDepth 100000 in
theorem c_aC {G : GT} {Q : Option Value → Heap → Prop} {X : String → Heap → Prop} {H0 : Heap} {g0 : Nat → Nat} {o k0 : Nat} {S sn : StC} {tk : Int32} {ea : List StC} {wd sc : List Int32} {le lf : Int32} (hI : INV k0 S) {n : Int32} {cc ss : Nat} : ∀ (k j : Nat) (s : Int64) (u : List Int32) (K : ScC) (H : Heap) (g : Nat → Nat), S.2.2.1.length = j + k → RG G H g o (S, sn, tk, ea, wd, sc, u, le, lf, K) → Ext G tsA H0 g0 H g → (∀ (u2 : List Int32) (K2 : ScC) (H1 : Heap) (g1 : Nat → Nat), RG G H1 g1 o (S, sn, tk, ea, wd, sc, u2, le, lf, K2) → Ext G tsA H0 g0 H1 g1 → V G kL_asks 10 cc ss Q X 310 [some (.ref o), some (.int (n)), some (.long (casL S k j s)), none, some (.int (nI S.2.2.1.length)), none, none, none] [] H1) → V G kL_asks 10 (cc + 26 * k) (ss + 4926 * k) Q X 199 [some (.ref o), some (.int (n)), some (.long (s)), none, some (.int (nI j)), none, none, none] [] H := by
  intro k
  induction k with
  | zero =>
    intro j s u K H g hj hR E kk
    refine V_iload_4 dL_asks_199 ?_
    refine V_aload_0 dL_asks_201 ?_
    obtain ⟨fo, hfo⟩ := hR.o
    have h12 := hI.2.2.1
    refine V_call_i (runV0 dL_asks_202 ce_X12_caseCount rfl ml_L_295 im_X12_caseCount se_X12_caseCount hfo ⟨_, rfl, rfl⟩ (Nat.le_of_ble_eq_true rfl)) (by omega) (by omega) (by omega) (c_fCas (R := (S, sn, tk, ea, wd, sc, u, le, lf, K)) hR ?_)
    have hjl : j = S.2.2.1.length := by omega
    subst hjl
    refine V_icmp_ge (tgt := 310) dL_asks_205 (by decide) (fun c_205 => ?_) (fun c_205 => ?_)
    · exact kk u K H g hR E
    · exact absurd (Int32.le_refl _) c_205
  | succ k ih =>
    intro j s u K H g hj hR E kk
    refine V_iload_4 dL_asks_199 ?_
    refine V_aload_0 dL_asks_201 ?_
    obtain ⟨fo, hfo⟩ := hR.o
    have h12 := hI.2.2.1
    refine V_call_i (runV0 dL_asks_202 ce_X12_caseCount rfl ml_L_295 im_X12_caseCount se_X12_caseCount hfo ⟨_, rfl, rfl⟩ (Nat.le_of_ble_eq_true rfl)) (by omega) (by omega) (by omega) (c_fCas (R := (S, sn, tk, ea, wd, sc, u, le, lf, K)) hR ?_)
    refine V_icmp_ge (tgt := 310) dL_asks_205 (by decide) (fun c_205 => ?_) (fun c_205 => ?_)
    · exact absurd c_205 (fun z => absurd ((nI_le_iff (a := S.2.2.1.length) (b := j) (by omega) (by omega)).mp z) (by omega))
    · refine V_aload_0 dL_asks_208 ?_
      refine V_iload_4 dL_asks_209 ?_
      refine V_call_i (runSX2 dL_asks_211 ce_L_caseAt rfl ml_L_298 st_L_caseAt (Nat.le_of_ble_eq_true rfl)) (by omega) (by omega) (by omega) (c_lCAt (R := (S, sn, tk, ea, wd, sc, u, le, lf, K)) hR fun H1 g1 hR1 e1 => ?_)
      have hid : vCAt S (nI j) = cId (gC S.2.2.1 (nI j)) := by rw [vCAt, if_pos ⟨nI_pos (by omega), c_205⟩]
      have hC : hasC S.2.2.1 (vCAt S (nI j)) := by rw [hid]; exact hasC_at (by omega) (by omega)
      have hcI := hI.the hC
      rw [casL] at kk
      generalize vCAt S (nI j) = id at *
      have hst : 0 ≤ cSd (theC S.2.2.1 id) ∧ cSd (theC S.2.2.1 id) < 128 := by rcases hcI.2.2.2.2.1 with e | e | e <;> rw [e] <;> decide
      refine V_istore_5 dL_asks_214 rfl ?_
      refine V_aload_0 dL_asks_216 ?_
      refine V_iload_5 dL_asks_217 ?_
      have hm8 : (cMt (theC S.2.2.1 id)).length ≤ 8 := hcI.2.2.2.1
      clear hcI
      have q1 : hasC ((S, sn, tk, ea, wd, sc, u, le, lf, K)).1.2.2.1 id → (cMt (theC ((S, sn, tk, ea, wd, sc, u, le, lf, K)).1.2.2.1 id)).length ≤ 8 := fun _ => hm8
      have q2 : hasC ((S, sn, tk, ea, wd, sc, u, le, lf, K)).1.2.2.1 id → 0 ≤ cSd (theC ((S, sn, tk, ea, wd, sc, u, le, lf, K)).1.2.2.1 id) ∧ cSd (theC ((S, sn, tk, ea, wd, sc, u, le, lf, K)).1.2.2.1 id) < 128 := fun _ => hst
      refine V_call_i (runSX2 dL_asks_219 ce_L_renderCase rfl ml_L_300 st_L_renderCase (Nat.le_of_ble_eq_true rfl)) (by omega) (by omega) (by omega) (c_lRCa (R := (S, sn, tk, ea, wd, sc, u, le, lf, K)) hR1 q1 q2 (fun _ H2 g2 hR2 e2 => ?_) (fun hn => absurd hC hn))
      refine V_istore_6 dL_asks_222 rfl ?_
      refine V_iconst (v := 0) dL_asks_224 rfl ?_
      refine V_istore_7 dL_asks_225 rfl ?_
      refine c_aO2 (u := rcV (theC S.2.2.1 id)) (K := K) hR2 (rcV (theC S.2.2.1 id)).length 0 _ (by omega) ?_
      refine V_ldc2l dL_asks_254 cn_L_249 ?_
      refine V_ldc2l dL_asks_257 cn_L_249 ?_
      refine V_ldc2l dL_asks_260 cn_L_249 ?_
      refine V_ldc2l dL_asks_263 cn_L_249 ?_
      refine V_lload_2 dL_asks_266 ?_
      refine V_lmul dL_asks_267 ?_
      refine V_aload_0 dL_asks_268 ?_
      refine V_iload_4 dL_asks_269 ?_
      refine V_call_i (runSX2 dL_asks_271 ce_L_byClaim rfl ml_L_302 st_L_byClaim (Nat.le_of_ble_eq_true rfl)) (by omega) (by omega) (by omega) (c_lByC (R := (S, sn, tk, ea, wd, sc, rcV (theC S.2.2.1 id), le, lf, K)) hR2 fun H3 g3 hR3 e3 => ?_)
      refine V_i2l dL_asks_274 ?_
      refine V_ladd dL_asks_275 ?_
      refine V_lmul dL_asks_276 ?_
      refine V_aload_0 dL_asks_277 ?_
      refine V_iload_5 dL_asks_278 ?_
      refine V_call_i (runSX2 dL_asks_280 ce_L_nearest rfl ml_L_305 st_L_nearest (Nat.le_of_ble_eq_true rfl)) (by omega) (by omega) (by omega) (c_lNea (R := (S, sn, tk, ea, wd, sc, rcV (theC S.2.2.1 id), le, lf, K)) hR3 (fun _ => hm8) (fun i => (hI.prc i).1) fun K4 H4 g4 hR4 e4 => ?_)
      refine V_i2l dL_asks_283 ?_
      refine V_ladd dL_asks_284 ?_
      refine V_lmul dL_asks_285 ?_
      refine V_aload_0 dL_asks_286 ?_
      refine V_iload_5 dL_asks_287 ?_
      refine V_call_i (runSX2 dL_asks_289 ce_L_cost rfl ml_L_308 st_L_cost (Nat.le_of_ble_eq_true rfl)) (by omega) (by omega) (by omega) (c_lCst (R := (S, sn, tk, ea, wd, sc, rcV (theC S.2.2.1 id), le, lf, K4)) hR4 fun H5 g5 hR5 e5 => ?_)
      refine V_i2l dL_asks_292 ?_
      refine V_ladd dL_asks_293 ?_
      refine V_lmul dL_asks_294 ?_
      refine V_aload_0 dL_asks_295 ?_
      refine V_iload_5 dL_asks_296 ?_
      refine V_call_i (runSX2 dL_asks_298 ce_L_percentage rfl ml_L_310 st_L_percentage (Nat.le_of_ble_eq_true rfl)) (by omega) (by omega) (by omega) (c_lPct (R := (S, sn, tk, ea, wd, sc, rcV (theC S.2.2.1 id), le, lf, K4)) hR5 fun H6 g6 hR6 e6 => ?_)
      refine V_i2l dL_asks_301 ?_
      refine V_ladd dL_asks_302 ?_
      refine V_lstore_2 dL_asks_303 rfl ?_
      refine V_iinc_4 (v := 1) dL_asks_304 rfl rfl ?_
      refine V_goto (tgt := 199) dL_asks_307 (by decide) ?_
      refine V_drop 5 rfl ?_
      refine V_drop 6 rfl ?_
      refine V_drop 7 rfl ?_
      rw [nI_s]
      exact V_mono (c2 := cc + 26 * k) (s2 := ss + 4926 * k) (by omega) (by omega) (ih (j + 1) _ _ K4 H6 g6 (by omega) hR6 ((((((E.trans e1).trans e2).trans e3).trans e4).trans e5).trans e6) kk)
set_option maxHeartbeats 1000000 in
set_option maxRecDepth 100000 in
theorem c_asks {G : GT} {X : String → Heap → Prop} {H : Heap} {g : Nat → Nat} {o k0 : Nat} {S sn : StC} {tk : Int32} {ea : List StC} {wd sc : List Int32} {le lf : Int32} {u : List Int32} {K : ScC} (hI : INV k0 S) (hR : RG G H g o (S, sn, tk, ea, wd, sc, u, le, lf, K)) {F : Int64 → Heap → Prop} (kk : ∀ (u2 : List Int32) (K2 : ScC) (H1 : Heap) (g1 : Nat → Nat), RG G H1 g1 o (S, sn, tk, ea, wd, sc, u2, le, lf, K2) → Ext G tsA H g H1 g1 → F (asksV S) H1) : Call G kL_asks 10 650 142440 [.ref o] H (ql F) X := by
  obtain ⟨m, hm, hn⟩ := hI.1
  have h12 := hI.2.2.1
  have h20 := hI.2.2.2.2.1
  obtain ⟨fo, hfo⟩ := hR.o
  refine startL (L0 := [some (.ref o), none, none, none, none, none, none, none]) rfl rfl pl_L_asks (Nat.le_of_ble_eq_true rfl) ?_
  refine V_aload_0 dL_asks_0 ?_
  refine V_call_i (runV0 dL_asks_1 ce_X12_buttonCount rfl ml_L_246 im_X12_buttonCount se_X12_buttonCount hfo ⟨_, rfl, rfl⟩ (Nat.le_of_ble_eq_true rfl)) (by omega) (by omega) (by omega) (c_fBut (R := (S, sn, tk, ea, wd, sc, u, le, lf, K)) hR ?_)
  refine V_istore_1 dL_asks_4 rfl ?_
  refine V_ldc2l dL_asks_5 cn_L_249 ?_
  refine V_aload_0 dL_asks_8 ?_
  refine V_call_d (runSX1 dL_asks_9 ce_L_meanClaim rfl ml_L_251 st_L_meanClaim (Nat.le_of_ble_eq_true rfl)) (by omega) (by omega) (by omega) (c_lMea (R := (S, sn, tk, ea, wd, sc, u, le, lf, K)) hR (fun h => (fpOK_1 (meaV_ok hI h)).1) fun H1 g1 hR1 e1 => ?_)
  refine V_call_l (runS1 dL_asks_12 ce_Jxe99ae_doubleToLongBits_ccdee rfl ml_L_254 st_Jxe99ae_doubleToLongBits_ccdee (Nat.le_of_ble_eq_true rfl)) (by omega) (by omega) (by omega) (c_d2l (vMea_c hI) ?_)
  refine V_lmul dL_asks_15 ?_
  refine V_aload_0 dL_asks_16 ?_
  refine V_call_f (runSX1 dL_asks_17 ce_L_ruledShare rfl ml_L_260 st_L_ruledShare (Nat.le_of_ble_eq_true rfl)) (by omega) (by omega) (by omega) (c_lSha (R := (S, sn, tk, ea, wd, sc, u, le, lf, K)) hR1 (fun h => (fpOK2_1 (shaV_ok hI h)).1) fun H2 g2 hR2 e2 => ?_)
  refine V_call_i (runS1 dL_asks_20 ce_Jxf58ca_floatToIntBits_5c35a rfl ml_L_263 st_Jxf58ca_floatToIntBits_5c35a (Nat.le_of_ble_eq_true rfl)) (by omega) (by omega) (by omega) (c_f2i (vSha_c hI) ?_)
  refine V_i2l dL_asks_23 ?_
  refine V_ladd dL_asks_24 ?_
  refine V_lstore_2 dL_asks_25 rfl ?_
  refine V_ldc2l dL_asks_26 cn_L_249 ?_
  refine V_ldc2l dL_asks_29 cn_L_249 ?_
  refine V_ldc2l dL_asks_32 cn_L_249 ?_
  refine V_ldc2l dL_asks_35 cn_L_249 ?_
  refine V_ldc2l dL_asks_38 cn_L_249 ?_
  refine V_lload_2 dL_asks_41 ?_
  refine V_lmul dL_asks_42 ?_
  refine V_iload_1 dL_asks_43 ?_
  refine V_i2l dL_asks_44 ?_
  refine V_ladd dL_asks_45 ?_
  refine V_lmul dL_asks_46 ?_
  refine V_aload_0 dL_asks_47 ?_
  obtain ⟨fo2, hfo2⟩ := hR2.o
  refine V_call_i (runV0 dL_asks_48 ce_X12_chest rfl ml_L_269 im_X12_chest se_X12_chest hfo2 ⟨_, rfl, rfl⟩ (Nat.le_of_ble_eq_true rfl)) (by omega) (by omega) (by omega) (c_fChe (R := (S, sn, tk, ea, wd, sc, u, le, lf, K)) hR2 ?_)
  refine V_i2l dL_asks_51 ?_
  refine V_ladd dL_asks_52 ?_
  refine V_lmul dL_asks_53 ?_
  refine V_aload_0 dL_asks_54 ?_
  refine V_call_i (runV0 dL_asks_55 ce_X12_day rfl ml_L_272 im_X12_day se_X12_day hfo2 ⟨_, rfl, rfl⟩ (Nat.le_of_ble_eq_true rfl)) (by omega) (by omega) (by omega) (c_fDay (R := (S, sn, tk, ea, wd, sc, u, le, lf, K)) hR2 ?_)
  refine V_i2l dL_asks_58 ?_
  refine V_ladd dL_asks_59 ?_
  refine V_lmul dL_asks_60 ?_
  refine V_aload_0 dL_asks_61 ?_
  refine V_call_i (runV0 dL_asks_62 ce_X12_precedentCount rfl ml_L_275 im_X12_precedentCount se_X12_precedentCount hfo2 ⟨_, rfl, rfl⟩ (Nat.le_of_ble_eq_true rfl)) (by omega) (by omega) (by omega) (c_fPre (R := (S, sn, tk, ea, wd, sc, u, le, lf, K)) hR2 ?_)
  refine V_i2l dL_asks_65 ?_
  refine V_ladd dL_asks_66 ?_
  refine V_lmul dL_asks_67 ?_
  refine V_aload_0 dL_asks_68 ?_
  refine V_call_i (runV0 dL_asks_69 ce_X12_bestDocket rfl ml_L_278 im_X12_bestDocket se_X12_bestDocket hfo2 ⟨_, rfl, rfl⟩ (Nat.le_of_ble_eq_true rfl)) (by omega) (by omega) (by omega) (c_fDoc (R := (S, sn, tk, ea, wd, sc, u, le, lf, K)) hR2 h12 fun H3 g3 hR3 e3 => ?_)
  refine V_i2l dL_asks_72 ?_
  refine V_ladd dL_asks_73 ?_
  refine V_lstore_2 dL_asks_74 rfl ?_
  refine V_ldc2l dL_asks_75 cn_L_249 ?_
  refine V_ldc2l dL_asks_78 cn_L_249 ?_
  refine V_lload_2 dL_asks_81 ?_
  refine V_lmul dL_asks_82 ?_
  refine V_aload_0 dL_asks_83 ?_
  obtain ⟨fo3, hfo3⟩ := hR3.o
  refine V_call_i (runV0 dL_asks_84 ce_X12_forestTension rfl ml_L_281 im_X12_forestTension se_X12_forestTension hfo3 ⟨_, rfl, rfl⟩ (Nat.le_of_ble_eq_true rfl)) (by omega) (by omega) (by omega) (c_fFor (R := (S, sn, tk, ea, wd, sc, u, le, lf, K)) hR3 fun K4 H4 g4 hR4 e4 => ?_)
  refine V_i2l dL_asks_87 ?_
  refine V_ladd dL_asks_88 ?_
  refine V_lmul dL_asks_89 ?_
  refine V_aload_0 dL_asks_90 ?_
  obtain ⟨fo4, hfo4⟩ := hR4.o
  refine V_call_i (runV0 dL_asks_91 ce_X12_fewestTransfers rfl ml_L_284 im_X12_fewestTransfers se_X12_fewestTransfers hfo4 ⟨_, rfl, rfl⟩ (Nat.le_of_ble_eq_true rfl)) (by omega) (by omega) (by omega) (c_fTra (R := (S, sn, tk, ea, wd, sc, u, le, lf, K4)) hR4 fun H5 g5 hR5 e5 => ?_)
  refine V_i2l dL_asks_94 ?_
  refine V_ladd dL_asks_95 ?_
  refine V_lstore_2 dL_asks_96 rfl ?_
  refine V_iconst (v := 0) dL_asks_97 rfl ?_
  refine V_istore_4 dL_asks_98 rfl ?_
  have E5 := (((e1.trans e2).trans e3).trans e4).trans e5
  have hmn : S.2.2.2.2.1.toNatClampNeg = m := by rw [hn, nI_nat (by omega)]
  refine V_mono (c2 := 0 + 26 * S.2.2.1.length + 1 * S.2.2.2.1.length + 38 * m) (s2 := 0 + 4926 * S.2.2.1.length + 6 * S.2.2.2.1.length + 10308 * m) (by omega) (by omega) ?_
  refine c_aB (H0 := H) (g0 := g) hI hm hn m 0 (hdr3 S) u K4 H5 g5 (by omega) hR5 E5 (fun u6 K6 H6 g6 hR6 e6 => ?_)
  refine V_iconst (v := 0) dL_asks_164 rfl ?_
  refine V_istore_4 dL_asks_165 rfl ?_
  refine c_aP (H0 := H) (g0 := g) hI S.2.2.2.1.length 0 _ u6 K6 H6 g6 (by omega) hR6 e6 (fun u7 K7 H7 g7 hR7 e7 => ?_)
  refine V_iconst (v := 0) dL_asks_196 rfl ?_
  refine V_istore_4 dL_asks_197 rfl ?_
  refine c_aC (H0 := H) (g0 := g) hI S.2.2.1.length 0 _ u7 K7 H7 g7 (by omega) hR7 e7 (fun u8 K8 H8 g8 hR8 e8 => ?_)
  have hv := kk u8 K8 H8 g8 hR8 e8
  rw [asksV, hmn] at hv
  refine V_lload_2 dL_asks_310 ?_
  exact V_lret dL_asks_311 rfl ⟨_, rfl, hv⟩

-- what a hearing leaves as it is
def fr4 (S T : StC) : Prop := T.2.2.2.2.2.2.2 = S.2.2.2.2.2.2.2 ∧ T.2.2.1.map cId = S.2.2.1.map cId ∧ T.2.2.2.2.1 = S.2.2.2.2.1 ∧ S.2.2.2.1.length ≤ T.2.2.2.1.length
theorem fr4.tr {S T U : StC} (h : fr4 S T) (h2 : fr4 T U) : fr4 S U := ⟨h2.1.trans h.1, h2.2.1.trans h.2.1, h2.2.2.1.trans h.2.2.1, Nat.le_trans h.2.2.2 h2.2.2.2⟩
theorem fr4.rf {S : StC} : fr4 S S := ⟨rfl, rfl, rfl, Nat.le_refl _⟩
theorem addCB_fr {S : StC} {x z : Int32} : fr4 S (addCB S x z) := by
  obtain ⟨bal, ten, cs, ps, n, ch, td, nx⟩ := S
  unfold addCB addC
  split
  · exact fr4.rf
  · split
    · exact fr4.rf
    · exact ⟨rfl, rfl, rfl, Nat.le_refl _⟩
theorem payCB_fr {S : StC} {x z : Int32} : fr4 S (payCB S x z) := by
  have h2 := addCB_fr (S := S) (x := x) (z := -z)
  exact h2
theorem moveAB_fr {S : StC} {c : CaseC} {z : Int32} : fr4 S (moveAB S c z) := (addCB_fr (S := S) (x := cPl c) (z := z)).tr addCB_fr
theorem shareCB_fr {S : StC} {c : CaseC} : fr4 S (shareCB S c) := (payCB_fr (S := S) (x := cPl c) (z := (cCo c * (100 - cPc c)) / 100)).tr payCB_fr
theorem map_setC {cs : List CaseC} {j : Nat} {y : CaseC} (h : cId y = cId (cs.getD j c0)) : (cs.set j y).map cId = cs.map cId := by
  refine List.ext_getElem? fun i => ?_
  rw [List.getElem?_map, List.getElem?_map, List.getElem?_set]
  by_cases e : j = i
  · subst e
    rw [if_pos rfl]
    by_cases hj : j < cs.length
    · rw [if_pos hj, List.getElem?_eq_getElem hj]
      rw [List.getD_eq_getElem?_getD, List.getElem?_eq_getElem hj] at h
      exact congrArg some h
    · rw [if_neg hj, List.getElem?_eq_none (by omega)]
  · rw [if_neg e]
def ok2 (k : Nat) (S : StC) (r : Int32 × StC) : Prop := gud k r ∧ fr4 S r.2
theorem hear2_o {k : Nat} {x pos : Int32} {bal ten : List Int32} {cs : List CaseC} {ps : List PrecC} {n ch td nx : Int32} {gs lf ls lt : List Int32} {y : CaseC} (h : INV k (bal, ten, cs, ps, n, ch, td, nx)) (hy : casI k y) (hid : cId y = cId (gC cs pos)) : ok2 k (bal, ten, cs, ps, n, ch, td, nx) (sta (hearC2 x pos bal ten cs ps n ch td nx gs lf ls lt y)) := by
  refine ⟨hear2_i h hy, ?_⟩
  have h1 : fr4 (bal, ten, cs, ps, n, ch, td, nx) (bal, ten, cs.set pos.toNatClampNeg y, ps, n, ch, td, nx) := ⟨rfl, map_setC hid, rfl, Nat.le_refl _⟩
  exact (h1.tr (moveAB_fr (c := y) (z := cAw y))).tr shareCB_fr
theorem hear4_o {k : Nat} {x pos : Int32} {bal ten : List Int32} {cs : List CaseC} {ps : List PrecC} {n ch td nx : Int32} {gs lf ls lt : List Int32} {y : CaseC} (h : INV k (bal, ten, cs, ps, n, ch, td, nx)) (hy : casI k y) (hid : cId y = cId (gC cs pos)) : ok2 k (bal, ten, cs, ps, n, ch, td, nx) (sta (hearC4 x pos bal ten cs ps n ch td nx gs lf ls lt y)) := by
  refine ⟨hear4_i h hy, ?_⟩
  unfold hearC4 addR
  split
  · exact (hear2_o h hy hid).2
  · have h1 : fr4 (bal, ten, cs, ps, n, ch, td, nx) (bal, ten, cs, ps ++ [(cMt y, cPc y)], n, ch, td, nx) := ⟨rfl, rfl, rfl, by show ps.length ≤ (ps ++ [_]).length; rw [List.length_append]; exact Nat.le_add_right _ _⟩
    have h2 : fr4 (bal, ten, cs, ps ++ [(cMt y, cPc y)], n, ch, td, nx) (bal, ten, cs.set pos.toNatClampNeg (c12 y (nI ps.length)), ps ++ [(cMt y, cPc y)], n, ch, td, nx) := ⟨rfl, map_setC (show cId (c12 y (nI ps.length)) = _ from hid), rfl, Nat.le_refl _⟩
    exact ((h1.tr h2).tr (moveAB_fr (c := c12 y (nI ps.length)) (z := cAw (c12 y (nI ps.length))))).tr shareCB_fr
theorem ruleA_id {y : CaseC} {v : Int32} : cId (ruleA v y) = cId y := rfl
theorem c11_id {y : CaseC} {v : Int32} : cId (c11 y v) = cId y := rfl
theorem c11_i {k : Nat} {y : CaseC} (h : casI k y) {v : Int32} : casI k (c11 y v) := h
theorem hear3_o {k : Nat} {x pos : Int32} {bal ten : List Int32} {cs : List CaseC} {ps : List PrecC} {n ch td nx : Int32} {gs lf ls lt : List Int32} {y : CaseC} (h : INV k (bal, ten, cs, ps, n, ch, td, nx)) (hy : casI k y) (hid : cId y = cId (gC cs pos)) : ok2 k (bal, ten, cs, ps, n, ch, td, nx) (sta (hearC3 x pos bal ten cs ps n ch td nx gs lf ls lt y)) :=
  hear4_o h (ruleA_i hy (percB_r h hy.2.2.2.1)) (ruleA_id.trans hid)
theorem hear1_o {k : Nat} {x pos it : Int32} {bal ten : List Int32} {cs : List CaseC} {ps : List PrecC} {n ch td nx : Int32} {gs lf ls lt : List Int32} {y : CaseC} (h : INV k (bal, ten, cs, ps, n, ch, td, nx)) (hy : casI k y) (hid : cId y = cId (gC cs pos)) : ok2 k (bal, ten, cs, ps, n, ch, td, nx) (sta (hearC1 x pos it bal ten cs ps n ch td nx gs lf ls lt y)) := by
  unfold hearC1
  split
  · exact hear2_o h hy hid
  · exact hear3_o h (c11_i hy) (c11_id.trans hid)
theorem c10_id {y : CaseC} {v : Int32} : cId (c10 y v) = cId y := rfl
theorem c7_id {y : CaseC} {v : Int32} : cId (c7 y v) = cId y := rfl
theorem hearb_o {k : Nat} {x pos it : Int32} {bal ten : List Int32} {cs : List CaseC} {ps : List PrecC} {n ch td nx : Int32} {gs lf ls lt : List Int32} {y : CaseC} (h : INV k (bal, ten, cs, ps, n, ch, td, nx)) (hy : casI k y) (hid : cId y = cId (gC cs pos)) (hps : ¬ ps = []) : ok2 (k + 1) (bal, ten, cs, ps, n, ch, td, nx) (sta (hearCb x pos it bal ten cs ps n ch td nx gs lf ls lt y)) := by
  have hd := h.day hy.2.2.1
  have hc := hy.mono (Nat.le_succ k)
  have h0 : b2i (decide (ps = [])) = 0 := by rw [decide_eq_false hps]; rfl
  have h1 : fr4 (bal, ten, cs, ps, n, ch, td, nx) (bal, ten, cs, ps, n, ch, td + cDu y, nx) := ⟨rfl, rfl, rfl, Nat.le_refl _⟩
  have go : ∀ v : Int32, (v = 102 ∨ v = 114 ∨ v = 100) → ∀ c gs2, ok2 (k + 1) (bal, ten, cs, ps, n, ch, td, nx) (sta (hearC1 x pos it bal ten cs ps n ch (td + cDu y) nx gs2 lf ls lt (c7 (c10 y c) v))) := fun v hv c gs2 => by
    have := hear1_o (x := x) (pos := pos) (it := it) (gs := gs2) (lf := lf) (ls := ls) (lt := lt) hd (c7_i (c10_i hc (v := c)) hv) (c7_id.trans (c10_id.trans hid))
    exact ⟨this.1, h1.tr this.2⟩
  unfold hearCb
  split
  · exact go 100 (Or.inr (Or.inr rfl)) _ _
  · exact go 114 (Or.inr (Or.inl rfl)) _ _
theorem qHear_o {k : Nat} {S : StC} (h : INV k S) {x : Int32} {K : ScC} (h1 : ¬ posOf S.2.2.1 x < 0) (h2 : posOf S.2.2.1 x < nI S.2.2.1.length) (h3 : cSd (gC S.2.2.1 (posOf S.2.2.1 x)) = 102) (h4 : ¬ S.2.2.2.1 = []) : ok2 (k + 1) S ((qHear x S K).1, (qHear x S K).2.1) := by
  obtain ⟨bal, ten, cs, ps, n, ch, td, nx⟩ := S
  show ok2 (k + 1) (bal, ten, cs, ps, n, ch, td, nx) (sta (hearC x bal ten cs ps n ch td nx K.1 K.2.1 K.2.2.1 K.2.2.2))
  have h1' : ¬ posOf cs x < 0 := h1
  have h2' : posOf cs x < nI cs.length := h2
  have h3' : cSd (gC cs (posOf cs x)) = 102 := h3
  unfold hearC
  rw [if_neg h1', if_pos h2']
  unfold hearC0
  rw [if_pos h3']
  split
  · exact hearb_o h (h.pos h1 h2) rfl h4
  · exact hearb_o h (h.pos h1 h2) rfl h4
-- accepted changes
theorem qEnt_v {S : StC} {b : Nat} (hn : S.2.2.2.2.1 = nI b) (hb : b < 8) : (qEnt S).1 = nI b ∧ (qEnt S).2 = (S.1, S.2.1, S.2.2.1, S.2.2.2.1, nI (b + 1), S.2.2.2.2.2) := by
  obtain ⟨bal, ten, cs, ps, n, ch, td, nx⟩ := S
  have hn' : n = nI b := hn
  subst hn'
  have : enterB bal ten cs ps (nI b) ch td nx = (nI b, (bal, ten, cs, ps, nI (b + 1), ch, td, nx)) := by
    rw [enterB, if_pos (show nI b < 8 from nI_lt (b := 8) hb (by decide)), nI_s, nI_p (by omega)]; rfl
  show (enterB bal ten cs ps (nI b) ch td nx).1 = nI b ∧ (enterB bal ten cs ps (nI b) ch td nx).2 = _
  rw [this]; exact ⟨rfl, rfl⟩
theorem hasB_t {m j : Nat} (hj : j < m) (hm : m < 2 ^ 31) : hasB (nI m) (nI j) = true := decide_eq_true (p := ¬ nI j < 0 ∧ ¬ nI m ≤ nI j) ⟨nI_pos (by omega), fun z => absurd ((nI_le_iff hm (by omega)).mp z) (by omega)⟩
theorem isBtw_t {a b v : Nat} (h1 : a ≤ v) (h2 : v ≤ b) (hb : b < 2 ^ 30) : ¬ isBtw (nI v) (nI a) (nI b) = 0 := by
  rw [isBtw, if_neg (fun z => absurd ((nI_ltI (by omega) (by omega)).mp z) (by omega)), if_neg (fun z => absurd ((nI_ltI (by omega) (by omega)).mp z) (by omega))]
  decide
theorem b2i_t {b : Bool} (h : b = true) : ¬ b2i b = 0 := b2i_n.mpr h
/-- the state but for the bonds -/
def sm7 (S T : StC) : Prop := T.1 = S.1 ∧ T.2.2 = S.2.2
theorem putCB_sm {S : StC} {x z : Int32} : sm7 S (putCB S x z) := by
  obtain ⟨bal, ten, cs, ps, n, ch, td, nx⟩ := S
  unfold putCB putC
  split
  · exact ⟨rfl, rfl⟩
  · split
    · exact ⟨rfl, rfl⟩
    · exact ⟨rfl, rfl⟩
theorem qJoin_v {S : StC} {m a b v : Nat} (hI : tenB S.2.1) (hn : S.2.2.2.2.1 = nI m) (hm : m ≤ 8) (ha : a < m) (hb : b < m) (h1 : 1 ≤ v) (h2 : v ≤ 20) : (a = b ∧ flt (qJoin (nI a) (nI b) (nI v) S).1 = some IA) ∨ (¬ a = b ∧ rng 20 (qJoin (nI a) (nI b) (nI v) S).1 ∧ sm7 S (qJoin (nI a) (nI b) (nI v) S).2) := by
  obtain ⟨bal, ten, cs, ps, n, ch, td, nx⟩ := S
  have hn' : n = nI m := hn
  subst hn'
  have e0 : qJoin (nI a) (nI b) (nI v) (bal, ten, cs, ps, nI m, ch, td, nx) = joinB bal ten cs ps (nI m) ch td nx (nI a) (nI b) (nI v) := rfl
  rw [e0, joinB, if_neg (b2i_t (hasB_t ha (by omega))), if_neg (b2i_t (hasB_t hb (by omega)))]
  by_cases hab : a = b
  · rw [if_pos (by rw [hab])]; exact Or.inl ⟨hab, rfl⟩
  · rw [if_neg (fun z => hab (nI_inj (by omega) (by omega) z)), if_neg (show ¬ isBtw (nI v) 1 20 = 0 from isBtw_t (a := 1) (b := 20) h1 h2 (by omega))]
    refine Or.inr ⟨hab, rd_ten hI _, ?_⟩
    have p1 := putCB_sm (S := (bal, ten, cs, ps, nI m, ch, td, nx)) (x := nI a * 8 + nI b) (z := nI v)
    have p2 := putCB_sm (S := putCB (bal, ten, cs, ps, nI m, ch, td, nx) (nI a * 8 + nI b) (nI v)) (x := nI b * 8 + nI a) (z := nI v)
    exact ⟨p2.1.trans p1.1, p2.2.trans p1.2⟩
theorem qRule_v {S : StC} {k v : Nat} {mt : List Int32} (hk : S.2.2.2.1.length = k) (hk2 : k < 20) (hv : v ≤ 100) (hm : ¬ mt = []) : (qRule (nI v) mt S).1 = nI k ∧ (qRule (nI v) mt S).2 = (S.1, S.2.1, S.2.2.1, S.2.2.2.1 ++ [(mt, nI v)], S.2.2.2.2) := by
  obtain ⟨bal, ten, cs, ps, n, ch, td, nx⟩ := S
  have hk' : ps.length = k := hk
  have e0 : qRule (nI v) mt (bal, ten, cs, ps, n, ch, td, nx) = entP bal ten cs ps n ch td nx (nI v) mt := rfl
  rw [e0, entP, if_neg (show ¬ isBtw (nI v) 0 100 = 0 from isBtw_t (a := 0) (b := 100) (by omega) hv (by omega)), if_pos (show nI ps.length < 20 from nI_lt (b := 20) (by omega) (by decide)), if_pos (by rw [decide_eq_false hm]; rfl)]
  refine ⟨?_, rfl⟩
  show nI (ps ++ [(mt, nI v)]).length - 1 = nI k
  rw [List.length_append, List.length_singleton, nI_p (by omega), hk']; rfl
theorem qFile_v {S : StC} {m a b c d e : Nat} {mt : List Int32} (hn : S.2.2.2.2.1 = nI m) (hm8 : m ≤ 8) (ha : a < m) (hb : b < m) (hab : ¬ a = b) (hc : 1 ≤ c ∧ c ≤ 99) (hd : 1 ≤ d ∧ d ≤ 5) (he : e ≤ 999) (hm : ¬ mt = []) (hl : S.2.2.1.length < 12) : (qFile (nI a) (nI b) (nI c) (nI d) (nI e) mt S).1 = S.2.2.2.2.2.2.2 ∧ (qFile (nI a) (nI b) (nI c) (nI d) (nI e) mt S).2 = (S.1, S.2.1, S.2.2.1 ++ [(S.2.2.2.2.2.2.2, nI a, nI b, nI c, nI d, nI e, mt, 102, 0, 0, 0, -1, -1, 0)], S.2.2.2.1, S.2.2.2.2.1, S.2.2.2.2.2.1, S.2.2.2.2.2.2.1, S.2.2.2.2.2.2.2 + 1) := by
  obtain ⟨bal, ten, cs, ps, n, ch, td, nx⟩ := S
  have hn' : n = nI m := hn
  subst hn'
  have hl' : cs.length < 12 := hl
  have e0 : qFile (nI a) (nI b) (nI c) (nI d) (nI e) mt (bal, ten, cs, ps, nI m, ch, td, nx) = entC bal ten cs ps (nI m) ch td nx (nI a) (nI b) (nI c) (nI d) (nI e) mt := rfl
  rw [e0, entC, if_neg (b2i_t (hasB_t ha (by omega))), if_neg (b2i_t (hasB_t hb (by omega))), if_neg (fun z => hab (nI_inj (by omega) (by omega) z)), if_neg (show ¬ isBtw (nI c) 1 99 = 0 from isBtw_t (a := 1) (b := 99) hc.1 hc.2 (by omega)), if_neg (show ¬ isBtw (nI d) 1 5 = 0 from isBtw_t (a := 1) (b := 5) hd.1 hd.2 (by omega)), if_neg (show ¬ isBtw (nI e) 0 999 = 0 from isBtw_t (a := 0) (b := 999) (by omega) he (by omega)), if_pos (show nI cs.length < 12 from nI_lt (b := 12) hl' (by decide)), if_pos (by rw [decide_eq_false hm]; rfl)]
  exact ⟨rfl, rfl⟩
theorem worV_ne (z : Int32) : ¬ worV z = [] := by
  obtain ⟨j, h1, h8, e⟩ := worN_8 z
  intro h
  rw [worV, e, worL, if_neg (show ¬ nI j ≤ 0 from fun q => absurd ((nI_le_iff (b := 0) (by omega) (by omega)).mp q) (by omega))] at h
  have h2 := (worL_ok (z := z) (n := nI j) 7 (0 + 1) ([] ++ [(97 : Int32) + someV (z >>> ((2 * (0 : Int32)) &&& 31)) 3]) (fun c hc => by rw [List.nil_append] at hc; rw [List.mem_singleton.mp hc]; exact let_s.2.2)).1
  rw [h] at h2
  exact absurd h2 (Nat.not_succ_le_zero 0)
theorem nI_rem {x m : Nat} (hx : x < 2 ^ 30) (h1 : 1 ≤ m) (hm : m < 2 ^ 30) : nI x - nI x / nI m * nI m = nI (x % m) := by
  rw [nI_dv (by omega) h1 (by omega), nI_m, nI_sub (Nat.div_mul_le_self x m)]
  congr 1
  have := Nat.div_add_mod x m
  rw [Nat.mul_comm] at this
  omega
theorem pushE_len {ea : List StC} {S : StC} (h : ea.length ≤ 8) : (pushE ea S).length ≤ 8 := by
  unfold pushE
  split
  · rename_i hl
    have := nI_ltN (k := 8) (by omega) (by decide) hl
    rw [List.length_append, List.length_singleton]; omega
  · rename_i hl
    have := nI_geN (k := 8) (by decide) hl
    rw [List.length_append, List.length_singleton, List.length_eraseIdx]
    split <;> omega
theorem posOf_id {cs : List CaseC} (hl : cs.length < 2 ^ 20) : ∀ (k i : Nat) (x : Int32), ¬ posOfL cs x k (nI i) < 0 → i + k < 2 ^ 30 → ∃ p : Nat, i ≤ p ∧ p < cs.length ∧ posOfL cs x k (nI i) = nI p ∧ cId (gC cs (nI p)) = x := by
  intro k
  induction k with
  | zero => intro i x h hk; rw [posOfL] at h; exact absurd (by decide) h
  | succ k ih =>
    intro i x h hk
    rw [posOfL] at h ⊢
    by_cases h1 : nI cs.length ≤ nI i
    · rw [if_pos h1] at h; exact absurd (by decide) h
    · rw [if_neg h1] at h ⊢
      by_cases h2 : cId (gC cs (nI i)) = x
      · rw [if_pos h2]
        exact ⟨i, Nat.le_refl _, Nat.lt_of_not_le fun z => h1 ((nI_le_iff (by omega) (by omega)).mpr z), rfl, h2⟩
      · rw [if_neg h2, nI_s] at h ⊢
        obtain ⟨p, p1, p2, p3, p4⟩ := ih (i + 1) x h (by omega)
        exact ⟨p, by omega, p2, p3, p4⟩
/-- a case just filed is found, at the end -/
theorem pos_last {cs : List CaseC} {k : Nat} {c : CaseC} (hl : cs.length < 12) (hk : k < 2 ^ 20) (hid : ∀ i : Nat, i < cs.length → ∃ u : Nat, u < k ∧ cId (gC cs (nI i)) = nI u) (hc : cId c = nI k) : posOf (cs ++ [c]) (nI k) = nI cs.length ∧ gC (cs ++ [c]) (nI cs.length) = c := by
  have hll : (cs ++ [c]).length = cs.length + 1 := by rw [List.length_append, List.length_singleton]
  have hg : gC (cs ++ [c]) (nI cs.length) = c := by
    rw [gC, nI_nat (by omega), List.getD_eq_getElem?_getD, List.getElem?_append_right (Nat.le_refl _), Nat.sub_self]; rfl
  refine ⟨?_, hg⟩
  obtain ⟨p, p1, p2⟩ := posOfL_at (cs := cs ++ [c]) (by omega) (cs ++ [c]).length 0 cs.length (by omega) (by omega) (by omega)
  rw [hg, hc] at p2
  have e : posOf (cs ++ [c]) (nI k) = nI p := by rw [posOf, nI_nat (by omega)]; exact p2
  have hp : ¬ posOfL (cs ++ [c]) (nI k) (cs ++ [c]).length (nI 0) < 0 := by rw [p2]; exact nI_pos (by omega)
  obtain ⟨q, q1, q2, q3, q4⟩ := posOf_id (by omega) (cs ++ [c]).length 0 (nI k) hp (by omega)
  have hpq : p = q := nI_inj (by omega) (by omega) (p2.symm.trans q3)
  subst hpq
  rw [e]
  by_cases hlt : p < cs.length
  · have : gC (cs ++ [c]) (nI p) = gC cs (nI p) := by
      rw [gC, gC, nI_nat (by omega), List.getD_eq_getElem?_getD, List.getD_eq_getElem?_getD, List.getElem?_append_left hlt]
    rw [this] at q4
    obtain ⟨u, u1, u2⟩ := hid p hlt
    exact absurd (nI_inj (by omega) (by omega) (u2.symm.trans q4)) (by omega)
  · have : p = cs.length := by omega
    rw [this]

theorem rd_at {l : List Int32} {j : Nat} (h : j < 8) : rd l 8 (nI j) = l.getD j 0 := by
  have : inB 8 (nI j) = true := by
    have : j = 0 ∨ j = 1 ∨ j = 2 ∨ j = 3 ∨ j = 4 ∨ j = 5 ∨ j = 6 ∨ j = 7 := by omega
    rcases this with rfl | rfl | rfl | rfl | rfl | rfl | rfl | rfl <;> decide
  rw [rd, if_pos this, gI_nI (by omega)]
theorem nI_inj {a b : Nat} (ha : a < 2 ^ 31) (hb : b < 2 ^ 31) (h : nI a = nI b) : a = b := by
  have h2 := congrArg Int32.toInt h
  rw [nI_toInt ha, nI_toInt hb] at h2
  omega
theorem addCB_at {S : StC} {j : Nat} {z : Int32} (hj : j < 8) : (addCB S (nI j) z).1 = S.1.set j (S.1.getD j 0 + z) := by
  obtain ⟨bal, ten, cs, ps, n, ch, td, nx⟩ := S
  show (addC bal ten cs ps n ch td nx (nI j) z).1 = _
  rw [addC, if_neg (nI_pos (by omega)), if_neg (show ¬ (8 : Int32) ≤ nI j from fun q => absurd ((nI_le_iff (a := 8) (by omega) (by omega)).mp q) (by omega))]
  show sI bal (nI j) (gI bal (nI j) + z) = _
  rw [sI_nI (by omega), gI_nI (by omega)]
theorem qGive_g {k : Nat} {S : StC} (h : INV k S) {x y z : Int32} : good [IO, IA, IS] k (qGive x y z S) := by
  obtain ⟨bal, ten, cs, ps, n, ch, td, nx⟩ := S
  show good _ k (moveC bal ten cs ps n ch td nx x y z)
  unfold moveC
  split
  · exact Or.inr ⟨IO, by decide, rfl⟩
  · rename_i hx
    split
    · exact Or.inr ⟨IO, by decide, rfl⟩
    · rename_i hy
      split
      · exact Or.inr ⟨IA, by decide, rfl⟩
      · rename_i hxy
        split
        · exact Or.inr ⟨IA, by decide, rfl⟩
        · rename_i hz
          split
          · rename_i hle
            obtain ⟨a, ha, rfl⟩ := hasB_nI h.1 hx
            obtain ⟨b, hb, rfl⟩ := hasB_nI h.1 hy
            obtain ⟨v, v1, v2, rfl⟩ := isBtw_r (a := 1) (b := 999) (by omega) (by omega) hz
            have hab : ¬ a = b := fun e => hxy (by rw [e])
            have hbl : bal.length = 8 := h.2.2.2.2.2.2.2.2
            refine Or.inl ⟨?_, addCB_inv (addCB_inv (h.mono (Nat.le_succ k)))⟩
            show ∃ w : Nat, w < 2 ^ 31 ∧ rd (addCB (addCB (bal, ten, cs, ps, n, ch, td, nx) (nI a) (-nI v)) (nI b) (nI v)).1 8 (nI a) = nI w
            rw [rd_at ha, addCB_at hb, getD_setI, if_neg (fun q => hab q.1.symm), addCB_at ha, getD_setI, if_pos ⟨rfl, by show a < bal.length; omega⟩]
            show ∃ w : Nat, w < 2 ^ 31 ∧ bal.getD a 0 + -nI v = nI w
            rw [rd_at ha] at hle
            generalize bal.getD a 0 = B at hle
            have e1 := Int32.le_iff_toInt_le.mp hle
            rw [nI_toInt (by omega)] at e1
            have e2 : B.toInt < 2 ^ 31 := Int32.toInt_lt B
            have e3 : (-nI v).toInt = -(v : Int) := by
              rw [Int32.toInt_neg, nI_toInt (by omega)]
              exact Int.bmod_eq_of_le (by omega) (by omega)
            refine ⟨(B.toInt - v).toNat, by omega, nI_ofT ?_ (by omega)⟩
            rw [Int32.toInt_add, e3, Int.bmod_eq_of_le (by omega) (by omega)]
            omega
          · exact Or.inr ⟨IS, by decide, rfl⟩
-- hearings
theorem nI_dv {a b : Nat} (ha : a < 2 ^ 31) (h1 : 1 ≤ b) (hb : b < 2 ^ 31) : nI a / nI b = nI (a / b) := by
  have hq : a / b ≤ a := Nat.div_le_self _ _
  refine nI_ofT ?_ (by omega)
  rw [Int32.toInt_div, nI_toInt ha, nI_toInt hb]
  have : ((a : Int).tdiv (b : Int)) = ((a / b : Nat) : Int) := rfl
  rw [this]
  generalize a / b = q at hq
  exact Int.bmod_eq_of_le (by omega) (by omega)
theorem ruleA_i {k : Nat} {c : CaseC} (h : casI k c) {v : Int32} (hv : rng 100 v) : casI k (ruleA v c) := by
  obtain ⟨h1, ⟨q, q1, q2, q3⟩, h3, h4, h5, h6, h7⟩ := h
  obtain ⟨p, p1, rfl⟩ := hv
  refine ⟨h1, ⟨q, q1, q2, q3⟩, h3, h4, h5, ⟨p, p1, rfl⟩, ?_⟩
  show rng 99 ((cCl c * nI p) / 100)
  have hm : q * p ≤ 99 * 100 := Nat.mul_le_mul q2 p1
  rw [q3, nI_m, show (100 : Int32) = nI 100 from rfl, nI_dv (by omega) (by omega) (by omega)]
  exact ⟨_, by omega, rfl⟩
/-- the state and the rows in an answer of twelve parts -/
def sta (r : Int32 × List Int32 × List Int32 × List CaseC × List PrecC × Int32 × Int32 × Int32 × Int32 × List Int32 × List Int32 × List Int32 × List Int32) : Int32 × StC := (r.1, r.2.1, r.2.2.1, r.2.2.2.1, r.2.2.2.2.1, r.2.2.2.2.2.1, r.2.2.2.2.2.2.1, r.2.2.2.2.2.2.2.1, r.2.2.2.2.2.2.2.2.1)
def gud (k : Nat) (r : Int32 × StC) : Prop := (∃ v : Nat, v < 2 ^ 31 ∧ r.1 = nI v) ∧ INV k r.2
theorem INV.setC {k : Nat} {bal ten : List Int32} {cs : List CaseC} {ps : List PrecC} {n ch td nx : Int32} (h : INV k (bal, ten, cs, ps, n, ch, td, nx)) {y : CaseC} (hy : casI k y) (j : Nat) : INV k (bal, ten, cs.set j y, ps, n, ch, td, nx) := by
  obtain ⟨a1, a2, a3, a4, a5⟩ := h
  exact ⟨a1, a2, by show (cs.set j y).length ≤ 12; rw [List.length_set]; exact a3, fun c hc => (List.mem_or_eq_of_mem_set hc).elim (a4 c) (fun e => e ▸ hy), a5⟩
theorem hear2_i {k : Nat} {x pos : Int32} {bal ten : List Int32} {cs : List CaseC} {ps : List PrecC} {n ch td nx : Int32} {gs lf ls lt : List Int32} {y : CaseC} (h : INV k (bal, ten, cs, ps, n, ch, td, nx)) (hy : casI k y) : gud k (sta (hearC2 x pos bal ten cs ps n ch td nx gs lf ls lt y)) := by
  obtain ⟨v, v1, v2⟩ := hy.2.2.2.2.2.2
  exact ⟨⟨v, by omega, v2⟩, shareCB_inv (moveAB_inv (h.setC hy _))⟩
theorem hear4_i {k : Nat} {x pos : Int32} {bal ten : List Int32} {cs : List CaseC} {ps : List PrecC} {n ch td nx : Int32} {gs lf ls lt : List Int32} {y : CaseC} (h : INV k (bal, ten, cs, ps, n, ch, td, nx)) (hy : casI k y) : gud k (sta (hearC4 x pos bal ten cs ps n ch td nx gs lf ls lt y)) := by
  unfold hearC4 addR
  split
  · exact hear2_i h hy
  · rename_i hl
    have hps : ps.length ≤ 20 := h.2.2.2.2.1
    have hl' : ps.length < 20 := Nat.lt_of_not_le fun z => hl ((nI_le_iff (a := 20) (by omega) (by omega)).mpr z)
    obtain ⟨a1, a2, a3, a4, a5, a6, a7⟩ := h
    refine hear2_i (y := c12 y (nI ps.length)) ⟨a1, a2, a3, a4, ?_, ?_, a7⟩ hy
    · show (ps ++ [(cMt y, cPc y)]).length ≤ 20
      rw [List.length_append, List.length_singleton]; omega
    · intro p hp
      rcases List.mem_append.mp hp with hp | hp
      · exact a6 p hp
      · rw [List.mem_singleton.mp hp]; exact ⟨hy.2.2.2.1, hy.2.2.2.2.2.1⟩
theorem hear3_i {k : Nat} {x pos : Int32} {bal ten : List Int32} {cs : List CaseC} {ps : List PrecC} {n ch td nx : Int32} {gs lf ls lt : List Int32} {y : CaseC} (h : INV k (bal, ten, cs, ps, n, ch, td, nx)) (hy : casI k y) : gud k (sta (hearC3 x pos bal ten cs ps n ch td nx gs lf ls lt y)) :=
  hear4_i h (ruleA_i hy (percB_r h hy.2.2.2.1))
theorem hear1_i {k : Nat} {x pos it : Int32} {bal ten : List Int32} {cs : List CaseC} {ps : List PrecC} {n ch td nx : Int32} {gs lf ls lt : List Int32} {y : CaseC} (h : INV k (bal, ten, cs, ps, n, ch, td, nx)) (hy : casI k y) : gud k (sta (hearC1 x pos it bal ten cs ps n ch td nx gs lf ls lt y)) := by
  unfold hearC1
  split
  · exact hear2_i h hy
  · exact hear3_i h hy
theorem c7_i {k : Nat} {y : CaseC} (h : casI k y) {v : Int32} (hv : v = 102 ∨ v = 114 ∨ v = 100) : casI k (c7 y v) := ⟨h.1, h.2.1, h.2.2.1, h.2.2.2.1, hv, h.2.2.2.2.2⟩
theorem c10_i {k : Nat} {y : CaseC} (h : casI k y) {v : Int32} : casI k (c10 y v) := ⟨h.1, h.2.1, h.2.2.1, h.2.2.2.1, h.2.2.2.2⟩
theorem INV.day {k : Nat} {bal ten : List Int32} {cs : List CaseC} {ps : List PrecC} {n ch td nx : Int32} (h : INV k (bal, ten, cs, ps, n, ch, td, nx)) {v : Int32} (hv : rng 5 v) : INV (k + 1) (bal, ten, cs, ps, n, ch, td + v, nx) := by
  obtain ⟨t, t1, t2⟩ := h.2.2.2.2.2.2.1
  obtain ⟨u, u1, rfl⟩ := hv
  have t3 : td = nI t := t2
  obtain ⟨a1, a2, a3, a4, a5, a6, a7, a8, a9⟩ := h.mono (Nat.le_succ k)
  exact ⟨a1, a2, a3, a4, a5, a6, ⟨t + u, by omega, by show td + nI u = _; rw [t3]; exact nI_a⟩, a8, a9⟩
def god (Es : List String) (k : Nat) (r : Int32 × StC) : Prop := gud (k + 1) r ∨ ∃ E : String, E ∈ Es ∧ flt r.1 = some E
theorem hearb_i {k : Nat} {x pos it : Int32} {bal ten : List Int32} {cs : List CaseC} {ps : List PrecC} {n ch td nx : Int32} {gs lf ls lt : List Int32} {y : CaseC} (h : INV k (bal, ten, cs, ps, n, ch, td, nx)) (hy : casI k y) : god [NS, IS, UO] k (sta (hearCb x pos it bal ten cs ps n ch td nx gs lf ls lt y)) := by
  have hd := h.day hy.2.2.1
  have hc := hy.mono (Nat.le_succ k)
  unfold hearCb
  split
  · exact Or.inl (hear1_i hd (c7_i (c10_i hc) (Or.inr (Or.inr rfl))))
  · split
    · exact Or.inl (hear1_i hd (c7_i (c10_i hc) (Or.inr (Or.inl rfl))))
    · exact Or.inr ⟨UO, by decide, rfl⟩
theorem hear_i {k : Nat} {x : Int32} {bal ten : List Int32} {cs : List CaseC} {ps : List PrecC} {n ch td nx : Int32} {gs lf ls lt : List Int32} (h : INV k (bal, ten, cs, ps, n, ch, td, nx)) : god [NS, IS, UO] k (sta (hearC x bal ten cs ps n ch td nx gs lf ls lt)) := by
  unfold hearC
  split
  · exact Or.inr ⟨NS, by decide, rfl⟩
  · rename_i p1
    split
    · rename_i p2
      unfold hearC0
      split
      · split
        · exact hearb_i h (h.pos p1 p2)
        · exact hearb_i h (h.pos p1 p2)
      · exact Or.inr ⟨IS, by decide, rfl⟩
    · exact Or.inr ⟨NS, by decide, rfl⟩
theorem qHear_g {k : Nat} {S : StC} (h : INV k S) {x : Int32} {K : ScC} : good [NS, IS, UO] k ((qHear x S K).1, (qHear x S K).2.1) := by
  obtain ⟨bal, ten, cs, ps, n, ch, td, nx⟩ := S
  exact hear_i h
theorem app3_i {k : Nat} {x pos nr old : Int32} {bal ten : List Int32} {cs : List CaseC} {ps : List PrecC} {n ch td nx : Int32} {gs lf ls lt : List Int32} {y : CaseC} (h : INV k (bal, ten, cs, ps, n, ch, td, nx)) (hy : casI k y) : gud k (sta (appC3 x pos nr old bal ten cs ps n ch td nx gs lf ls lt y)) := by
  obtain ⟨v, v1, v2⟩ := hy.2.2.2.2.2.2
  exact ⟨⟨v, by omega, v2⟩, payCB_inv (payCB_inv (moveAB_inv (h.setC hy _)))⟩
theorem app2_i {k : Nat} {x pos nr old : Int32} {bal ten : List Int32} {cs : List CaseC} {ps : List PrecC} {n ch td nx : Int32} {gs lf ls lt : List Int32} {y : CaseC} (h : INV k (bal, ten, cs, ps, n, ch, td, nx)) (hy : casI k y) : gud k (sta (appC2 x pos nr old bal ten cs ps n ch td nx gs lf ls lt y)) := by
  unfold appC2
  split
  · exact app3_i h hy
  · split
    · exact app3_i h hy
    · obtain ⟨a1, a2, a3, a4, a5, a6, a7⟩ := h
      refine app3_i ⟨a1, a2, a3, a4, ?_, ?_, a7⟩ hy
      · show (ps.set _ _).length ≤ 20
        rw [List.length_set]; exact a5
      · intro p hp
        exact (List.mem_or_eq_of_mem_set hp).elim (a6 p) (fun e => e ▸ ⟨hy.2.2.2.1, hy.2.2.2.2.2.1⟩)
theorem app_i {k : Nat} {x : Int32} {bal ten : List Int32} {cs : List CaseC} {ps : List PrecC} {n ch td nx : Int32} {gs lf ls lt : List Int32} (h : INV k (bal, ten, cs, ps, n, ch, td, nx)) : god [NS, IS, UO] k (sta (appC x bal ten cs ps n ch td nx gs lf ls lt)) := by
  unfold appC
  split
  · exact Or.inr ⟨NS, by decide, rfl⟩
  · rename_i p1
    split
    · rename_i p2
      have hy := h.pos p1 p2
      unfold appC0
      split
      · split
        · unfold appC1
          split
          · exact Or.inr ⟨UO, by decide, rfl⟩
          · refine Or.inl (app2_i (h.mono (Nat.le_succ k)) (ruleA_i (casI.mono (?_ : casI k _) (Nat.le_succ k)) (percB_r h hy.2.2.2.1)))
            exact hy
        · exact Or.inr ⟨IS, by decide, rfl⟩
      · exact Or.inr ⟨IS, by decide, rfl⟩
    · exact Or.inr ⟨NS, by decide, rfl⟩
theorem qApp_g {k : Nat} {S : StC} (h : INV k S) {x : Int32} {K : ScC} : good [NS, IS, UO] k ((qApp x S K).1, (qApp x S K).2.1) := by
  obtain ⟨bal, ten, cs, ps, n, ch, td, nx⟩ := S
  exact app_i h

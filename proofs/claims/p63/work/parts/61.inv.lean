/-- a number from 0 to B -/
def rng (B : Nat) (x : Int32) : Prop := ∃ v : Nat, v ≤ B ∧ x = nI v
theorem rng.mono {A B : Nat} {x : Int32} (h : rng A x) (hb : A ≤ B) : rng B x := by
  obtain ⟨v, h1, h2⟩ := h
  exact ⟨v, Nat.le_trans h1 hb, h2⟩
theorem nI_a {a b : Nat} : nI a + nI b = nI (a + b) := by
  show Int32.ofNat a + Int32.ofNat b = Int32.ofNat (a + b)
  rw [← Int32.ofNat_add]
theorem nI_m {a b : Nat} : nI a * nI b = nI (a * b) := by
  show Int32.ofNat a * Int32.ofNat b = Int32.ofNat (a * b)
  rw [← Int32.ofNat_mul]
theorem rng_min1 {A B C : Nat} {x y z : Int32} {s : Int32} (hx : rng A x) (hy : rng B y) (hz : rng C z) (hs : rng 1 s) (hA : A < 2 ^ 20) (hB : B < 2 ^ 20) (hC : C < 2 ^ 20) : rng (A + 1) (imin (imin x y + 1) (z + s)) := by
  obtain ⟨v, h1, rfl⟩ := hx
  obtain ⟨u, h2, rfl⟩ := hy
  obtain ⟨t, h3, rfl⟩ := hz
  obtain ⟨r, h4, rfl⟩ := hs
  rw [imin_nI (by omega) (by omega), nI_s, nI_a, imin_nI (by omega) (by omega)]
  exact ⟨_, by omega, rfl⟩
theorem rng_min2 {A C : Nat} {x z : Int32} (hx : rng A x) (hz : rng C z) (hA : A < 2 ^ 20) (hC : C < 2 ^ 20) : rng A (imin x (z + 1)) := by
  obtain ⟨v, h1, rfl⟩ := hx
  obtain ⟨t, h3, rfl⟩ := hz
  rw [nI_s, imin_nI (by omega) (by omega)]
  exact ⟨_, by omega, rfl⟩
theorem rng_ite {B : Nat} {p : Prop} {i : Decidable p} {x y : Int32} (h1 : rng B x) (h2 : rng B y) : rng B (@ite _ p i x y) := by
  by_cases h : p
  · rw [if_pos h]; exact h1
  · rw [if_neg h]; exact h2
theorem begD_r {lf ls lt : List Int32} {a b : Nat} (ha : a < 9) (hb : b < 9) (h1 : 1 ≤ a → 1 ≤ b → rng (a - 1 + b) (cellA lt (nI a - 1) (nI b)) ∧ rng (a + (b - 1)) (cellA lt (nI a) (nI b - 1)) ∧ rng (a - 1 + (b - 1)) (cellA lt (nI a - 1) (nI b - 1))) (h2 : 2 ≤ a → 2 ≤ b → rng (a - 2 + (b - 2)) (cellA lt (nI a - 2) (nI b - 2))) : rng (a + b) (begD lf ls lt (nI a) (nI b)) := by
  have r0 : rng 1 0 := ⟨0, by omega, rfl⟩
  have r1 : rng 1 1 := ⟨1, by omega, rfl⟩
  unfold begD
  by_cases ea : nI a = 0
  · rw [if_pos ea, nI_a]; exact ⟨_, Nat.le_refl _, rfl⟩
  · by_cases eb : nI b = 0
    · rw [if_neg ea, if_pos eb, nI_a]; exact ⟨_, Nat.le_refl _, rfl⟩
    · rw [if_neg ea, if_neg eb]
      have a1 : 1 ≤ a := by
        rcases Nat.eq_zero_or_pos a with rfl | h
        · exact absurd rfl ea
        · exact h
      have b1 : 1 ≤ b := by
        rcases Nat.eq_zero_or_pos b with rfl | h
        · exact absurd rfl eb
        · exact h
      obtain ⟨c1, c2, c3⟩ := h1 a1 b1
      have m1 : rng (a + b) (imin (imin (cellA lt (nI a - 1) (nI b)) (cellA lt (nI a) (nI b - 1)) + 1) (cellA lt (nI a - 1) (nI b - 1) + 1)) := (rng_min1 c1 c2 c3 r1 (by omega) (by omega) (by omega)).mono (by omega)
      have m0 : rng (a + b) (imin (imin (cellA lt (nI a - 1) (nI b)) (cellA lt (nI a) (nI b - 1)) + 1) (cellA lt (nI a - 1) (nI b - 1) + 0)) := (rng_min1 c1 c2 c3 r0 (by omega) (by omega) (by omega)).mono (by omega)
      by_cases x2 : nI a < 2
      · simp only [if_pos x2]; exact rng_ite m1 m0
      · by_cases y2 : nI b < 2
        · simp only [if_neg x2, if_pos y2]; exact rng_ite m1 m0
        · have c4 := h2 (nI_geN (k := 2) (by omega) x2) (nI_geN (k := 2) (by omega) y2)
          simp only [if_neg x2, if_neg y2]
          have m3 := rng_min2 m1 c4 (by omega) (by omega)
          have m2 := rng_min2 m0 c4 (by omega) (by omega)
          exact rng_ite (rng_ite m1 (rng_ite m1 m3)) (rng_ite m0 (rng_ite m0 m2))
/-- the written cells are small -/
def celB (m a b : Nat) (lt : List Int32) : Prop := ∀ a2 b2 : Nat, b2 ≤ m → (a2 < a ∨ a2 = a ∧ b2 < b) → rng (a2 + b2) (lt.getD (9 * a2 + b2) 0)
theorem celB.set {m a b : Nat} {lt : List Int32} (h : celB m a b lt) (hm : m ≤ 8) (hb : b ≤ m) {z : Int32} (hz : rng (a + b) z) : celB m a (b + 1) (lt.set (9 * a + b) z) := by
  intro a2 b2 hb2 hh
  rw [getD_setI]
  by_cases e : 9 * a + b = 9 * a2 + b2 ∧ 9 * a + b < lt.length
  · rw [if_pos e]
    have : a = a2 ∧ b = b2 := by omega
    rw [← this.1, ← this.2]; exact hz
  · rw [if_neg e]
    by_cases e2 : a2 = a ∧ b2 = b
    · have : ¬ 9 * a + b < lt.length := fun z => e ⟨by rw [e2.1, e2.2], z⟩
      rw [List.getD_eq_getElem?_getD, List.getElem?_eq_none (by omega)]
      exact ⟨0, Nat.zero_le _, rfl⟩
    · exact h a2 b2 hb2 (by omega)
theorem byBI_r {w1 w2 : List Int32} (hw1 : w1.length ≤ 8) (hw2 : w2.length ≤ 8) {lf ls : List Int32} {a : Nat} (ha : a ≤ w1.length) : ∀ (k b : Nat) (lt : List Int32), b ≤ w2.length + 1 → w2.length + 1 ≤ b + k → celB w2.length a b lt → (byBI w1 w2 (nI a) k (nI b) lf ls lt).2.1 = lf ∧ (byBI w1 w2 (nI a) k (nI b) lf ls lt).2.2.1 = ls ∧ celB w2.length (a + 1) 0 (byBI w1 w2 (nI a) k (nI b) lf ls lt).2.2.2 := by
  have fin : ∀ (b : Nat) (lt : List Int32), w2.length < b → celB w2.length a b lt → celB w2.length (a + 1) 0 lt := fun b lt hb h a2 b2 hb2 hh => h a2 b2 hb2 (by omega)
  intro k
  induction k with
  | zero => intro b lt hb hk h; rw [byBI]; exact ⟨rfl, rfl, fin b _ (by omega) h⟩
  | succ k ih =>
    intro b lt hb hk h
    rw [byBI, imin8 hw2]
    have hc : nI w2.length < nI b ↔ w2.length < b := nI_ltI (by omega) (by omega)
    by_cases hi : w2.length < b
    · rw [if_pos (hc.mpr hi)]; exact ⟨rfl, rfl, fin b _ hi h⟩
    · rw [if_neg (fun z => hi (hc.mp z)), nI_s, putCe_nI (by omega) (by omega)]
      refine ih (b + 1) _ (by omega) (by omega) (h.set hw2 (by omega) (begD_r (by omega) (by omega) (fun h1 h2 => ?_) (fun h1 h2 => ?_)))
      · rw [nI_p h1, nI_p h2, cellA_nI (by omega) (by omega), cellA_nI (by omega) (by omega), cellA_nI (by omega) (by omega)]
        exact ⟨h _ _ (by omega) (by omega), h _ _ (by omega) (by omega), h _ _ (by omega) (by omega)⟩
      · rw [nI_p2 h1, nI_p2 h2, cellA_nI (by omega) (by omega)]
        exact h _ _ (by omega) (by omega)
theorem byBL_r {w1 w2 : List Int32} (hw1 : w1.length ≤ 8) (hw2 : w2.length ≤ 8) {lf ls : List Int32} : ∀ (k a : Nat) (lt : List Int32), a ≤ w1.length + 1 → w1.length + 1 ≤ a + k → celB w2.length a 0 lt → rng 16 (byBL w1 w2 k (nI a) lf ls lt).1 := by
  have fin : ∀ (a : Nat) (lt : List Int32), w1.length < a → celB w2.length a 0 lt → rng 16 (cellA lt (nI w1.length) (nI w2.length)) := fun a lt ha h => by
    rw [cellA_nI (by omega) (by omega)]
    exact (h w1.length w2.length (by omega) (by omega)).mono (by omega)
  intro k
  induction k with
  | zero => intro a lt ha hk h; rw [byBL, imin8 hw1, imin8 hw2]; exact fin a _ (by omega) h
  | succ k ih =>
    intro a lt ha hk h
    rw [byBL, imin8 hw1, imin8 hw2]
    have hc : nI w1.length < nI a ↔ w1.length < a := nI_ltI (by omega) (by omega)
    by_cases hi : w1.length < a
    · rw [if_pos (hc.mpr hi)]; exact fin a _ hi h
    · rw [if_neg (fun z => hi (hc.mp z)), nI_s, nI_nat (by omega)]
      obtain ⟨j1, j2, j3⟩ := byBI_r hw1 hw2 (lf := lf) (ls := ls) (a := a) (by omega) (w2.length + 1) 0 lt (by omega) (by omega) h
      change (byBI w1 w2 (nI a) (w2.length + 1) 0 lf ls lt).2.1 = lf at j1
      change (byBI w1 w2 (nI a) (w2.length + 1) 0 lf ls lt).2.2.1 = ls at j2
      rw [j1, j2]
      exact ih (a + 1) _ (by omega) (by omega) j3
theorem byB_r {w1 w2 : List Int32} (hw1 : w1.length ≤ 8) (hw2 : w2.length ≤ 8) {lf ls lt : List Int32} : rng 16 (byB w1 w2 lf ls lt).1 := by
  rw [byB, imin8 hw1, nI_nat (by omega)]
  exact byBL_r hw1 hw2 (w1.length + 1) 0 lt (by omega) (by omega) (fun a2 b2 h1 h2 => absurd h2 (by omega))
-- what holds of every state
def casI (k : Nat) (c : CaseC) : Prop := (∃ u : Nat, u < k ∧ cId c = nI u) ∧ (∃ v : Nat, 1 ≤ v ∧ v ≤ 99 ∧ cCl c = nI v) ∧ rng 5 (cDu c) ∧ (cMt c).length ≤ 8 ∧ (cSd c = 102 ∨ cSd c = 114 ∨ cSd c = 100) ∧ rng 100 (cPc c) ∧ rng 99 (cAw c)
def preI (p : PrecC) : Prop := p.1.length ≤ 8 ∧ rng 100 p.2
def INV (k : Nat) (S : StC) : Prop := rng 8 S.2.2.2.2.1 ∧ tenB S.2.1 ∧ S.2.2.1.length ≤ 12 ∧ (∀ c ∈ S.2.2.1, casI k c) ∧ S.2.2.2.1.length ≤ 20 ∧ (∀ p ∈ S.2.2.2.1, preI p) ∧ rng (100 * k) S.2.2.2.2.2.2.1 ∧ rng k S.2.2.2.2.2.2.2 ∧ S.1.length = 8
theorem casI.mono {k j : Nat} {c : CaseC} (h : casI k c) (hk : k ≤ j) : casI j c := by
  obtain ⟨⟨u, h1, h2⟩, h3⟩ := h
  exact ⟨⟨u, by omega, h2⟩, h3⟩
theorem INV.mono {k j : Nat} {S : StC} (h : INV k S) (hk : k ≤ j) : INV j S := by
  obtain ⟨h1, h2, h3, h4, h5, h6, h7, h8, h9⟩ := h
  exact ⟨h1, h2, h3, fun c hc => (h4 c hc).mono hk, h5, h6, h7.mono (by omega), h8.mono hk, h9⟩
theorem INV.okS {k : Nat} {S : StC} (h : INV k S) : okS S := ⟨h.2.2.1, h.2.2.2.2.1⟩
theorem INV.prc {k : Nat} {S : StC} (h : INV k S) (i : Int32) : preI (gP S.2.2.2.1 i) := by
  rw [gP, List.getD_eq_getElem?_getD]
  cases hc : S.2.2.2.1[i.toNatClampNeg]? with
  | none => exact ⟨by decide, 0, by omega, rfl⟩
  | some p => exact h.2.2.2.2.2.1 p (List.mem_of_getElem? hc)
theorem INV.cas {k : Nat} {S : StC} (h : INV k S) {i : Int32} (hi : ¬ i < 0 ∧ ¬ nI S.2.2.1.length ≤ i) : casI k (gC S.2.2.1 i) ∧ gC S.2.2.1 i ∈ S.2.2.1 := by
  have h12 := h.2.2.1
  obtain ⟨j, hj, rfl⟩ := nI_of hi.1
  have hjl : j < S.2.2.1.length := Nat.lt_of_not_le fun z => hi.2 ((nI_le_iff (by omega) hj).mpr z)
  have hm : gC S.2.2.1 (nI j) ∈ S.2.2.1 := by
    rw [gC, nI_nat hj, List.getD_eq_getElem?_getD, List.getElem?_eq_getElem hjl]
    exact List.getElem_mem hjl
  exact ⟨h.2.2.2.1 _ hm, hm⟩
theorem percB_r {k : Nat} {S : StC} (h : INV k S) {x : Int32} {mt lf ls lt : List Int32} (hm : mt.length ≤ 8) : rng 100 (percB S.2.2.2.1 x mt lf ls lt).1 := by
  unfold percB
  obtain ⟨p1, v, p2, p3⟩ := h.prc x
  obtain ⟨d, d1, d2⟩ := byB_r hm p1 (lf := lf) (ls := ls) (lt := lt)
  have h5 : (5 : Int32) * nI d = nI (5 * d) := nI_m (a := 5)
  split
  · exact ⟨50, by omega, rfl⟩
  · split
    · split
      · show rng 100 (imin 50 ((gP S.2.2.2.1 x).2 + 5 * (byB mt (gP S.2.2.2.1 x).1 lf ls lt).1))
        rw [p3, d2, h5, nI_a, show (50 : Int32) = nI 50 from rfl, imin_nI (by omega) (by omega)]
        exact ⟨_, by omega, rfl⟩
      · show rng 100 (imax 50 ((gP S.2.2.2.1 x).2 - 5 * (byB mt (gP S.2.2.2.1 x).1 lf ls lt).1))
        rw [p3, d2, h5]
        unfold imax
        split
        · rename_i hlt
          have e : (nI v - nI (5 * d)).toInt = (v : Int) - (5 * d : Nat) := by
            rw [Int32.toInt_sub, nI_toInt (by omega), nI_toInt (by omega)]
            exact Int.bmod_eq_of_le (by omega) (by omega)
          have h50 : (50 : Int) < (v : Int) - (5 * d : Nat) := by rw [← e]; exact Int32.lt_iff_toInt_lt.mp hlt
          exact ⟨v - 5 * d, by omega, nI_sub (by omega)⟩
        · exact ⟨50, by omega, rfl⟩
    · exact ⟨50, by omega, rfl⟩

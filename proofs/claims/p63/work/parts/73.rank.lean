theorem ranksB_self {bal ten : List Int32} {n x : Int32} : ranksB bal ten n x x = 0 := by
  rw [ranksB, if_pos rfl, if_pos rfl, if_pos (Int32.le_refl x)]
theorem buL_s {bal ten : List Int32} {m a : Nat} (hm : m < 2 ^ 20) (ha : a < m) : ∀ (k s i : Nat), m = i + k → i ≤ a → s ≤ i → ∃ t : Nat, t + 1 ≤ s + k ∧ buttonsBeforeL bal ten (nI m) (nI a) k (nI s) (nI i) = nI t := by
  intro k
  induction k with
  | zero => intro s i h1 h2; omega
  | succ k ih =>
    intro s i h1 h2 h3
    rw [buttonsBeforeL, if_neg (fun z => absurd ((nI_le_iff (by omega) (by omega)).mp z) (by omega))]
    by_cases hia : i = a
    · subst hia
      rw [if_pos ranksB_self]
      obtain ⟨t, t1, t2, t3⟩ := buL_r (bal := bal) (ten := ten) (n := nI m) (x := nI i) k s (nI i + 1) (by omega)
      exact ⟨t, by omega, t3⟩
    · split
      · rw [nI_s]
        obtain ⟨t, t1, t2⟩ := ih s (i + 1) (by omega) (by omega) (by omega)
        exact ⟨t, by omega, t2⟩
      · rw [nI_s, nI_s]
        obtain ⟨t, t1, t2⟩ := ih (s + 1) (i + 1) (by omega) (by omega) (by omega)
        exact ⟨t, by omega, t2⟩
theorem bbL_none {bal ten : List Int32} {m : Nat} {x : Int32} (hm : m < 2 ^ 20) (hx : ∀ t : Nat, t < m → ¬ nI t = x) : ∀ (k i : Nat), m = i + k → bbL bal ten (nI m) x k (nI i) = none := by
  intro k
  induction k with
  | zero => intro i h; rw [bbL]
  | succ k ih =>
    intro i h
    rw [bbL, if_neg (fun z => absurd ((nI_le_iff (by omega) (by omega)).mp z) (by omega))]
    have hb : ∃ t : Nat, t < m ∧ buttonsBefore bal ten (nI m) (nI i) = nI t := by
      obtain ⟨t, t1, t2⟩ := buL_s (bal := bal) (ten := ten) (m := m) (a := i) hm (by omega) m 0 0 (by omega) (by omega) (by omega)
      exact ⟨t, by omega, by rw [buttonsBefore, nI_nat (by omega)]; exact t2⟩
    obtain ⟨t, t1, t2⟩ := hb
    rw [t2, if_neg (hx t t1), nI_s]
    exact ih (i + 1) (by omega)
theorem vByB_n {S : StC} {m : Nat} {x : Int32} (hn : S.2.2.2.2.1 = nI m) (hm : m ≤ 8) (hx : ∀ t : Nat, t < m → ¬ nI t = x) : vByB S x = -1001 := by
  rw [vByB, bbV, hn, nI_nat (by omega), show bbL S.1 S.2.1 (nI m) x m 0 = none from bbL_none (by omega) hx m 0 (by omega)]; rfl
theorem caseB_self {c : CaseC} : caseB c c = 0 := by
  rw [caseB, if_pos rfl, if_pos rfl, if_pos (Int32.le_refl _)]
theorem caL_r {cs : List CaseC} {c : CaseC} : ∀ (k s : Nat) (i : Int32), s + k < 2 ^ 20 → ∃ t : Nat, t ≤ s + k ∧ casesBeforeL cs c k (nI s) i = nI t := by
  intro k
  induction k with
  | zero => intro s i h; exact ⟨s, by omega, by rw [casesBeforeL]⟩
  | succ k ih =>
    intro s i h
    rw [casesBeforeL]
    split
    · exact ⟨s, by omega, rfl⟩
    · split
      · obtain ⟨t, t1, t3⟩ := ih s (i + 1) (by omega)
        exact ⟨t, by omega, t3⟩
      · rw [nI_s]
        obtain ⟨t, t1, t3⟩ := ih (s + 1) (i + 1) (by omega)
        exact ⟨t, by omega, t3⟩
theorem caL_s {cs : List CaseC} {a : Nat} (hm : cs.length < 2 ^ 10) (ha : a < cs.length) : ∀ (k s i : Nat), cs.length = i + k → i ≤ a → s ≤ i → ∃ t : Nat, t + 1 ≤ s + k ∧ casesBeforeL cs (gC cs (nI a)) k (nI s) (nI i) = nI t := by
  intro k
  induction k with
  | zero => intro s i h1 h2; omega
  | succ k ih =>
    intro s i h1 h2 h3
    rw [casesBeforeL, if_neg (fun z => absurd ((nI_le_iff (by omega) (by omega)).mp z) (by omega))]
    by_cases hia : i = a
    · subst hia
      rw [if_pos caseB_self]
      obtain ⟨t, t1, t3⟩ := caL_r (cs := cs) (c := gC cs (nI i)) k s (nI i + 1) (by omega)
      exact ⟨t, by omega, t3⟩
    · split
      · rw [nI_s]
        obtain ⟨t, t1, t2⟩ := ih s (i + 1) (by omega) (by omega) (by omega)
        exact ⟨t, by omega, t2⟩
      · rw [nI_s, nI_s]
        obtain ⟨t, t1, t2⟩ := ih (s + 1) (i + 1) (by omega) (by omega) (by omega)
        exact ⟨t, by omega, t2⟩
theorem ccL_none {cs : List CaseC} (hm : cs.length < 2 ^ 10) {x : Int32} (hx : ∀ t : Nat, t < cs.length → ¬ nI t = x) : ∀ (k i : Nat), cs.length = i + k → ccL cs x k (nI i) = none := by
  intro k
  induction k with
  | zero => intro i h; rw [ccL]
  | succ k ih =>
    intro i h
    rw [ccL, if_neg (fun z => absurd ((nI_le_iff (by omega) (by omega)).mp z) (by omega))]
    obtain ⟨t, t1, t2⟩ := caL_s (cs := cs) (a := i) hm (by omega) cs.length 0 0 (by omega) (by omega) (by omega)
    have e : casesBefore cs (gC cs (nI i)) = nI t := by rw [casesBefore, nI_nat (by omega)]; exact t2
    rw [e, if_neg (hx t (by omega)), nI_s]
    exact ih (i + 1) (by omega)
theorem vByC_n {S : StC} {x : Int32} (h12 : S.2.2.1.length ≤ 12) (hx : ∀ t : Nat, t < S.2.2.1.length → ¬ nI t = x) : vByC S x = -1001 := by
  rw [vByC, ccV, nI_nat (by omega), show ccL S.2.2.1 x S.2.2.1.length 0 = none from ccL_none (by omega) hx S.2.2.1.length 0 (by omega)]; rfl

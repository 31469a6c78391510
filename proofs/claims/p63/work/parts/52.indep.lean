/-- two rows of the same length that agree on some cells -/
def agr (P : Nat → Prop) (l m : List Int32) : Prop := l.length = m.length ∧ ∀ q : Nat, P q → l.getD q 0 = m.getD q 0
theorem getD_setI {l : List Int32} {j q : Nat} {x : Int32} : (l.set j x).getD q 0 = if j = q ∧ j < l.length then x else l.getD q 0 := by
  rw [List.getD_eq_getElem?_getD, List.getD_eq_getElem?_getD, List.getElem?_set]
  by_cases h : j = q
  · subst h
    by_cases h2 : j < l.length
    · rw [if_pos rfl, if_pos h2, if_pos ⟨rfl, h2⟩]; rfl
    · rw [if_pos rfl, if_neg h2, if_neg (fun z => h2 z.2), List.getElem?_eq_none (by omega)]
  · rw [if_neg h, if_neg (fun z => h z.1)]
theorem agr.mono {P Q : Nat → Prop} {l m : List Int32} (h : agr P l m) (hq : ∀ q, Q q → P q) : agr Q l m := ⟨h.1, fun q z => h.2 q (hq q z)⟩
theorem agr.set {P : Nat → Prop} {l m : List Int32} (h : agr P l m) (j : Nat) (x : Int32) : agr (fun q => P q ∨ q = j) (l.set j x) (m.set j x) := by
  refine ⟨by rw [List.length_set, List.length_set, h.1], fun q hq => ?_⟩
  rw [getD_setI, getD_setI, h.1]
  by_cases hj : j = q ∧ j < m.length
  · rw [if_pos hj, if_pos hj]
  · rw [if_neg hj, if_neg hj]
    rcases hq with hq | hq
    · exact h.2 q hq
    · subst hq
      have : ¬ q < m.length := fun z => hj ⟨rfl, z⟩
      have h1 := h.1
      rw [List.getD_eq_getElem?_getD, List.getD_eq_getElem?_getD, List.getElem?_eq_none (by omega), List.getElem?_eq_none (by omega)]
theorem agr.all {P : Nat → Prop} {l m : List Int32} (h : agr P l m) (hp : ∀ q, q < l.length → P q) : l = m := by
  refine List.ext_getElem? fun q => ?_
  by_cases hq : q < l.length
  · have h1 := h.2 q (hp q hq)
    have h2 : q < m.length := h.1 ▸ hq
    rw [List.getD_eq_getElem?_getD, List.getD_eq_getElem?_getD, List.getElem?_eq_getElem hq, List.getElem?_eq_getElem h2] at h1
    rw [List.getElem?_eq_getElem hq, List.getElem?_eq_getElem h2]
    exact congrArg some h1
  · have h1 := h.1
    rw [List.getElem?_eq_none (by omega), List.getElem?_eq_none (by omega)]
theorem nI_le_iff {a b : Nat} (ha : a < 2 ^ 31) (hb : b < 2 ^ 31) : nI a ≤ nI b ↔ a ≤ b := by
  rw [Int32.le_iff_toInt_le, nI_toInt ha, nI_toInt hb]; omega
theorem nI_s {a : Nat} : nI a + 1 = nI (a + 1) := by
  show Int32.ofNat a + Int32.ofNat 1 = Int32.ofNat (a + 1)
  rw [← Int32.ofNat_add]
theorem nI_nat {j : Nat} (h : j < 2 ^ 31) : (nI j).toNatClampNeg = j := by
  show (nI j).toInt.toNat = j
  rw [nI_toInt h]; rfl
theorem sI_nI {l : List Int32} {j : Nat} {x : Int32} (h : j < 2 ^ 31) : sI l (nI j) x = l.set j x := by rw [sI, nI_nat h]
theorem gI_nI {l : List Int32} {j : Nat} (h : j < 2 ^ 31) : gI l (nI j) = l.getD j 0 := by rw [gI, nI_nat h]
-- groups
theorem sepAllL_i : ∀ (k i : Nat) (l m : List Int32), i ≤ 8 → 8 ≤ i + k → agr (fun q => q < i) l m → agr (fun q => q < 8) (sepAllL k (nI i) l) (sepAllL k (nI i) m) := by
  intro k
  induction k with
  | zero => intro i l m h1 h2 h; rw [sepAllL, sepAllL]; exact h.mono fun q hq => by omega
  | succ k ih =>
    intro i l m h1 h2 h
    rw [sepAllL, sepAllL]
    have hb : (8 : Int32) ≤ nI i ↔ 8 ≤ i := nI_le_iff (a := 8) (by omega) (by omega)
    by_cases hi : 8 ≤ i
    · rw [if_pos (hb.mpr hi), if_pos (hb.mpr hi)]; exact h.mono fun q hq => by omega
    · rw [if_neg (fun z => hi (hb.mp z)), if_neg (fun z => hi (hb.mp z)), nI_s, sI_nI (by omega), sI_nI (by omega)]
      exact ih (i + 1) _ _ (by omega) (by omega) ((h.set i (nI i)).mono fun q hq => by omega)
theorem sepAllL_len : ∀ (k : Nat) (i : Int32) (l : List Int32), (sepAllL k i l).length = l.length := by
  intro k
  induction k with
  | zero => intro i l; rw [sepAllL]
  | succ k ih =>
    intro i l
    rw [sepAllL]
    split
    · rfl
    · rw [ih, sI_len]
theorem sepAll_i {l m : List Int32} (hl : l.length = 8) (hm : m.length = 8) : sepAll l = sepAll m := by
  have h := sepAllL_i 8 0 l m (by omega) (by omega) ⟨hl.trans hm.symm, fun q hq => absurd hq (by omega)⟩
  exact h.all fun q hq => by rw [sepAllL_len, hl] at hq; exact hq
theorem forestJ_i {ten : List Int32} {n : Int32} {l m : List Int32} (hl : l.length = 8) (hm : m.length = 8) : forestJ ten n l = forestJ ten n m := by
  rw [forestJ, forestJ, sepAll_i hl hm]
-- docket
theorem byDa_i {cs : List CaseC} {td : Int32} : ∀ (k i : Nat) (fd : List CaseC) (l m : List Int32), i ≤ 61 → 61 ≤ i + k → agr (fun q => q < i) l m → (byDa cs td k (nI i) fd l).2.1 = fd ∧ agr (fun q => q < 61) (byDa cs td k (nI i) fd l).2.2 (byDa cs td k (nI i) fd m).2.2 ∧ (byDa cs td k (nI i) fd l).2.2.length = l.length := by
  intro k
  induction k with
  | zero => intro i fd l m h1 h2 h; rw [byDa, byDa]; exact ⟨rfl, h.mono fun q hq => (by omega), rfl⟩
  | succ k ih =>
    intro i fd l m h1 h2 h
    rw [byDa, byDa]
    have hb : (61 : Int32) ≤ nI i ↔ 61 ≤ i := nI_le_iff (a := 61) (by omega) (by omega)
    by_cases hi : 61 ≤ i
    · rw [if_pos (hb.mpr hi), if_pos (hb.mpr hi)]; exact ⟨rfl, h.mono fun q hq => (by omega), rfl⟩
    · rw [if_neg (fun z => hi (hb.mp z)), if_neg (fun z => hi (hb.mp z)), nI_s]
      split
      · rw [sI_nI (by omega), sI_nI (by omega)]
        have := ih (i + 1) fd _ _ (by omega) (by omega) ((h.set i 0).mono fun q hq => by omega)
        rw [List.length_set] at this
        exact this
      · rw [sI_nI (by omega), sI_nI (by omega)]
        have := ih (i + 1) fd _ _ (by omega) (by omega) ((h.set i (-1)).mono fun q hq => by omega)
        rw [List.length_set] at this
        exact this
theorem byD_i {cs fd fd2 : List CaseC} {td : Int32} {l m : List Int32} (hl : l.length = 61) (hm : m.length = 61) : byD cs td fd l = byD cs td fd2 m := by
  have h0 : agr (fun q => q < 0) l m := ⟨hl.trans hm.symm, fun q hq => absurd hq (by omega)⟩
  have h := byDa_i (cs := cs) (td := td) 61 0 (coll cs fd) l m (by omega) (by omega) h0
  have h2 := byDa_i (cs := cs) (td := td) 61 0 (coll cs fd) m m (by omega) (by omega) ⟨rfl, fun q hq => rfl⟩
  have e : (byDa cs td 61 0 (coll cs fd) l).2.2 = (byDa cs td 61 0 (coll cs fd) m).2.2 := h.2.1.all fun q hq => by
    have := h.2.2
    rw [hl] at this
    change (byDa cs td 61 0 (coll cs fd) l).2.2.length = 61 at this
    change q < (byDa cs td 61 0 (coll cs fd) l).2.2.length at hq
    omega
  have ec : coll cs fd2 = coll cs fd := rfl
  have e1 : ∀ z : List Int32, z.length = 61 → (byDa cs td 61 0 (coll cs fd) z).2.1 = coll cs fd := fun z hz => (byDa_i (cs := cs) (td := td) 61 0 (coll cs fd) z z (by omega) (by omega) ⟨rfl, fun q hq => rfl⟩).1
  have hk : (byDa cs td 61 0 (coll cs fd) m).2.2.length = 61 := by
    have := h2.2.2
    rw [hm] at this
    exact this
  rw [byD, byD, ec, e, e1 l hl, e1 m hm]
-- settlement
theorem addA_i {x : Int32} {c : Nat} {l m : List Int32} (hc : c ≤ 9) (h : agr (fun q => q < c) l m) : ∃ d : Nat, d ≤ 9 ∧ (addA x (nI c) l).1 = nI d ∧ (addA x (nI c) m).1 = nI d ∧ agr (fun q => q < d) (addA x (nI c) l).2 (addA x (nI c) m).2 ∧ (addA x (nI c) l).2.length = l.length := by
  unfold addA
  have hb : (9 : Int32) ≤ nI c ↔ 9 ≤ c := nI_le_iff (a := 9) (by omega) (by omega)
  by_cases hx : x = 0
  · rw [if_pos hx, if_pos hx]; exact ⟨c, hc, rfl, rfl, h, rfl⟩
  · by_cases h9 : 9 ≤ c
    · rw [if_neg hx, if_neg hx, if_pos (hb.mpr h9), if_pos (hb.mpr h9)]; exact ⟨c, hc, rfl, rfl, h, rfl⟩
    · rw [if_neg hx, if_neg hx, if_neg (fun z => h9 (hb.mp z)), if_neg (fun z => h9 (hb.mp z))]
      refine ⟨c + 1, by omega, nI_s, nI_s, ?_, sI_len⟩
      rw [sI_nI (by omega), sI_nI (by omega)]
      exact (h.set c x).mono fun q hq => by omega
theorem collAL_i {bal : List Int32} {n ch : Int32} : ∀ (k : Nat) (i : Int32) (c : Nat) (l m : List Int32), c ≤ 9 → agr (fun q => q < c) l m → ∃ d : Nat, d ≤ 9 ∧ (collAL bal n ch k i (nI c) l).1 = nI d ∧ (collAL bal n ch k i (nI c) m).1 = nI d ∧ agr (fun q => q < d) (collAL bal n ch k i (nI c) l).2 (collAL bal n ch k i (nI c) m).2 ∧ (collAL bal n ch k i (nI c) l).2.length = l.length := by
  intro k
  induction k with
  | zero => intro i c l m hc h; rw [collAL, collAL]; exact ⟨c, hc, rfl, rfl, h, rfl⟩
  | succ k ih =>
    intro i c l m hc h
    rw [collAL, collAL]
    split
    · exact ⟨c, hc, rfl, rfl, h, rfl⟩
    · obtain ⟨d, h1, h2, h3, h4, h5⟩ := addA_i (x := rd bal 8 i) hc h
      rw [h2, h3]
      obtain ⟨d2, j1, j2, j3, j4, j5⟩ := ih (i + 1) d _ _ h1 h4
      exact ⟨d2, j1, j2, j3, j4, j5.trans h5⟩
theorem mask_b : ∀ x < 512, ∀ i < 9, (nI x &&& (((1 : Int32) <<< (nI i &&& 31)) ^^^ (-1))) = nI x ∨ (2 ^ i ≤ x ∧ ∃ r < x, (nI x &&& (((1 : Int32) <<< (nI i &&& 31)) ^^^ (-1))) = nI r) := by
  have h : ∀ x < 512, ∀ i < 9, (nI x &&& (((1 : Int32) <<< (nI i &&& 31)) ^^^ (-1))) = nI x ∨ (2 ^ i ≤ x ∧ (nI x &&& (((1 : Int32) <<< (nI i &&& 31)) ^^^ (-1))).toNatClampNeg < x ∧ (nI x &&& (((1 : Int32) <<< (nI i &&& 31)) ^^^ (-1))) = nI (nI x &&& (((1 : Int32) <<< (nI i &&& 31)) ^^^ (-1))).toNatClampNeg) := by decide +kernel
  intro x hx i hi
  rcases h x hx i hi with h1 | h1
  · exact Or.inl h1
  · exact Or.inr ⟨h1.1, _, h1.2.1, h1.2.2⟩
theorem shl_b : ∀ c ≤ 9, ((1 : Int32) <<< (nI c &&& 31)) = nI (2 ^ c) := by decide +kernel
theorem partL_i {al am pl pm : List Int32} {c x : Nat} (hx : x < 512) (hxc : x < 2 ^ c) (hc : c ≤ 9) (ha : agr (fun q => q < c) al am) (hp : agr (fun q => q < x) pl pm) : ∀ (k : Nat) (pa su : Int32) (i : Nat), i ≤ 9 → partL al pl (nI x) k pa su (nI i) = partL am pm (nI x) k pa su (nI i) := by
  intro k
  induction k with
  | zero => intro pa su i hi; rw [partL, partL]
  | succ k ih =>
    intro pa su i hi
    rw [partL, partL]
    have hb : (9 : Int32) ≤ nI i ↔ 9 ≤ i := nI_le_iff (a := 9) (by omega) (by omega)
    by_cases h9 : 9 ≤ i
    · rw [if_pos (hb.mpr h9), if_pos (hb.mpr h9)]
    · rw [if_neg (fun z => h9 (hb.mp z)), if_neg (fun z => h9 (hb.mp z)), nI_s]
      rcases mask_b x hx i (by omega) with h1 | ⟨h1, r, hr, h2⟩
      · rw [if_pos h1, if_pos h1]; exact ih _ _ _ (by omega)
      · have hic : i < c := (Nat.pow_lt_pow_iff_right (a := 2) (by omega)).mp (by omega)
        have e1 : gI al (nI i) = gI am (nI i) := by rw [gI_nI (by omega), gI_nI (by omega)]; exact ha.2 i hic
        have e2 : gI pl (nI r) = gI pm (nI r) := by rw [gI_nI (by omega), gI_nI (by omega)]; exact hp.2 r hr
        rw [h2, e1, e2]
        split
        · exact ih _ _ _ (by omega)
        · split
          · exact ih _ _ _ (by omega)
          · split
            · exact ih _ _ _ (by omega)
            · exact ih _ _ _ (by omega)
theorem bySL_i {bal : List Int32} {n ch : Int32} {al am : List Int32} {c : Nat} (hc : c ≤ 9) (ha : agr (fun q => q < c) al am) : ∀ (k : Nat) (pa : Int32) (i : Nat) (pl pm : List Int32), 1 ≤ i → i ≤ 512 → agr (fun q => q < i) pl pm → (bySL bal n ch k pa (nI i) (nI c) al pl).1 = (bySL bal n ch k pa (nI i) (nI c) am pm).1 ∧ gI (bySL bal n ch k pa (nI i) (nI c) al pl).2.2.2 0 = gI pl 0 := by
  intro k
  induction k with
  | zero => intro pa i pl pm h1 hi h; rw [bySL, bySL]; split <;> exact ⟨rfl, rfl⟩
  | succ k ih =>
    intro pa i pl pm h1 hi h
    rw [bySL, bySL, shl_b c hc]
    have hb : (512 : Int32) ≤ nI i ↔ 512 ≤ i := nI_le_iff (a := 512) (by omega) (by omega)
    have hp9 : 2 ^ c ≤ 2 ^ 9 := Nat.pow_le_pow_right (by omega) hc
    have hb2 : nI (2 ^ c) ≤ nI i ↔ 2 ^ c ≤ i := nI_le_iff (by omega) (by omega)
    by_cases h2 : 2 ^ c ≤ i
    · rw [if_pos (hb2.mpr h2), if_pos (hb2.mpr h2)]; exact ⟨rfl, rfl⟩
    · rw [if_neg (fun z => h2 (hb2.mp z)), if_neg (fun z => h2 (hb2.mp z))]
      by_cases h3 : 512 ≤ i
      · rw [if_pos (hb.mpr h3), if_pos (hb.mpr h3)]; exact ⟨rfl, rfl⟩
      · rw [if_neg (fun z => h3 (hb.mp z)), if_neg (fun z => h3 (hb.mp z)), nI_s]
        have e : partO al pl (nI i) = partO am pm (nI i) := partL_i (by omega) (by omega) hc ha h 9 0 0 0 (by omega)
        rw [← e, sI_nI (by omega), sI_nI (by omega)]
        have := ih (partO al pl (nI i)) (i + 1) _ _ (by omega) (by omega) ((h.set i (partO al pl (nI i))).mono fun q hq => by omega)
        refine ⟨this.1, this.2.trans ?_⟩
        show (pl.set i _).getD 0 0 = pl.getD 0 0
        rw [getD_setI, if_neg (by omega)]
theorem byS_i {bal : List Int32} {n ch cnt cnt2 : Int32} {al am pl pm : List Int32} (h1 : al.length = am.length) (h2 : pl.length = pm.length) (h3 : gI pl 0 = gI pm 0) : (byS bal n ch cnt al pl).1 = (byS bal n ch cnt2 am pm).1 ∧ gI (byS bal n ch cnt al pl).2.2.2 0 = gI pl 0 := by
  rw [byS, byS, collA, collA]
  obtain ⟨d, a1, a2, a3, a4, a5⟩ := addA_i (x := ch) (c := 0) (by omega) (l := al) (m := am) ⟨h1, fun q hq => absurd hq (by omega)⟩
  change (addA ch 0 al).1 = nI d at a2
  change (addA ch 0 am).1 = nI d at a3
  rw [a2, a3]
  obtain ⟨e, b1, b2, b3, b4, b5⟩ := collAL_i (bal := bal) (n := n) (ch := ch) n.toNatClampNeg 0 d _ _ a1 a4
  have b2' := b2
  have b3' := b3
  change (collAL bal n ch n.toNatClampNeg 0 (nI d) (addA ch 0 al).2).1 = nI e at b2'
  change (collAL bal n ch n.toNatClampNeg 0 (nI d) (addA ch 0 am).2).1 = nI e at b3'
  rw [b2', b3']
  exact bySL_i b1 b4 512 0 1 pl pm (by omega) (by omega) ⟨h2, fun q hq => by
    have : q = 0 := by omega
    subst this
    exact h3⟩
-- distance of words
theorem cell_ix : ∀ a < 9, ∀ b < 9, (nI a * 9 + nI b) = nI (9 * a + b) := by decide +kernel
theorem cellA_nI {l : List Int32} {a b : Nat} (ha : a < 9) (hb : b < 9) : cellA l (nI a) (nI b) = l.getD (9 * a + b) 0 := by
  rw [cellA, cell_ix a ha b hb, if_neg (nI_pos (by omega)), if_neg (show ¬ (81 : Int32) ≤ nI (9 * a + b) from fun z => absurd ((nI_le_iff (a := 81) (by omega) (by omega)).mp z) (by omega)), gI_nI (by omega)]
theorem putCe_nI {l : List Int32} {a b : Nat} {z : Int32} (ha : a < 9) (hb : b < 9) : putCe (nI a) (nI b) z l = l.set (9 * a + b) z := by
  rw [putCe, cell_ix a ha b hb, if_neg (nI_pos (by omega)), if_neg (show ¬ (81 : Int32) ≤ nI (9 * a + b) from fun z => absurd ((nI_le_iff (a := 81) (by omega) (by omega)).mp z) (by omega)), sI_nI (by omega)]
theorem nI_p {a : Nat} (h : 1 ≤ a) : nI a - 1 = nI (a - 1) := nI_sub (b := 1) h
theorem nI_p2 {a : Nat} (h : 2 ≤ a) : nI a - 2 = nI (a - 2) := nI_sub (b := 2) h
theorem sameL_i {lf ls lg lh : List Int32} {P Q : Nat → Prop} {a b : Nat} (ha : a < 9) (hb : b < 9) (h1 : agr P lf lg) (h2 : agr Q ls lh) (hp : 1 ≤ a → P (a - 1)) (hq : 1 ≤ b → Q (b - 1)) : sameL lf ls (nI a) (nI b) = sameL lg lh (nI a) (nI b) := by
  unfold sameL
  have c1 : nI a < (1 : Int32) ↔ a < 1 := nI_ltI (b := 1) (by omega) (by omega)
  have c2 : nI b < (1 : Int32) ↔ b < 1 := nI_ltI (b := 1) (by omega) (by omega)
  by_cases d1 : a < 1
  · rw [if_pos (c1.mpr d1), if_pos (c1.mpr d1)]
  · rw [if_neg (fun z => d1 (c1.mp z)), if_neg (fun z => d1 (c1.mp z))]
    split
    · rfl
    · by_cases d2 : b < 1
      · rw [if_pos (c2.mpr d2), if_pos (c2.mpr d2)]
      · rw [if_neg (fun z => d2 (c2.mp z)), if_neg (fun z => d2 (c2.mp z))]
        split
        · rfl
        · rw [nI_p (by omega), nI_p (by omega), gI_nI (by omega), gI_nI (by omega), gI_nI (by omega), gI_nI (by omega), h1.2 _ (hp (by omega)), h2.2 _ (hq (by omega))]
theorem begD_c {lf ls lt lg lh lu : List Int32} {x y : Int32} (hs : sameL lf ls x y = sameL lg lh x y) (hc1 : ¬ x = 0 → ¬ y = 0 → cellA lt (x - 1) y = cellA lu (x - 1) y ∧ cellA lt x (y - 1) = cellA lu x (y - 1) ∧ cellA lt (x - 1) (y - 1) = cellA lu (x - 1) (y - 1)) (hc2 : ¬ x < 2 → ¬ y < 2 → sameL lf ls x (y - 1) = sameL lg lh x (y - 1) ∧ sameL lf ls (x - 1) y = sameL lg lh (x - 1) y ∧ cellA lt (x - 2) (y - 2) = cellA lu (x - 2) (y - 2)) : begD lf ls lt x y = begD lg lh lu x y := by
  unfold begD
  by_cases h1 : x = 0
  · rw [if_pos h1, if_pos h1]
  · by_cases h2 : y = 0
    · rw [if_neg h1, if_neg h1, if_pos h2, if_pos h2]
    · obtain ⟨a1, a2, a3⟩ := hc1 h1 h2
      by_cases h3 : x < 2
      · simp only [if_neg h1, if_neg h2, if_pos h3, hs, a1, a2, a3]
      · by_cases h4 : y < 2
        · simp only [if_neg h1, if_neg h2, if_neg h3, if_pos h4, hs, a1, a2, a3]
        · obtain ⟨b1, b2, b3⟩ := hc2 h3 h4
          simp only [if_neg h1, if_neg h2, if_neg h3, if_neg h4, hs, a1, a2, a3, b1, b2, b3]
/-- the cells of the table that are written when (a, b) is next -/
def wrt (m a b q : Nat) : Prop := ∃ a2 b2 : Nat, q = 9 * a2 + b2 ∧ b2 ≤ m ∧ (a2 < a ∨ a2 = a ∧ b2 < b)
theorem begD_i {lf ls lt lg lh lu : List Int32} {m1 m2 a b : Nat} (hm1 : m1 ≤ 8) (hm2 : m2 ≤ 8) (ha : a ≤ m1) (hb : b ≤ m2) (h1 : agr (fun q => q < m1) lf lg) (h2 : agr (fun q => q < m2) ls lh) (h3 : agr (wrt m2 a b) lt lu) : begD lf ls lt (nI a) (nI b) = begD lg lh lu (nI a) (nI b) := by
  refine begD_c (sameL_i (by omega) (by omega) h1 h2 (by omega) (by omega)) (fun n1 n2 => ?_) (fun n1 n2 => ?_)
  · have a1 : 1 ≤ a := by
      rcases Nat.eq_zero_or_pos a with rfl | h
      · exact absurd rfl n1
      · exact h
    have b1 : 1 ≤ b := by
      rcases Nat.eq_zero_or_pos b with rfl | h
      · exact absurd rfl n2
      · exact h
    rw [nI_p a1, nI_p b1]
    simp only [cellA_nI (l := lt) (a := a - 1) (b := b) (by omega) (by omega), cellA_nI (l := lu) (a := a - 1) (b := b) (by omega) (by omega), cellA_nI (l := lt) (a := a) (b := b - 1) (by omega) (by omega), cellA_nI (l := lu) (a := a) (b := b - 1) (by omega) (by omega), cellA_nI (l := lt) (a := a - 1) (b := b - 1) (by omega) (by omega), cellA_nI (l := lu) (a := a - 1) (b := b - 1) (by omega) (by omega)]
    exact ⟨h3.2 _ ⟨_, _, rfl, by omega, by omega⟩, h3.2 _ ⟨_, _, rfl, by omega, by omega⟩, h3.2 _ ⟨_, _, rfl, by omega, by omega⟩⟩
  · have a1 : 2 ≤ a := nI_geN (k := 2) (by omega) n1
    have b1 : 2 ≤ b := nI_geN (k := 2) (by omega) n2
    rw [nI_p (by omega), nI_p (by omega), nI_p2 a1, nI_p2 b1]
    refine ⟨sameL_i (by omega) (by omega) h1 h2 (by omega) (by omega), sameL_i (by omega) (by omega) h1 h2 (by omega) (by omega), ?_⟩
    rw [cellA_nI (by omega) (by omega), cellA_nI (by omega) (by omega)]
    exact h3.2 _ ⟨_, _, rfl, by omega, by omega⟩
theorem imin8 {k : Nat} (h : k ≤ 8) : imin (nI k) 8 = nI k := by
  show imin (nI k) (nI 8) = nI k
  rw [imin_nI (by omega) (by omega), Nat.min_eq_left h]
theorem putAL_i {w : List Int32} (hw : w.length ≤ 8) : ∀ (k i : Nat) (l m : List Int32), i ≤ w.length → w.length ≤ i + k → agr (fun q => q < i) l m → agr (fun q => q < w.length) (putAL w k (nI i) l).2 (putAL w k (nI i) m).2 := by
  intro k
  induction k with
  | zero => intro i l m h1 h2 h; rw [putAL, putAL]; exact h.mono fun q hq => by omega
  | succ k ih =>
    intro i l m h1 h2 h
    rw [putAL, putAL, imin8 hw]
    have hb : nI w.length ≤ nI i ↔ w.length ≤ i := nI_le_iff (by omega) (by omega)
    by_cases hi : w.length ≤ i
    · rw [if_pos (hb.mpr hi), if_pos (hb.mpr hi)]; exact h.mono fun q hq => by omega
    · rw [if_neg (fun z => hi (hb.mp z)), if_neg (fun z => hi (hb.mp z)), nI_s, sI_nI (by omega), sI_nI (by omega)]
      exact ih (i + 1) _ _ (by omega) (by omega) ((h.set i _).mono fun q hq => by omega)
theorem putBL_i {w : List Int32} (hw : w.length ≤ 8) : ∀ (k i : Nat) (l m : List Int32), i ≤ w.length → w.length ≤ i + k → agr (fun q => q < i) l m → agr (fun q => q < w.length) (putBL w k (nI i) l).2 (putBL w k (nI i) m).2 := by
  intro k
  induction k with
  | zero => intro i l m h1 h2 h; rw [putBL, putBL]; exact h.mono fun q hq => by omega
  | succ k ih =>
    intro i l m h1 h2 h
    rw [putBL, putBL, imin8 hw]
    have hb : nI w.length ≤ nI i ↔ w.length ≤ i := nI_le_iff (by omega) (by omega)
    by_cases hi : w.length ≤ i
    · rw [if_pos (hb.mpr hi), if_pos (hb.mpr hi)]; exact h.mono fun q hq => by omega
    · rw [if_neg (fun z => hi (hb.mp z)), if_neg (fun z => hi (hb.mp z)), nI_s, sI_nI (by omega), sI_nI (by omega)]
      exact ih (i + 1) _ _ (by omega) (by omega) ((h.set i _).mono fun q hq => by omega)
theorem byBI_i {w1 w2 : List Int32} (hw1 : w1.length ≤ 8) (hw2 : w2.length ≤ 8) {lf ls lg lh : List Int32} (h1 : agr (fun q => q < w1.length) lf lg) (h2 : agr (fun q => q < w2.length) ls lh) {a : Nat} (ha : a ≤ w1.length) : ∀ (k b : Nat) (lt lu : List Int32), b ≤ w2.length + 1 → w2.length + 1 ≤ b + k → agr (wrt w2.length a b) lt lu → (byBI w1 w2 (nI a) k (nI b) lf ls lt).2.1 = lf ∧ (byBI w1 w2 (nI a) k (nI b) lf ls lt).2.2.1 = ls ∧ (byBI w1 w2 (nI a) k (nI b) lg lh lu).2.1 = lg ∧ (byBI w1 w2 (nI a) k (nI b) lg lh lu).2.2.1 = lh ∧ agr (wrt w2.length (a + 1) 0) (byBI w1 w2 (nI a) k (nI b) lf ls lt).2.2.2 (byBI w1 w2 (nI a) k (nI b) lg lh lu).2.2.2 := by
  have fin : ∀ (b : Nat) (lt lu : List Int32), w2.length < b → agr (wrt w2.length a b) lt lu → agr (wrt w2.length (a + 1) 0) lt lu := fun b lt lu hb h => h.mono fun q hq => by
    obtain ⟨a2, b2, e, e2, e3⟩ := hq
    exact ⟨a2, b2, e, e2, by omega⟩
  intro k
  induction k with
  | zero => intro b lt lu hb hk h; rw [byBI, byBI]; exact ⟨rfl, rfl, rfl, rfl, fin b _ _ (by omega) h⟩
  | succ k ih =>
    intro b lt lu hb hk h
    rw [byBI, byBI, imin8 hw2]
    have hc : nI w2.length < nI b ↔ w2.length < b := nI_ltI (by omega) (by omega)
    by_cases hi : w2.length < b
    · rw [if_pos (hc.mpr hi), if_pos (hc.mpr hi)]; exact ⟨rfl, rfl, rfl, rfl, fin b _ _ hi h⟩
    · rw [if_neg (fun z => hi (hc.mp z)), if_neg (fun z => hi (hc.mp z)), nI_s, putCe_nI (by omega) (by omega), putCe_nI (by omega) (by omega), ← begD_i hw1 hw2 ha (by omega) h1 h2 h]
      refine ih (b + 1) _ _ (by omega) (by omega) ((h.set (9 * a + b) _).mono fun q hq => ?_)
      obtain ⟨a2, b2, e, e2, e3⟩ := hq
      rcases e3 with e3 | ⟨e3, e4⟩
      · exact Or.inl ⟨a2, b2, e, e2, Or.inl e3⟩
      · by_cases e5 : b2 < b
        · exact Or.inl ⟨a2, b2, e, e2, Or.inr ⟨e3, e5⟩⟩
        · exact Or.inr (by omega)
theorem byBL_i {w1 w2 : List Int32} (hw1 : w1.length ≤ 8) (hw2 : w2.length ≤ 8) {lf ls lg lh : List Int32} (h1 : agr (fun q => q < w1.length) lf lg) (h2 : agr (fun q => q < w2.length) ls lh) : ∀ (k a : Nat) (lt lu : List Int32), a ≤ w1.length + 1 → w1.length + 1 ≤ a + k → agr (wrt w2.length a 0) lt lu → (byBL w1 w2 k (nI a) lf ls lt).1 = (byBL w1 w2 k (nI a) lg lh lu).1 ∧ (byBL w1 w2 k (nI a) lf ls lt).2.1 = lf ∧ (byBL w1 w2 k (nI a) lf ls lt).2.2.1 = ls ∧ (byBL w1 w2 k (nI a) lg lh lu).2.1 = lg ∧ (byBL w1 w2 k (nI a) lg lh lu).2.2.1 = lh ∧ (byBL w1 w2 k (nI a) lf ls lt).2.2.2.length = (byBL w1 w2 k (nI a) lg lh lu).2.2.2.length := by
  have fin : ∀ (a : Nat) (lt lu : List Int32), w1.length < a → agr (wrt w2.length a 0) lt lu → cellA lt (nI w1.length) (nI w2.length) = cellA lu (nI w1.length) (nI w2.length) := fun a lt lu ha h => by
    rw [cellA_nI (by omega) (by omega), cellA_nI (by omega) (by omega)]
    exact h.2 _ ⟨_, _, rfl, by omega, by omega⟩
  intro k
  induction k with
  | zero => intro a lt lu ha hk h; rw [byBL, byBL, imin8 hw1, imin8 hw2]; exact ⟨fin a _ _ (by omega) h, rfl, rfl, rfl, rfl, h.1⟩
  | succ k ih =>
    intro a lt lu ha hk h
    rw [byBL, byBL, imin8 hw1, imin8 hw2]
    have hc : nI w1.length < nI a ↔ w1.length < a := nI_ltI (by omega) (by omega)
    by_cases hi : w1.length < a
    · rw [if_pos (hc.mpr hi), if_pos (hc.mpr hi)]; exact ⟨fin a _ _ hi h, rfl, rfl, rfl, rfl, h.1⟩
    · rw [if_neg (fun z => hi (hc.mp z)), if_neg (fun z => hi (hc.mp z)), nI_s, nI_nat (by omega)]
      obtain ⟨j1, j2, j3, j4, j5⟩ := byBI_i hw1 hw2 h1 h2 (a := a) (by omega) (w2.length + 1) 0 lt lu (by omega) (by omega) h
      change (byBI w1 w2 (nI a) (w2.length + 1) 0 lf ls lt).2.1 = lf at j1
      change (byBI w1 w2 (nI a) (w2.length + 1) 0 lf ls lt).2.2.1 = ls at j2
      change (byBI w1 w2 (nI a) (w2.length + 1) 0 lg lh lu).2.1 = lg at j3
      change (byBI w1 w2 (nI a) (w2.length + 1) 0 lg lh lu).2.2.1 = lh at j4
      rw [j1, j2, j3, j4]
      exact ih (a + 1) _ _ (by omega) (by omega) j5
theorem byB_i {w1 w2 : List Int32} (hw1 : w1.length ≤ 8) (hw2 : w2.length ≤ 8) {lf ls lt lg lh lu : List Int32} (h1 : lf.length = lg.length) (h2 : ls.length = lh.length) (h3 : lt.length = lu.length) : (byB w1 w2 lf ls lt).1 = (byB w1 w2 lg lh lu).1 ∧ (byB w1 w2 lf ls lt).2.1.length = (byB w1 w2 lg lh lu).2.1.length ∧ (byB w1 w2 lf ls lt).2.2.1.length = (byB w1 w2 lg lh lu).2.2.1.length ∧ (byB w1 w2 lf ls lt).2.2.2.length = (byB w1 w2 lg lh lu).2.2.2.length := by
  rw [byB, byB, putA, putA, putB, putB, imin8 hw1, imin8 hw2, nI_nat (by omega), nI_nat (by omega)]
  have a1 := putAL_i hw1 w1.length 0 lf lg (by omega) (by omega) ⟨h1, fun q hq => absurd hq (by omega)⟩
  have a2 := putBL_i hw2 w2.length 0 ls lh (by omega) (by omega) ⟨h2, fun q hq => absurd hq (by omega)⟩
  obtain ⟨b1, b2, b3, b4, b5, b6⟩ := byBL_i hw1 hw2 a1 a2 (w1.length + 1) 0 lt lu (by omega) (by omega) ⟨h3, fun q hq => by
    obtain ⟨x, y, e, e2, e3⟩ := hq
    omega⟩
  refine ⟨b1, ?_, ?_, b6⟩
  · exact (congrArg List.length b2).trans (a1.1.trans (congrArg List.length b4).symm)
  · exact (congrArg List.length b3).trans (a2.1.trans (congrArg List.length b5).symm)
theorem nearL_i {ps : List PrecC} {mt : List Int32} {x y : Int32} (hmt : mt.length ≤ 8) (hps : ∀ i : Int32, (gP ps i).1.length ≤ 8) : ∀ (k : Nat) (b sm i : Int32) (lf ls lt lg lh lu : List Int32), lf.length = lg.length → ls.length = lh.length → lt.length = lu.length → (nearL ps mt x y k b sm i lf ls lt).1 = (nearL ps mt x y k b sm i lg lh lu).1 := by
  intro k
  induction k with
  | zero => intro b sm i lf ls lt lg lh lu h1 h2 h3; rw [nearL, nearL]
  | succ k ih =>
    intro b sm i lf ls lt lg lh lu h1 h2 h3
    rw [nearL, nearL]
    obtain ⟨e1, e2, e3, e4⟩ := byB_i hmt (hps i) h1 h2 h3
    rw [← e1]
    split
    · rfl
    · split
      · exact ih _ _ _ _ _ _ _ _ _ h1 h2 h3
      · split
        · exact ih _ _ _ _ _ _ _ _ _ h1 h2 h3
        · split
          · exact ih _ _ _ _ _ _ _ _ _ e2 e3 e4
          · split
            · exact ih _ _ _ _ _ _ _ _ _ e2 e3 e4
            · exact ih _ _ _ _ _ _ _ _ _ e2 e3 e4
theorem near_i {ps : List PrecC} {mt : List Int32} {x y : Int32} (hmt : mt.length ≤ 8) (hps : ∀ i : Int32, (gP ps i).1.length ≤ 8) {lf ls lt lg lh lu : List Int32} (h1 : lf.length = lg.length) (h2 : ls.length = lh.length) (h3 : lt.length = lu.length) : (near ps mt x y lf ls lt).1 = (near ps mt x y lg lh lu).1 := by
  rw [near, near]
  exact nearL_i hmt hps _ _ _ _ _ _ _ _ _ _ h1 h2 h3

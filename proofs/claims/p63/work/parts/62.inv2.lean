/-- an answer with its state: not negative and a good state, or one of the faults -/
def good (Es : List String) (k : Nat) (r : Int32 × StC) : Prop := ((∃ v : Nat, v < 2 ^ 31 ∧ r.1 = nI v) ∧ INV (k + 1) r.2) ∨ ∃ E : String, E ∈ Es ∧ flt r.1 = some E
theorem good.fa {Es : List String} {k : Nat} {r : Int32 × StC} (h : good Es k r) : ∀ E : String, flt r.1 = some E → E ∈ Es := by
  intro E hE
  rcases h with ⟨⟨v, hv, e⟩, -⟩ | ⟨E2, h1, h2⟩
  · rw [e, flt_nI hv] at hE; cases hE
  · rw [h2] at hE; cases hE; exact h1
theorem good.ok {Es : List String} {k : Nat} {r : Int32 × StC} (h : good Es k r) (hf : flt r.1 = none) : (∃ v : Nat, v < 2 ^ 31 ∧ r.1 = nI v) ∧ INV (k + 1) r.2 := by
  rcases h with h | ⟨E2, h1, h2⟩
  · exact h
  · rw [h2] at hf; cases hf
theorem b2i_q {b : Bool} (h : ¬ b2i b = 0) : b = true := b2i_n.mp h
theorem hasB_nI {n x : Int32} (hn : rng 8 n) (h : ¬ b2i (hasB n x) = 0) : ∃ j : Nat, j < 8 ∧ x = nI j := by
  have h2 := of_decide_eq_true (p := ¬ x < 0 ∧ ¬ n ≤ x) (b2i_q h)
  obtain ⟨m, hm, rfl⟩ := hn
  obtain ⟨j, hj, rfl⟩ := nI_of h2.1
  exact ⟨j, Nat.lt_of_lt_of_le (Nat.lt_of_not_le fun z => h2.2 ((nI_le_iff (by omega) hj).mpr z)) hm, rfl⟩
theorem isBtw_r {x : Int32} {a b : Nat} (ha : a < 2 ^ 30) (hb : b < 2 ^ 30) (h : ¬ isBtw x (nI a) (nI b) = 0) : ∃ v : Nat, a ≤ v ∧ v ≤ b ∧ x = nI v := by
  unfold isBtw at h
  by_cases h1 : x < nI a
  · rw [if_pos h1] at h; exact absurd rfl h
  · rw [if_neg h1] at h
    by_cases h2 : nI b < x
    · rw [if_pos h2] at h; exact absurd rfl h
    · have e1 : (a : Int) ≤ x.toInt := by
        have := Int32.le_iff_toInt_le.mp (Int32.not_lt.mp h1)
        rw [nI_toInt (by omega)] at this; exact this
      have e2 : x.toInt ≤ (b : Int) := by
        have := Int32.le_iff_toInt_le.mp (Int32.not_lt.mp h2)
        rw [nI_toInt (by omega)] at this; exact this
      exact ⟨x.toInt.toNat, by omega, by omega, nI_ofT (by omega) (by omega)⟩
theorem tenB.set {l : List Int32} (h : tenB l) {z : Int32} (hz : rng 20 z) (j : Nat) (hj : j = 0 → z = 0) : tenB (l.set j z) := by
  refine ⟨fun q => ?_, ?_⟩
  · rw [getD_setI]
    split
    · obtain ⟨v, h1, h2⟩ := hz
      exact ⟨v, h1, h2⟩
    · exact h.1 q
  · rw [getD_setI]
    split
    · rename_i e
      exact hj e.1
    · exact h.2
theorem putCB_inv {k : Nat} {S : StC} (h : INV k S) {x z : Int32} (hz : rng 20 z) (hx : x.toNatClampNeg = 0 → z = 0) : INV k (putCB S x z) := by
  obtain ⟨bal, ten, cs, ps, n, ch, td, nx⟩ := S
  obtain ⟨h1, h2, h3⟩ := h
  unfold putCB putC
  split
  · exact ⟨h1, h2, h3⟩
  · split
    · exact ⟨h1, h2, h3⟩
    · exact ⟨h1, tenB.set h2 hz _ hx, h3⟩
theorem addCB_inv {k : Nat} {S : StC} (h : INV k S) {x z : Int32} : INV k (addCB S x z) := by
  obtain ⟨bal, ten, cs, ps, n, ch, td, nx⟩ := S
  unfold addCB addC
  split
  · exact h
  · split
    · exact h
    · obtain ⟨h1, h2, h3, h4, h5, h6, h7, h8, h9⟩ := h
      exact ⟨h1, h2, h3, h4, h5, h6, h7, h8, sI_len.trans h9⟩
theorem payCB_inv {k : Nat} {S : StC} (h : INV k S) {x z : Int32} : INV k (payCB S x z) := by
  have h2 := addCB_inv (x := x) (z := -z) h
  exact h2
theorem putTB_inv {k : Nat} {S : StC} (h : INV k S) {x y z : Int32} (hz : rng 20 z) (h1 : (x * 8 + y).toNatClampNeg = 0 → z = 0) (h2 : (y * 8 + x).toNatClampNeg = 0 → z = 0) : INV k (putTB S x y z) := putCB_inv (putCB_inv h hz h1) hz h2
theorem moveAB_inv {k : Nat} {S : StC} (h : INV k S) {c : CaseC} {z : Int32} : INV k (moveAB S c z) := addCB_inv (addCB_inv h)
theorem shareCB_inv {k : Nat} {S : StC} (h : INV k S) {c : CaseC} : INV k (shareCB S c) := payCB_inv (payCB_inv h)
def IO : String := "java/lang/IndexOutOfBoundsException"
def IA : String := "java/lang/IllegalArgumentException"
def IS : String := "java/lang/IllegalStateException"
def NS : String := "java/util/NoSuchElementException"
def UO : String := "java/lang/UnsupportedOperationException"
theorem qEnt_g {k : Nat} {S : StC} (h : INV k S) : good [IS] k (qEnt S) := by
  obtain ⟨bal, ten, cs, ps, n, ch, td, nx⟩ := S
  obtain ⟨m, hm, e⟩ := h.1
  have e' : n = nI m := e
  subst e'
  show good _ k (enterB bal ten cs ps (nI m) ch td nx)
  unfold enterB
  split
  · rename_i hlt
    have h8 : m < 8 := nI_ltN (by omega) (by decide) hlt
    have h' := h.mono (Nat.le_succ k)
    exact Or.inl ⟨⟨m, by omega, by show nI m + 1 - 1 = nI m; rw [nI_s, nI_p (by omega)]; rfl⟩, ⟨m + 1, by omega, nI_s⟩, h'.2⟩
  · exact Or.inr ⟨IS, by decide, rfl⟩
theorem rng_lt {B : Nat} {x : Int32} (h : rng B x) (hb : B < 2 ^ 31) : ∃ v : Nat, v < 2 ^ 31 ∧ x = nI v := by
  obtain ⟨v, h1, h2⟩ := h
  exact ⟨v, by omega, h2⟩
theorem qJoin_g {k : Nat} {S : StC} (h : INV k S) {x y z : Int32} : good [IO, IA] k (qJoin x y z S) := by
  obtain ⟨bal, ten, cs, ps, n, ch, td, nx⟩ := S
  show good _ k (joinB bal ten cs ps n ch td nx x y z)
  unfold joinB
  split
  · exact Or.inr ⟨IO, by decide, rfl⟩
  · split
    · exact Or.inr ⟨IO, by decide, rfl⟩
    · split
      · exact Or.inr ⟨IA, by decide, rfl⟩
      · split
        · exact Or.inr ⟨IA, by decide, rfl⟩
        · rename_i hz
          obtain ⟨v, h1, h2, h3⟩ := isBtw_r (a := 1) (b := 20) (by omega) (by omega) hz
          obtain ⟨t, t1, t2⟩ := rd_ten h.2.1 (x * 8 + y)
          rename_i hx hy hxy
          obtain ⟨a, ha, ea⟩ := hasB_nI h.1 hx
          obtain ⟨b, hb, eb⟩ := hasB_nI h.1 hy
          have hab : ¬ a = b := fun e => hxy (by rw [ea, eb, e])
          have cell : ∀ p q : Nat, p < 8 → q < 8 → ¬ p = q → (nI p * 8 + nI q).toNatClampNeg = 0 → z = 0 := fun p q hp hq hne h0 => by
            rw [show nI p * 8 + nI q = nI (p * 8 + q) from by rw [show (8 : Int32) = nI 8 from rfl, nI_m, nI_a], nI_nat (by omega)] at h0
            omega
          exact Or.inl ⟨⟨t, by omega, t2⟩, putTB_inv (h.mono (Nat.le_succ k)) ⟨v, h2, h3⟩ (by rw [ea, eb]; exact cell a b ha hb hab) (by rw [ea, eb]; exact cell b a hb ha (fun e => hab e.symm))⟩
theorem qSep_g {k : Nat} {S : StC} (h : INV k S) {x y : Int32} : good [IO, NS] k (qSep x y S) := by
  obtain ⟨bal, ten, cs, ps, n, ch, td, nx⟩ := S
  show good _ k (sepB bal ten cs ps n ch td nx x y)
  unfold sepB
  split
  · exact Or.inr ⟨IO, by decide, rfl⟩
  · split
    · exact Or.inr ⟨IO, by decide, rfl⟩
    · split
      · exact Or.inr ⟨NS, by decide, rfl⟩
      · obtain ⟨t, t1, t2⟩ := rd_ten h.2.1 (x * 8 + y)
        exact Or.inl ⟨⟨t, by omega, t2⟩, putTB_inv (h.mono (Nat.le_succ k)) ⟨0, by omega, rfl⟩ (fun _ => rfl) (fun _ => rfl)⟩
theorem qDays_g {k : Nat} {S : StC} (h : INV k S) (hk : k < 2 ^ 20) {x : Int32} : good [IA] k (qDays x S) := by
  obtain ⟨bal, ten, cs, ps, n, ch, td, nx⟩ := S
  show good _ k (daysC bal ten cs ps n ch td nx x)
  unfold daysC
  split
  · exact Or.inr ⟨IA, by decide, rfl⟩
  · rename_i hx
    obtain ⟨v, h1, h2, rfl⟩ := isBtw_r (a := 1) (b := 99) (by omega) (by omega) hx
    obtain ⟨a1, a2, a3, a4, a5, a6, ⟨t, t1, t2⟩, a8, a9⟩ := h.mono (Nat.le_succ k)
    have t2' : td = nI t := t2
    have t0 := h.2.2.2.2.2.2.1
    obtain ⟨t', t1', t2''⟩ := t0
    have t3 : td = nI t' := t2''
    exact Or.inl ⟨⟨t' + v, by omega, by rw [t3]; exact nI_a⟩, a1, a2, a3, a4, a5, a6, ⟨t' + v, by omega, by rw [t3]; exact nI_a⟩, a8, a9⟩
theorem qRule_g {k : Nat} {S : StC} (h : INV k S) {x : Int32} {mt : List Int32} (hm : mt.length ≤ 8) : good [IA, IS, UO] k (qRule x mt S) := by
  obtain ⟨bal, ten, cs, ps, n, ch, td, nx⟩ := S
  have h20 : ps.length ≤ 20 := h.2.2.2.2.1
  show good _ k (entP bal ten cs ps n ch td nx x mt)
  unfold entP
  split
  · exact Or.inr ⟨IA, by decide, rfl⟩
  · rename_i hx
    obtain ⟨v, h1, h2, rfl⟩ := isBtw_r (a := 0) (b := 100) (by omega) (by omega) hx
    split
    · rename_i hl
      have hl' : ps.length < 20 := nI_ltN (by omega) (by decide) hl
      split
      · obtain ⟨a1, a2, a3, a4, a5, a6, a7⟩ := h.mono (Nat.le_succ k)
        refine Or.inl ⟨⟨ps.length, by omega, ?_⟩, a1, a2, a3, a4, ?_, ?_, a7⟩
        · show nI (ps ++ [(mt, nI v)]).length - 1 = nI ps.length
          rw [List.length_append, List.length_singleton, nI_p (by omega)]; rfl
        · show (ps ++ [(mt, nI v)]).length ≤ 20
          rw [List.length_append, List.length_singleton]; omega
        · intro p hp
          rcases List.mem_append.mp hp with hp | hp
          · exact a6 p hp
          · rw [List.mem_singleton.mp hp]; exact ⟨hm, v, h2, rfl⟩
      · exact Or.inr ⟨UO, by decide, rfl⟩
    · exact Or.inr ⟨IS, by decide, rfl⟩
theorem qFile_g {k : Nat} {S : StC} (h : INV k S) (hk : k < 2 ^ 20) {x1 x2 x3 x4 x5 : Int32} {mt : List Int32} (hm : mt.length ≤ 8) : good [IO, IA, IS, UO] k (qFile x1 x2 x3 x4 x5 mt S) := by
  obtain ⟨bal, ten, cs, ps, n, ch, td, nx⟩ := S
  have h12 : cs.length ≤ 12 := h.2.2.1
  show good _ k (entC bal ten cs ps n ch td nx x1 x2 x3 x4 x5 mt)
  unfold entC
  split
  · exact Or.inr ⟨IO, by decide, rfl⟩
  · split
    · exact Or.inr ⟨IO, by decide, rfl⟩
    · split
      · exact Or.inr ⟨IA, by decide, rfl⟩
      · split
        · exact Or.inr ⟨IA, by decide, rfl⟩
        · rename_i y3
          split
          · exact Or.inr ⟨IA, by decide, rfl⟩
          · rename_i y4
            split
            · exact Or.inr ⟨IA, by decide, rfl⟩
            · split
              · rename_i hl
                have hl' : cs.length < 12 := nI_ltN (by omega) (by decide) hl
                split
                · obtain ⟨a1, a2, a3, a4, a5, a6, a7, a8, a9⟩ := h.mono (Nat.le_succ k)
                  obtain ⟨u, u1, u2⟩ := h.2.2.2.2.2.2.2.1
                  have u3 : nx = nI u := u2
                  obtain ⟨v3, p1, p2, p3⟩ := isBtw_r (a := 1) (b := 99) (by omega) (by omega) y3
                  obtain ⟨v4, q1, q2, q3⟩ := isBtw_r (a := 1) (b := 5) (by omega) (by omega) y4
                  refine Or.inl ⟨⟨u, by omega, u3⟩, a1, a2, ?_, ?_, a5, a6, a7, ⟨u + 1, by omega, ?_⟩, a9⟩
                  · show (cs ++ [_]).length ≤ 12
                    rw [List.length_append, List.length_singleton]; omega
                  · intro c hc
                    rcases List.mem_append.mp hc with hc | hc
                    · exact a4 c hc
                    · rw [List.mem_singleton.mp hc]
                      exact ⟨⟨u, by omega, u3⟩, ⟨v3, p1, p2, p3⟩, ⟨v4, q2, q3⟩, hm, Or.inl rfl, ⟨0, by omega, rfl⟩, ⟨0, by omega, rfl⟩⟩
                  · show nx + 1 = nI (u + 1)
                    rw [u3, nI_s]
                · exact Or.inr ⟨UO, by decide, rfl⟩
              · exact Or.inr ⟨IS, by decide, rfl⟩
theorem INV.pos {k : Nat} {S : StC} (h : INV k S) {x : Int32} (h1 : ¬ posOf S.2.2.1 x < 0) (h2 : posOf S.2.2.1 x < nI S.2.2.1.length) : casI k (gC S.2.2.1 (posOf S.2.2.1 x)) := (h.cas ⟨h1, Int32.not_le.mpr h2⟩).1
theorem INV.erase {k : Nat} {S : StC} (h : INV k S) (j : Nat) : INV k (S.1, S.2.1, S.2.2.1.eraseIdx j, S.2.2.2) := by
  obtain ⟨a1, a2, a3, a4, a5⟩ := h
  exact ⟨a1, a2, Nat.le_trans (List.length_eraseIdx_le _ _) a3, fun c hc => a4 c (List.mem_of_mem_eraseIdx hc), a5⟩
theorem qWith_g {k : Nat} {S : StC} (h : INV k S) {x : Int32} : good [NS, IS] k (qWith x S) := by
  obtain ⟨bal, ten, cs, ps, n, ch, td, nx⟩ := S
  show good _ k (withC bal ten cs ps n ch td nx x)
  unfold withC
  split
  · exact Or.inr ⟨NS, by decide, rfl⟩
  · rename_i p1
    split
    · rename_i p2
      split
      · obtain ⟨v, v1, v2, v3⟩ := (h.pos p1 p2).2.1
        exact Or.inl ⟨⟨v, by omega, v3⟩, (h.mono (Nat.le_succ k)).erase _⟩
      · exact Or.inr ⟨IS, by decide, rfl⟩
    · exact Or.inr ⟨NS, by decide, rfl⟩
theorem qClose_g {k : Nat} {S : StC} (h : INV k S) {x : Int32} : good [NS, IS] k (qClose x S) := by
  obtain ⟨bal, ten, cs, ps, n, ch, td, nx⟩ := S
  show good _ k (closeC bal ten cs ps n ch td nx x)
  unfold closeC
  split
  · exact Or.inr ⟨NS, by decide, rfl⟩
  · rename_i p1
    split
    · rename_i p2
      split
      · exact Or.inr ⟨IS, by decide, rfl⟩
      · obtain ⟨v, v1, v2⟩ := (h.pos p1 p2).2.2.2.2.2.2
        exact Or.inl ⟨⟨v, by omega, v2⟩, (h.mono (Nat.le_succ k)).erase _⟩
    · exact Or.inr ⟨NS, by decide, rfl⟩

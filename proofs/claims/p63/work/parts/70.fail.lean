-- where the changes fail
theorem cod {l : List (String × Int32)} {E E0 : String} {v v0 a : Int32} (hv : (E, v) ∈ l) (hE : flt a = some E) (h0 : flt a = some E0) (hl : ∀ q ∈ l, q.1 = E0 → q.2 = v0) : v = v0 := hl (E, v) hv (Option.some.inj (hE.symm.trans h0))
theorem b2i_f {b : Bool} (h : b = false) : b2i b = 0 := by rw [h]; rfl
section FAILS
variable {bal ten : List Int32} {cs : List CaseC} {ps : List PrecC} {n ch td nx x y z x1 x2 x3 x4 x5 : Int32} {mt : List Int32} {S : StC} {K : ScC} {k m : Nat}
theorem xEnt (h : S.2.2.2.2.1 = 8) : flt (qEnt S).1 = some IS := by
  obtain ⟨bal, ten, cs, ps, n, ch, td, nx⟩ := S
  show flt (enterB bal ten cs ps n ch td nx).1 = _
  rw [enterB, if_neg (by rw [show n = 8 from h]; decide)]; rfl
theorem xJoin1 (h : hasB S.2.2.2.2.1 x = false) : flt (qJoin x y z S).1 = some IO := by
  show flt (joinB _ _ _ _ _ _ _ _ x y z).1 = _
  rw [joinB, if_pos (b2i_f h)]; rfl
theorem xJoin2 (h0 : hasB S.2.2.2.2.1 x = true) (h : hasB S.2.2.2.2.1 y = false) : flt (qJoin x y z S).1 = some IO := by
  show flt (joinB _ _ _ _ _ _ _ _ x y z).1 = _
  rw [joinB, if_neg (b2i_t h0), if_pos (b2i_f h)]; rfl
theorem xJoin3 (h0 : hasB S.2.2.2.2.1 x = true) : flt (qJoin x x z S).1 = some IA := by
  show flt (joinB _ _ _ _ _ _ _ _ x x z).1 = _
  rw [joinB, if_neg (b2i_t h0), if_neg (b2i_t h0), if_pos rfl]; rfl
theorem xJoin4 (h0 : hasB S.2.2.2.2.1 x = true) (h1 : hasB S.2.2.2.2.1 y = true) (h2 : ¬ x = y) (h3 : isBtw z 1 20 = 0) : flt (qJoin x y z S).1 = some IA := by
  show flt (joinB _ _ _ _ _ _ _ _ x y z).1 = _
  rw [joinB, if_neg (b2i_t h0), if_neg (b2i_t h1), if_neg h2, if_pos h3]; rfl
theorem xSep1 (h : hasB S.2.2.2.2.1 x = false) : flt (qSep x y S).1 = some IO := by
  show flt (sepB _ _ _ _ _ _ _ _ x y).1 = _
  rw [sepB, if_pos (b2i_f h)]; rfl
theorem xSep2 (h0 : hasB S.2.2.2.2.1 x = true) (h1 : hasB S.2.2.2.2.1 y = true) (h2 : rd S.2.1 64 (x * 8 + y) = 0) : flt (qSep x y S).1 = some NS := by
  show flt (sepB _ _ _ _ _ _ _ _ x y).1 = _
  rw [sepB, if_neg (b2i_t h0), if_neg (b2i_t h1), if_pos h2]; rfl
theorem xRule1 (h : isBtw x 0 100 = 0) : flt (qRule x mt S).1 = some IA := by
  show flt (entP _ _ _ _ _ _ _ _ x mt).1 = _
  rw [entP, if_pos h]; rfl
theorem xRule2 (h : ¬ isBtw x 0 100 = 0) (h2 : ¬ nI S.2.2.2.1.length < 20) : flt (qRule x mt S).1 = some IS := by
  show flt (entP _ _ _ _ _ _ _ _ x mt).1 = _
  rw [entP, if_neg h, if_neg h2]; rfl
theorem xRule3 (h : ¬ isBtw x 0 100 = 0) (h2 : nI S.2.2.2.1.length < 20) : flt (qRule x [] S).1 = some UO := by
  show flt (entP _ _ _ _ _ _ _ _ x []).1 = _
  rw [entP, if_neg h, if_pos h2, if_neg (by decide)]; rfl
theorem xFile1 (h : hasB S.2.2.2.2.1 x1 = false) : flt (qFile x1 x2 x3 x4 x5 mt S).1 = some IO := by
  show flt (entC _ _ _ _ _ _ _ _ x1 x2 x3 x4 x5 mt).1 = _
  rw [entC, if_pos (b2i_f h)]; rfl
theorem xFile2 (h0 : hasB S.2.2.2.2.1 x1 = true) (h : hasB S.2.2.2.2.1 x2 = false) : flt (qFile x1 x2 x3 x4 x5 mt S).1 = some IO := by
  show flt (entC _ _ _ _ _ _ _ _ x1 x2 x3 x4 x5 mt).1 = _
  rw [entC, if_neg (b2i_t h0), if_pos (b2i_f h)]; rfl
theorem xFile3 (h0 : hasB S.2.2.2.2.1 x1 = true) : flt (qFile x1 x1 x3 x4 x5 mt S).1 = some IA := by
  show flt (entC _ _ _ _ _ _ _ _ x1 x1 x3 x4 x5 mt).1 = _
  rw [entC, if_neg (b2i_t h0), if_neg (b2i_t h0), if_pos rfl]; rfl
theorem xFile4 (h0 : hasB S.2.2.2.2.1 x1 = true) (h1 : hasB S.2.2.2.2.1 x2 = true) (h2 : ¬ x1 = x2) (h3 : isBtw x3 1 99 = 0 ∨ isBtw x4 1 5 = 0 ∨ isBtw x5 0 999 = 0) : flt (qFile x1 x2 x3 x4 x5 mt S).1 = some IA := by
  show flt (entC _ _ _ _ _ _ _ _ x1 x2 x3 x4 x5 mt).1 = _
  rw [entC, if_neg (b2i_t h0), if_neg (b2i_t h1), if_neg h2]
  by_cases e3 : isBtw x3 1 99 = 0
  · rw [if_pos e3]; rfl
  · rw [if_neg e3]
    by_cases e4 : isBtw x4 1 5 = 0
    · rw [if_pos e4]; rfl
    · rw [if_neg e4, if_pos (h3.resolve_left e3 |>.resolve_left e4)]; rfl
theorem xFile5 (h0 : hasB S.2.2.2.2.1 x1 = true) (h1 : hasB S.2.2.2.2.1 x2 = true) (h2 : ¬ x1 = x2) (h3 : ¬ isBtw x3 1 99 = 0) (h4 : ¬ isBtw x4 1 5 = 0) (h5 : ¬ isBtw x5 0 999 = 0) (h6 : ¬ nI S.2.2.1.length < 12) : flt (qFile x1 x2 x3 x4 x5 mt S).1 = some IS := by
  show flt (entC _ _ _ _ _ _ _ _ x1 x2 x3 x4 x5 mt).1 = _
  rw [entC, if_neg (b2i_t h0), if_neg (b2i_t h1), if_neg h2, if_neg h3, if_neg h4, if_neg h5, if_neg h6]; rfl
theorem xFile6 (h0 : hasB S.2.2.2.2.1 x1 = true) (h1 : hasB S.2.2.2.2.1 x2 = true) (h2 : ¬ x1 = x2) (h3 : ¬ isBtw x3 1 99 = 0) (h4 : ¬ isBtw x4 1 5 = 0) (h5 : ¬ isBtw x5 0 999 = 0) (h6 : nI S.2.2.1.length < 12) : flt (qFile x1 x2 x3 x4 x5 [] S).1 = some UO := by
  show flt (entC _ _ _ _ _ _ _ _ x1 x2 x3 x4 x5 []).1 = _
  rw [entC, if_neg (b2i_t h0), if_neg (b2i_t h1), if_neg h2, if_neg h3, if_neg h4, if_neg h5, if_pos h6, if_neg (by decide)]; rfl
theorem xGive1 (h : hasB S.2.2.2.2.1 x = false) : flt (qGive x y z S).1 = some IO := by
  show flt (moveC _ _ _ _ _ _ _ _ x y z).1 = _
  rw [moveC, if_pos (b2i_f h)]; rfl
theorem xGive3 (h0 : hasB S.2.2.2.2.1 x = true) : flt (qGive x x z S).1 = some IA := by
  show flt (moveC _ _ _ _ _ _ _ _ x x z).1 = _
  rw [moveC, if_neg (b2i_t h0), if_neg (b2i_t h0), if_pos rfl]; rfl
theorem xGive4 (h0 : hasB S.2.2.2.2.1 x = true) (h1 : hasB S.2.2.2.2.1 y = true) (h2 : ¬ x = y) (h3 : isBtw z 1 999 = 0) : flt (qGive x y z S).1 = some IA := by
  show flt (moveC _ _ _ _ _ _ _ _ x y z).1 = _
  rw [moveC, if_neg (b2i_t h0), if_neg (b2i_t h1), if_neg h2, if_pos h3]; rfl
theorem xGive5 (h0 : hasB S.2.2.2.2.1 x = true) (h1 : hasB S.2.2.2.2.1 y = true) (h2 : ¬ x = y) (h3 : ¬ isBtw z 1 999 = 0) (h4 : ¬ z ≤ rd S.1 8 x) : flt (qGive x y z S).1 = some IS := by
  show flt (moveC _ _ _ _ _ _ _ _ x y z).1 = _
  rw [moveC, if_neg (b2i_t h0), if_neg (b2i_t h1), if_neg h2, if_neg h3, if_neg h4]; rfl
theorem xDays (h : isBtw x 1 99 = 0) : flt (qDays x S).1 = some IA := by
  show flt (daysC _ _ _ _ _ _ _ _ x).1 = _
  rw [daysC, if_pos h]; rfl
theorem xHear1 (h : posOf S.2.2.1 x < 0) : flt (qHear x S K).1 = some NS := by
  show flt (hearC x _ _ _ _ _ _ _ _ _ _ _ _).1 = _
  rw [hearC, if_pos h]; rfl
theorem xApp1 (h : posOf S.2.2.1 x < 0) : flt (qApp x S K).1 = some NS := by
  show flt (appC x _ _ _ _ _ _ _ _ _ _ _ _).1 = _
  rw [appC, if_pos h]; rfl
theorem xWith1 (h : posOf S.2.2.1 x < 0) : flt (qWith x S).1 = some NS := by
  show flt (withC _ _ _ _ _ _ _ _ x).1 = _
  rw [withC, if_pos h]; rfl
theorem xClos1 (h : posOf S.2.2.1 x < 0) : flt (qClose x S).1 = some NS := by
  show flt (closeC _ _ _ _ _ _ _ _ x).1 = _
  rw [closeC, if_pos h]; rfl
theorem hasC_lt (h : hasC S.2.2.1 x) : ¬ posOf S.2.2.1 x < 0 ∧ posOf S.2.2.1 x < nI S.2.2.1.length := ⟨h.1, Int32.not_le.mp h.2⟩
theorem xHear2 (h : hasC S.2.2.1 x) (h2 : ¬ cSd (theC S.2.2.1 x) = 102) : flt (qHear x S K).1 = some IS := by
  show flt (hearC x _ _ _ _ _ _ _ _ _ _ _ _).1 = _
  have h2' : ¬ cSd (gC S.2.2.1 (posOf S.2.2.1 x)) = 102 := h2
  rw [hearC, if_neg (hasC_lt h).1, if_pos (hasC_lt h).2, hearC0, if_neg h2']; rfl
theorem xApp2 (h : hasC S.2.2.1 x) (h2 : ¬ cSd (theC S.2.2.1 x) = 114) : flt (qApp x S K).1 = some IS := by
  show flt (appC x _ _ _ _ _ _ _ _ _ _ _ _).1 = _
  have h2' : ¬ cSd (gC S.2.2.1 (posOf S.2.2.1 x)) = 114 := h2
  rw [appC, if_neg (hasC_lt h).1, if_pos (hasC_lt h).2, appC0, if_neg h2']; rfl
theorem xWith2 (h : hasC S.2.2.1 x) (h2 : ¬ cSd (theC S.2.2.1 x) = 102) : flt (qWith x S).1 = some IS := by
  show flt (withC _ _ _ _ _ _ _ _ x).1 = _
  have h2' : ¬ cSd (gC S.2.2.1 (posOf S.2.2.1 x)) = 102 := h2
  rw [withC, if_neg (hasC_lt h).1, if_pos (hasC_lt h).2, if_neg h2']; rfl
theorem xClos2 (h : hasC S.2.2.1 x) (h2 : cSd (theC S.2.2.1 x) = 102) : flt (qClose x S).1 = some IS := by
  show flt (closeC _ _ _ _ _ _ _ _ x).1 = _
  have h2' : cSd (gC S.2.2.1 (posOf S.2.2.1 x)) = 102 := h2
  rw [closeC, if_neg (hasC_lt h).1, if_pos (hasC_lt h).2, if_pos h2']; rfl
/-- no case has such a number -/
theorem noPos (hI : INV k S) (hx : ∀ u : Nat, u < k → ¬ nI u = x) : posOf S.2.2.1 x < 0 := by
  have h12 := hI.2.2.1
  refine Decidable.of_not_not fun h => ?_
  rw [posOf, nI_nat (by omega)] at h
  obtain ⟨p, p1, p2, p3, p4⟩ := posOf_id (by omega) S.2.2.1.length 0 x h (by omega)
  obtain ⟨u, u1, u2⟩ := (hI.cas (i := nI p) ⟨nI_pos (by omega), fun z => absurd ((nI_le_iff (by omega) (by omega)).mp z) (by omega)⟩).1.1
  exact hx u u1 (u2.symm.trans p4)
theorem no99 (hI : INV k S) (hk : k ≤ 98) : posOf S.2.2.1 99 < 0 := noPos hI fun u hu e => absurd (nI_inj (a := u) (b := 99) (by omega) (by omega) e) (by omega)
theorem noM1 (hI : INV k S) (hk : k ≤ 98) : posOf S.2.2.1 (-1) < 0 := noPos hI fun u hu e => nI_pos (n := u) (by omega) (by rw [e]; decide)
theorem noC {cs : List CaseC} {x : Int32} (h : posOf cs x < 0) : ¬ hasC cs x := fun z => z.1 h
end FAILS

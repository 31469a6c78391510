/-! lists of any objects that never change: one set of contracts -/
def FR {α : Type} (G : GT) (P : Heap → (Nat → Nat) → Nat → α → Prop) : Prop := ∀ (H H1 : Heap) (g g1 : Nat → Nat) (ts : List Nat) (r : Nat) (x : α), P H g r x → Ext G ts H g H1 g1 → 0 ∉ ts → P H1 g1 r x
def EL {α : Type} (G : GT) (P : Heap → (Nat → Nat) → Nat → α → Prop) : Prop := ∀ (H : Heap) (g : Nat → Nat) (r : Nat) (x : α), P H g r x → elO G H r ∧ tg G g r = 0
def GL {α : Type} (G : GT) (P : Heap → (Nat → Nat) → Nat → α → Prop) (H : Heap) (g : Nat → Nat) (t a : Nat) (xs : List α) : Prop := ∃ rs : List Nat, AL G H g t a rs ∧ Al2 (P H g) rs xs
section GLS
variable {α : Type} {G : GT} {P : Heap → (Nat → Nat) → Nat → α → Prop} {H H1 : Heap} {g g1 : Nat → Nat} {t a : Nat} {X : String → Heap → Prop} {xs : List α}
theorem GL.fr {ts : List Nat} (hf : FR G P) (h : GL G P H g t a xs) (e : Ext G ts H g H1 g1) (ht : t ∉ ts) (h0 : 0 ∉ ts) : GL G P H1 g1 t a xs := by
  obtain ⟨rs, h1, h2⟩ := h
  exact ⟨rs, h1.fr e ht h0, h2.imp fun r x hx => hf _ _ _ _ _ r x hx e h0⟩
theorem GL.len (h : GL G P H g t a xs) : xs.length < 2 ^ 18 := by
  obtain ⟨rs, ⟨b, mc, -, -, hlen, -⟩, h2, h3⟩ := h
  omega
theorem GL.ro (h : GL G P H g t a xs) : ∃ fs, ro G H a 4 fs := by
  obtain ⟨rs, ⟨b, mc, h1, -⟩, -⟩ := h
  exact ⟨_, h1.ro⟩
theorem AL.GL (h : AL G H g t a []) : GL G P H g t a [] := ⟨[], h, rfl, fun i r x hr => by cases hr⟩
theorem c_gladd {r : Nat} {x : α} (hf : FR G P) (he : EL G P) (h : GL G P H g t a xs) (hn : ¬ 40 < xs.length) (hr : P H g r x) (ht : t ≠ 0) {F : Int32 → Heap → Prop} (kk : ∀ (H1 : Heap) (g1 : Nat → Nat), GL G P H1 g1 t a (xs ++ [x]) → Ext G [t] H g H1 g1 → F 1 H1) : Call G kJx4a65c_add_9ea2d 7 1 61 [.ref a, .ref r] H (qi F) X := by
  obtain ⟨rs, h1, h2, h3⟩ := h
  refine c_aladd h1 (by omega) (he _ _ _ _ hr) ht fun H1 g1 h4 e => kk H1 g1 ⟨rs ++ [r], h4, by rw [List.length_append, List.length_append, h2]; rfl, fun i q y hq hy => ?_⟩ e
  have h0 : (0 : Nat) ∉ [t] := n1 (by omega)
  rw [List.getElem?_append] at hq hy
  rw [h2] at hq
  by_cases hi : i < xs.length
  · rw [if_pos hi] at hq hy
    exact hf _ _ _ _ _ _ _ (h3 i q y hq hy) e h0
  · rw [if_neg hi] at hq hy
    obtain ⟨k, hk⟩ : ∃ k, i - xs.length = k := ⟨_, rfl⟩
    rw [hk] at hq hy
    cases k with
    | zero =>
      cases hq
      cases hy
      exact hf _ _ _ _ _ _ _ hr e h0
    | succ k => cases hq
theorem c_glsize (h : GL G P H g t a xs) {F : Int32 → Heap → Prop} (kk : F (nI xs.length) H) : Call G kJx4a65c_size_8abf5 1 0 0 [.ref a] H (qi F) X := by
  obtain ⟨rs, h1, h2, h3⟩ := h
  exact c_alsize h1 (h2 ▸ kk)
theorem c_glempty (h : GL G P H g t a xs) {F : Int32 → Heap → Prop} (kk : F (b2i (decide (xs.length = 0))) H) : Call G kJx4a65c_isEmpty_aae02 1 0 0 [.ref a] H (qi F) X := by
  obtain ⟨rs, h1, h2, h3⟩ := h
  refine c_alempty h1 ?_
  have e : decide (rs = []) = decide (xs.length = 0) := by
    rw [← h2]
    cases rs <;> simp
  rw [e]
  exact kk
theorem c_glget {j : Nat} (h : GL G P H g t a xs) {x : α} (hj : xs[j]? = some x) {F : Nat → Heap → Prop} (kk : ∀ r : Nat, P H g r x → F r H) : Call G kJx4a65c_get_915e3 3 0 0 [.ref a, .int (nI j)] H (qa F) X := by
  obtain ⟨rs, h1, h2, h3⟩ := h
  have hl : j < rs.length := by rw [h2]; exact (List.getElem?_eq_some_iff.mp hj).1
  have e1 : rs[j]? = some (rs[j]'hl) := List.getElem?_eq_getElem _
  exact c_alget h1 e1 (kk _ (h3 j _ _ e1 hj))
theorem c_glrem {j : Nat} (hf : FR G P) (h : GL G P H g t a xs) {x : α} (hj : xs[j]? = some x) (ht : t ≠ 0) {F : Nat → Heap → Prop} (kk : ∀ (r : Nat) (H1 : Heap), P H1 g r x → GL G P H1 g t a (xs.eraseIdx j) → Ext G [t] H g H1 g → F r H1) : Call G kJx4a65c_remove_915e3 3 0 0 [.ref a, .int (nI j)] H (qa F) X := by
  obtain ⟨rs, h1, h2, h3⟩ := h
  have h0 : (0 : Nat) ∉ [t] := n1 (by omega)
  have hl : j < rs.length := by rw [h2]; exact (List.getElem?_eq_some_iff.mp hj).1
  have e1 : rs[j]? = some (rs[j]'hl) := List.getElem?_eq_getElem _
  refine c_alremove h1 e1 ht fun H1 h4 e => kk _ H1 (hf _ _ _ _ _ _ _ (h3 j _ _ e1 hj) e h0) ⟨rs.eraseIdx j, h4, by rw [List.length_eraseIdx, List.length_eraseIdx, h2], fun i q y hq hy => ?_⟩ e
  rw [List.getElem?_eraseIdx] at hq hy
  split at hq
  · rw [if_pos (by assumption)] at hy
    exact hf _ _ _ _ _ _ _ (h3 _ q y hq hy) e h0
  · rw [if_neg (by assumption)] at hy
    exact hf _ _ _ _ _ _ _ (h3 _ q y hq hy) e h0
theorem c_glclear (h : GL G P H g t a xs) (ht : t ≠ 0) {F : Heap → Prop} (kk : ∀ H1 : Heap, GL G P H1 g t a [] → Ext G [t] H g H1 g → F H1) : Call G kJx4a65c_clear_da8c8 0 0 0 [.ref a] H (qv F) X := by
  obtain ⟨rs, h1, h2, h3⟩ := h
  exact c_alclear h1 ht fun H1 h4 e => kk H1 ⟨[], h4, rfl, fun i r x hr => by cases hr⟩ e
end GLS
theorem FRo {G : GT} : FR G (isOrd G) := fun _ _ _ _ _ _ _ h e h0 => h.fr e h0
theorem ELo {G : GT} : EL G (isOrd G) := fun _ _ _ _ h => by
  obtain ⟨nu, mo, h1, -⟩ := h
  exact ⟨⟨8, _, _, rfl, cso_8, h1.1⟩, h1.2⟩
/-- a state that was replaced -/
def isSt (G : GT) (H : Heap) (g : Nat → Nat) (r : Nat) (S : StC) : Prop := MS G H g 0 r S
theorem FRs {G : GT} : FR G (isSt G) := fun _ _ _ _ _ _ _ h e h0 => MS.fr h e (tkn0 h0)
theorem ELs {G : GT} : EL G (isSt G) := fun _ _ r S h => by
  obtain ⟨bal, ten, cs, ps, n, ch, td, nx⟩ := S
  obtain ⟨-, -, b, k, u, v, h1, -⟩ := h
  exact ⟨⟨13, _, _, rfl, cso_13, h1.ro⟩, h1.2⟩

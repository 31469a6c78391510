/-! TAGS: each cell bears a number that a proof gives it (0: never written again; cells from before the law bear 0).
Ext ts: from (H, g) to (H1, g1) nothing old changed but what bears a tag of ts. -/
def tg (G : GT) (g : Nat → Nat) (a : Nat) : Nat := if a < (gB G).heap.size then 0 else g a
def gset (g : Nat → Nat) (a t : Nat) : Nat → Nat := fun q => if q = a then t else g q
/-- all cells that bear a tag of ts get the tag t -/
def gall (G : GT) (g : Nat → Nat) (ts : List Nat) (t : Nat) : Nat → Nat := fun q => if tg G g q ∈ ts then t else g q
def Ext (G : GT) (ts : List Nat) (H : Heap) (g : Nat → Nat) (H1 : Heap) (g1 : Nat → Nat) : Prop := H.size ≤ H1.size ∧ ∀ q : Nat, q < H.size → tg G g q ∉ ts → H1[q]? = H[q]? ∧ tg G g1 q = tg G g q
section GHOST
variable {G : GT} {H H1 H2 : Heap} {g g1 g2 : Nat → Nat} {ts ts2 : List Nat} {t : Nat}
theorem Ext.rf : Ext G ts H g H g := ⟨Nat.le_refl _, fun _ _ _ => ⟨rfl, rfl⟩⟩
theorem Ext.trans (h : Ext G ts H g H1 g1) (h2 : Ext G ts H1 g1 H2 g2) : Ext G ts H g H2 g2 := by
  refine ⟨Nat.le_trans h.1 h2.1, fun q hq ht => ?_⟩
  obtain ⟨a, b⟩ := h.2 q hq ht
  obtain ⟨c, d⟩ := h2.2 q (Nat.lt_of_lt_of_le hq h.1) (by rw [b]; exact ht)
  exact ⟨c.trans a, d.trans b⟩
theorem Ext.wide (h : Ext G ts H g H1 g1) (hs : ∀ x ∈ ts, x ∈ ts2) : Ext G ts2 H g H1 g1 := ⟨h.1, fun q hq ht => h.2 q hq (fun z => ht (hs _ z))⟩
theorem Ext.nil (h : Ext G [] H g H1 g1) : Ext G ts H g H1 g1 := h.wide (fun _ h => by cases h)
theorem tg_pos {a : Nat} (h : tg G g a ≠ 0) : gF G a := by
  unfold tg at h
  split at h
  · exact absurd rfl h
  · exact Nat.not_lt.mp (by assumption)
theorem tg_new {a t : Nat} (h : gF G a) : tg G (gset g a t) a = t := by
  unfold tg gset
  rw [if_neg (Nat.not_lt.mpr h), if_pos rfl]
theorem tg_set_ne {a t q : Nat} (h : q ≠ a) : tg G (gset g a t) q = tg G g q := by
  unfold tg gset
  rw [if_neg h]
/-- one cell written, tags as they were -/
theorem Ext.put {a : Nat} (hz : H1.size = H.size) (ho : ∀ q : Nat, q ≠ a → H1[q]? = H[q]?) (ha : tg G g a ∈ ts) : Ext G ts H g H1 g :=
  ⟨Nat.le_of_eq hz.symm, fun q _ ht => ⟨ho q (fun e => ht (e ▸ ha)), rfl⟩⟩
/-- one cell made, with the tag t -/
theorem Ext.mk (hz : H1.size = H.size + 1) (ho : ∀ q : Nat, q < H.size → H1[q]? = H[q]?) : Ext G ts H g H1 (gset g H.size t) :=
  ⟨by omega, fun q hq _ => ⟨ho q hq, tg_set_ne (Nat.ne_of_lt hq)⟩⟩
/-- nothing old written, the new cells' tags as they come -/
theorem Ext.keep (hz : H.size ≤ H1.size) (ho : ∀ q : Nat, q < H.size → H1[q]? = H[q]?) : Ext G ts H g H1 g :=
  ⟨hz, fun q hq _ => ⟨ho q hq, rfl⟩⟩
theorem tg_gall {q : Nat} (ht : t = 0 ∨ 0 ∉ ts) : tg G (gall G g ts t) q = if tg G g q ∈ ts then t else tg G g q := by
  by_cases hq : q < (gB G).heap.size
  · have h0 : tg G g q = 0 := by unfold tg; rw [if_pos hq]
    have h1 : tg G (gall G g ts t) q = 0 := by unfold tg; rw [if_pos hq]
    rw [h0, h1]
    split
    · rcases ht with h | h
      · exact h.symm
      · exact absurd (by assumption) h
    · rfl
  · have h1 : tg G (gall G g ts t) q = gall G g ts t q := by unfold tg; rw [if_neg hq]
    rw [h1]
    unfold gall
    split
    · rfl
    · unfold tg
      rw [if_neg hq]
theorem Ext.gall (ht : t = 0 ∨ 0 ∉ ts) : Ext G ts H g H (gall G g ts t) := ⟨Nat.le_refl _, fun q _ hq => ⟨rfl, by rw [tg_gall ht, if_neg hq]⟩⟩
-- a cell, its tag and what it holds
def Ob (G : GT) (H : Heap) (g : Nat → Nat) (t a ci : Nat) (fs : List Value) : Prop := ob G H a ci fs ∧ tg G g a = t
def Ia (G : GT) (H : Heap) (g : Nat → Nat) (t a k : Nat) (l : List Int32) : Prop := (ar G H a k (ia l) ∧ l.length < 2 ^ 20) ∧ tg G g a = t
def La (G : GT) (H : Heap) (g : Nat → Nat) (t a : Nat) (l : List Int64) : Prop := (ar G H a 4 (la l) ∧ l.length < 2 ^ 20) ∧ tg G g a = t
def Oa (G : GT) (H : Heap) (g : Nat → Nat) (t a : Nat) (l : List (Option Nat)) : Prop := (ar G H a 5 (oa l) ∧ l.length < 2 ^ 20) ∧ tg G g a = t
theorem ob.lt {a ci : Nat} {fs : List Value} (h : ob G H a ci fs) : a < H.size := by
  obtain ⟨r, h1, cell, h2, -⟩ := h
  exact (Array.getElem?_eq_some_iff.mp h2).1
theorem ob.kept {a ci : Nat} {fs : List Value} (h : ob G H a ci fs) (hq : H1[a]? = H[a]?) : ob G H1 a ci fs := va_at.kept h hq
theorem ar.lt {a k : Nat} {x : vp_A} (h : ar G H a k x) : a < H.size := (Array.getElem?_eq_some_iff.mp h.1).1
theorem ar.kept {a k : Nat} {x : vp_A} (h : ar G H a k x) (hq : H1[a]? = H[a]?) : ar G H1 a k x := ⟨hq.trans h.1, h.2⟩
theorem ro.lt {a ci : Nat} {fs : List Value} (h : ro G H a ci fs) : a < H.size := by
  obtain ⟨r, cell, -, h2, -⟩ := h
  exact (Array.getElem?_eq_some_iff.mp h2).1
theorem ro.kept {a ci : Nat} {fs : List Value} (h : ro G H a ci fs) (hq : H1[a]? = H[a]?) : ro G H1 a ci fs := by
  obtain ⟨r, cell, h1, h2, h3⟩ := h
  exact ⟨r, cell, h1, hq.trans h2, h3⟩
theorem ra.lt {a k n : Nat} {f : Nat → Value} (h : ra G H a k n f) : a < H.size := by
  obtain ⟨cell, h2, -⟩ := h
  exact (Array.getElem?_eq_some_iff.mp h2).1
theorem ra.kept {a k n : Nat} {f : Nat → Value} (h : ra G H a k n f) (hq : H1[a]? = H[a]?) : ra G H1 a k n f := by
  obtain ⟨cell, h2, h3⟩ := h
  exact ⟨cell, hq.trans h2, h3⟩
theorem Ob.fr {a ci : Nat} {fs : List Value} (h : Ob G H g t a ci fs) (e : Ext G ts H g H1 g1) (ht : t ∉ ts) : Ob G H1 g1 t a ci fs := by
  obtain ⟨h1, h2⟩ := e.2 a h.1.lt (by rw [h.2]; exact ht)
  exact ⟨h.1.kept h1, h2.trans h.2⟩
theorem Ia.fr {a k : Nat} {l : List Int32} (h : Ia G H g t a k l) (e : Ext G ts H g H1 g1) (ht : t ∉ ts) : Ia G H1 g1 t a k l := by
  obtain ⟨h1, h2⟩ := e.2 a h.1.1.lt (by rw [h.2]; exact ht)
  exact ⟨⟨h.1.1.kept h1, h.1.2⟩, h2.trans h.2⟩
theorem La.fr {a : Nat} {l : List Int64} (h : La G H g t a l) (e : Ext G ts H g H1 g1) (ht : t ∉ ts) : La G H1 g1 t a l := by
  obtain ⟨h1, h2⟩ := e.2 a h.1.1.lt (by rw [h.2]; exact ht)
  exact ⟨⟨h.1.1.kept h1, h.1.2⟩, h2.trans h.2⟩
theorem Oa.fr {a : Nat} {l : List (Option Nat)} (h : Oa G H g t a l) (e : Ext G ts H g H1 g1) (ht : t ∉ ts) : Oa G H1 g1 t a l := by
  obtain ⟨h1, h2⟩ := e.2 a h.1.1.lt (by rw [h.2]; exact ht)
  exact ⟨⟨h.1.1.kept h1, h.1.2⟩, h2.trans h.2⟩
theorem Ob.ro {a ci : Nat} {fs : List Value} (h : Ob G H g t a ci fs) : ro G H a ci fs := h.1.ro
theorem Ia.ra {a k : Nat} {l : List Int32} (h : Ia G H g t a k l) : ra G H a k l.length (iv l) := h.1.1.raI (Nat.lt_of_lt_of_le h.1.2 (by decide))
theorem La.ra {a : Nat} {l : List Int64} (h : La G H g t a l) : ra G H a 4 l.length (lv l) := h.1.1.raL
theorem Oa.ra {a : Nat} {l : List (Option Nat)} (h : Oa G H g t a l) : ra G H a 5 l.length (ov l) := h.1.1.raO
-- what never changes again: by the tag 0
def Rz (G : GT) (H : Heap) (g : Nat → Nat) (a ci : Nat) (fs : List Value) : Prop := ro G H a ci fs ∧ tg G g a = 0
theorem Rz.fr {a ci : Nat} {fs : List Value} (h : Rz G H g a ci fs) (e : Ext G ts H g H1 g1) (ht : 0 ∉ ts) : Rz G H1 g1 a ci fs := by
  obtain ⟨h1, h2⟩ := e.2 a h.1.lt (by rw [h.2]; exact ht)
  exact ⟨h.1.kept h1, h2.trans h.2⟩
/-- a text that never changes -/
def Sz (G : GT) (H : Heap) (g : Nat → Nat) (a : Nat) (l : List Int32) : Prop := asc l ∧ l.length < 2 ^ 20 ∧ ∃ (b : Nat) (h z : Value), (ro G H a 0 [.ref b, .int 0, h, z] ∧ tg G g a = 0) ∧ ra G H b 2 l.length (iv l) ∧ tg G g b = 0
theorem Sz.fr {a : Nat} {l : List Int32} (h : Sz G H g a l) (e : Ext G ts H g H1 g1) (ht : 0 ∉ ts) : Sz G H1 g1 a l := by
  obtain ⟨ha, hl, b, x, z, ⟨h1, h2⟩, h3, h4⟩ := h
  obtain ⟨e1, e2⟩ := e.2 a h1.lt (by rw [h2]; exact ht)
  obtain ⟨e3, e4⟩ := e.2 b h3.lt (by rw [h4]; exact ht)
  exact ⟨ha, hl, b, x, z, ⟨h1.kept e1, e2.trans h2⟩, h3.kept e3, e4.trans h4⟩
end GHOST

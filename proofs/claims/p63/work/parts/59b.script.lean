/-! the law's own script: an array of ints that nothing writes (its cell's other parts may be anything) -/
def Zi (G : GT) (H : Heap) (g : Nat → Nat) (a : Nat) (l : List Int32) : Prop := (ra G H a 0 l.length (iv l) ∧ l.length < 2 ^ 20) ∧ tg G g a = 0
theorem Zi.fr {G : GT} {H H1 : Heap} {g g1 : Nat → Nat} {ts : List Nat} {a : Nat} {l : List Int32} (h : Zi G H g a l) (e : Ext G ts H g H1 g1) (ht : 0 ∉ ts) : Zi G H1 g1 a l := by
  obtain ⟨h1, h2⟩ := e.2 a h.1.1.lt (by rw [h.2]; exact ht)
  exact ⟨⟨h.1.1.kept h1, h.1.2⟩, h2.trans h.2⟩
theorem Zi.ra {G : GT} {H : Heap} {g : Nat → Nat} {a : Nat} {l : List Int32} (h : Zi G H g a l) : ra G H a 0 l.length (iv l) := h.1.1

/-! what a state of the registry is, as a value; and the cells that hold it -/
/-- id, plaintiff, defendant, claim, duration, deadline, matter, standing, percentage, award, cost, decidedBy, addedAs, appealed -/
abbrev CaseC : Type := Int32 × Int32 × Int32 × Int32 × Int32 × Int32 × List Int32 × Int32 × Int32 × Int32 × Int32 × Int32 × Int32 × Int32
abbrev PrecC : Type := List Int32 × Int32
/-- balances, tensions, cases, precedents, buttons, chest, today, nextId -/
abbrev StC : Type := List Int32 × List Int32 × List CaseC × List PrecC × Int32 × Int32 × Int32 × Int32
def tk (t k : Nat) : Nat := if t = 0 then 0 else t + k
def isCase (G : GT) (H : Heap) (g : Nat → Nat) (a : Nat) (x : CaseC) : Prop := match x with
  | (id, pl, df, cl, du, dl, mt, sd, pc, aw, co, db, aa, ap) => ∃ m : Nat, Rz G H g a 5 [.int id, .int pl, .int df, .int cl, .int du, .int dl, .ref m, .int sd, .int pc, .int aw, .int co, .int db, .int aa, .int ap] ∧ Sz G H g m mt ∧ (narrow .char (.int sd) = .int sd ∧ fits .char (.int sd) = true) ∧ narrow .boolean (.int ap) = .int ap ∧ fits .boolean (.int ap) = true ∧ ¬ du < 0
def isPrec (G : GT) (H : Heap) (g : Nat → Nat) (a : Nat) (x : PrecC) : Prop := match x with
  | (mt, pc) => ∃ m : Nat, Rz G H g a 9 [.ref m, .int pc] ∧ Sz G H g m mt
/-- a list's row of objects -/
def ALb (G : GT) (H : Heap) (g : Nat → Nat) (t b : Nat) (rs : List Nat) : Prop := (b = gA G 1001 ∧ rs = []) ∨ ∃ arr : List (Option Nat), Oa G H g t b arr ∧ arr.take rs.length = rs.map some ∧ rs.length ≤ arr.length
def AL (G : GT) (H : Heap) (g : Nat → Nat) (t a : Nat) (rs : List Nat) : Prop := ∃ (b : Nat) (mc : Int32), Ob G H g t a 4 [.int mc, .ref b, .int (nI rs.length)] ∧ ALb G H g t b rs ∧ rs.length < 2 ^ 18 ∧ ∀ r ∈ rs, elO G H r ∧ tg G g r = 0
def Al2 {α : Type} (P : Nat → α → Prop) (rs : List Nat) (xs : List α) : Prop := rs.length = xs.length ∧ ∀ (i r : Nat) (x : α), rs[i]? = some r → xs[i]? = some x → P r x
def CL (G : GT) (H : Heap) (g : Nat → Nat) (t a : Nat) (xs : List CaseC) : Prop := ∃ rs : List Nat, AL G H g t a rs ∧ Al2 (isCase G H g) rs xs
def PL (G : GT) (H : Heap) (g : Nat → Nat) (t a : Nat) (xs : List PrecC) : Prop := ∃ rs : List Nat, AL G H g t a rs ∧ Al2 (isPrec G H g) rs xs
def MS (G : GT) (H : Heap) (g : Nat → Nat) (t a : Nat) (S : StC) : Prop := match S with
  | (bal, ten, cs, ps, n, ch, td, nx) => bal.length = 8 ∧ ten.length = 64 ∧ ∃ b k u v : Nat, Ob G H g (tk t 0) a 13 [.ref b, .ref k, .ref u, .ref v, .int n, .int ch, .int td, .int nx] ∧ Ia G H g (tk t 1) b 0 bal ∧ Ia G H g (tk t 2) k 0 ten ∧ CL G H g (tk t 3) u cs ∧ PL G H g (tk t 4) v ps
section MODEL
variable {G : GT} {H H1 : Heap} {g g1 : Nat → Nat} {ts : List Nat} {t a : Nat}
theorem isCase.fr {x : CaseC} (h : isCase G H g a x) (e : Ext G ts H g H1 g1) (ht : 0 ∉ ts) : isCase G H1 g1 a x := by
  obtain ⟨id, pl, df, cl, du, dl, mt, sd, pc, aw, co, db, aa, ap⟩ := x
  obtain ⟨m, h1, h2, h3⟩ := h
  exact ⟨m, h1.fr e ht, h2.fr e ht, h3⟩
theorem isPrec.fr {x : PrecC} (h : isPrec G H g a x) (e : Ext G ts H g H1 g1) (ht : 0 ∉ ts) : isPrec G H1 g1 a x := by
  obtain ⟨mt, pc⟩ := x
  obtain ⟨m, h1, h2⟩ := h
  exact ⟨m, h1.fr e ht, h2.fr e ht⟩
theorem elO.fr {r : Nat} (h : elO G H r) (hz : tg G g r = 0) (e : Ext G ts H g H1 g1) (ht : 0 ∉ ts) : elO G H1 r ∧ tg G g1 r = 0 := by
  obtain ⟨ci, q, fs, h1, h2, h3⟩ := h
  obtain ⟨e1, e2⟩ := e.2 r h3.lt (by rw [hz]; exact ht)
  exact ⟨⟨ci, q, fs, h1, h2, h3.kept e1⟩, e2.trans hz⟩
theorem AL.fr {rs : List Nat} (h : AL G H g t a rs) (e : Ext G ts H g H1 g1) (ht : t ∉ ts) (h0 : 0 ∉ ts) : AL G H1 g1 t a rs := by
  obtain ⟨b, mc, h1, h2, h3, h4⟩ := h
  refine ⟨b, mc, h1.fr e ht, ?_, h3, fun r hr => (h4 r hr).1.fr (h4 r hr).2 e h0⟩
  rcases h2 with h2 | ⟨arr, h5, h6⟩
  · exact Or.inl h2
  · exact Or.inr ⟨arr, h5.fr e ht, h6⟩
theorem Al2.imp {α : Type} {P P2 : Nat → α → Prop} {rs : List Nat} {xs : List α} (h : Al2 P rs xs) (k : ∀ r x, P r x → P2 r x) : Al2 P2 rs xs := ⟨h.1, fun i r x h1 h2 => k r x (h.2 i r x h1 h2)⟩
theorem CL.fr {xs : List CaseC} (h : CL G H g t a xs) (e : Ext G ts H g H1 g1) (ht : t ∉ ts) (h0 : 0 ∉ ts) : CL G H1 g1 t a xs := by
  obtain ⟨rs, h1, h2⟩ := h
  exact ⟨rs, h1.fr e ht h0, h2.imp fun r x hx => hx.fr e h0⟩
theorem PL.fr {xs : List PrecC} (h : PL G H g t a xs) (e : Ext G ts H g H1 g1) (ht : t ∉ ts) (h0 : 0 ∉ ts) : PL G H1 g1 t a xs := by
  obtain ⟨rs, h1, h2⟩ := h
  exact ⟨rs, h1.fr e ht h0, h2.imp fun r x hx => hx.fr e h0⟩
/-- a state's tags are not among ts -/
def tkn (t : Nat) (ts : List Nat) : Prop := 0 ∉ ts ∧ ∀ k, k < 5 → tk t k ∉ ts
theorem tkn0 (h : 0 ∉ ts) : tkn 0 ts := ⟨h, fun _ _ => h⟩
theorem MS.fr {S : StC} (h : MS G H g t a S) (e : Ext G ts H g H1 g1) (ht : tkn t ts) : MS G H1 g1 t a S := by
  obtain ⟨bal, ten, cs, ps, n, ch, td, nx⟩ := S
  obtain ⟨h1, h2, b, k, u, v, h3, h4, h5, h6, h7⟩ := h
  exact ⟨h1, h2, b, k, u, v, h3.fr e (ht.2 0 (by decide)), h4.fr e (ht.2 1 (by decide)), h5.fr e (ht.2 2 (by decide)), h6.fr e (ht.2 3 (by decide)) ht.1, h7.fr e (ht.2 4 (by decide)) ht.1⟩
end MODEL
/-- reading a row at an index that may be outside -/
def gI (l : List Int32) (i : Int32) : Int32 := l.getD i.toNatClampNeg 0
def sI (l : List Int32) (i x : Int32) : List Int32 := l.set i.toNatClampNeg x
theorem inR {i : Int32} {n : Nat} {m : Int32} (hm : Int32.ofNat n = m) (hn : n < 2 ^ 31) (h0 : ¬ i < 0) (h1 : ¬ m ≤ i) : vp_in i n := by
  rw [vp_in_iff]
  subst hm
  have h2 : (Int32.ofNat n).toInt = (n : Int) := nI_toInt hn
  rw [Int32.lt_iff_toInt_lt] at h0
  rw [Int32.le_iff_toInt_le, h2] at h1
  have h3 : (0 : Int32).toInt = 0 := rfl
  omega

/-! THE JUDGEMENT: V says of a method's frame, over a heap, that it comes to an end that satisfies Q (returned) or X (threw);
all that the kit's W carries beside (program, launch, frames, rooms, words) is closed over. Call is a method's contract from one heap. -/
abbrev GT : Type := Launch × va_G × (Nat → ClassId) × State × (Nat → Nat)
abbrev gL (G : GT) : Launch := G.1
abbrev gD (G : GT) : va_G := G.2.1
abbrev gT (G : GT) : Nat → ClassId := G.2.2.1
abbrev gB (G : GT) : State := G.2.2.2.1
abbrev gA (G : GT) : Nat → Nat := G.2.2.2.2
def gF (G : GT) : Nat → Prop := fun q => (gB G).heap.size ≤ q
/-- a method: name, bytes, how many locals, what it returns, its table -/
abbrev MT : Type := MethodName × ByteArray × Nat × Option FieldType × List (Nat × Nat × Nat × Nat)
def Tb : List Cond := lw_tbl.filter goodWord
theorem inTb {w : Cond} (h : w ∈ lw_tbl) (g : goodWord w = true) : w ∈ Tb := List.mem_filter.mpr ⟨h, g⟩
/-- words that hold wherever the tables are warmer, by laws of their own -/
def isCD : Cond → Bool := fun w => match w with
  | .castable _ _ => true
  | .declares _ => true
  | .fieldLinkNest _ _ _ _ _ _ => true
  | .methodLinkNest _ _ _ _ => true
  | _ => false
def Tc : List Cond := lw_tbl.filter isCD
theorem inTc {w : Cond} (h : w ∈ lw_tbl) (g : isCD w = true) : w ∈ Tc := List.mem_filter.mpr ⟨h, g⟩
theorem Tc_at {w : Cond} (h : w ∈ Tc) {b args : Array Value} {s U : State} (hW : s.WarmedH U.vm) (hb : ∀ w ∈ lw_tbl, w.before b s = true) : w.before args U = true := by
  obtain ⟨h1, h2⟩ := List.mem_filter.mp h
  have h3 := hb _ h1
  cases w <;> first | exact absurd (show false = true from h2) Bool.false_ne_true | exact va_Nw.use rfl ((va_Nw.of rfl h3).warmC hW) | exact va_Nw.use rfl ((va_Nw.of rfl h3).warmD hW) | exact va_Nw.use rfl ((va_Nw.of rfl h3).warmF hW) | exact va_Nw.use rfl ((va_Nw.of rfl h3).warmM hW)
theorem goodTb {ws : List Cond} (h : ∀ w ∈ ws, w ∈ Tb) : GoodIn Tb ws := fun w hw => ⟨h w hw, good_of_word (List.mem_filter.mp (h w hw)).2⟩
def tyK : Nat → FieldType := fun k => match k with
  | 0 => .int
  | 1 => .char
  | 2 => .byte
  | 3 => .boolean
  | 4 => .long
  | 5 => .object "java/lang/Object"
  | _ => .object "ButtonRegistry$Verb"
def tyL (t : Nat → ClassId) : List (ClassId × FieldType) := [(t 0, .int), (t 1, .char), (t 2, .byte), (t 3, .boolean), (t 4, .long), (t 5, .object "java/lang/Object")]
/-- an object, an array: to be written too (exact), to be read alone -/
def ob (G : GT) (H : Heap) (a ci : Nat) (fs : List Value) : Prop := va_at (gD G) vwCl (a, .inr (ci, fs)) H
def ar (G : GT) (H : Heap) (a k : Nat) (x : vp_A) : Prop := H[a]? = some (vp_cell (gT G k) x) ∧ ArrOfT (gB G) (gT G k) (tyK k)
def ro (G : GT) (H : Heap) (a ci : Nat) (fs : List Value) : Prop := ∃ (r : vw_C) (cell : Cell), vwCl[ci]? = some r ∧ H[a]? = some cell ∧ cell.cls = (gD G).1 ci ∧ cell.vm ≠ .unknown ∧ cell.vm.isStatics = false ∧ ∀ k, k < r.2.2 → cell.slots[(gD G).2 ci k]? = some (vp_V fs k)
def ra (G : GT) (H : Heap) (a k n : Nat) (f : Nat → Value) : Prop := ∃ cell : Cell, H[a]? = some cell ∧ (gB G).isArrayOf cell (tyK k) ∧ cell.vm ≠ .unknown ∧ cell.vm.isStatics = false ∧ n ≤ cell.slots.size ∧ cell.slots.size.toInt32 = Int32.ofNat n ∧ ∀ j, j < n → cell.slots[j]? = some (f j)
def ia (l : List Int32) : vp_A := (l.length, .inl (fun j => l.getD j 0))
def la (l : List Int64) : vp_A := (l.length, .inr (.inl (fun j => l.getD j 0)))
def oa (l : List (Option Nat)) : vp_A := (l.length, .inr (.inr (.inr (.inr (fun j => l.getD j none)))))
def iv (l : List Int32) (j : Nat) : Value := .int (l.getD j 0)
/-- a text of signs below 128 -/
def asc (l : List Int32) : Prop := ∀ x ∈ l, 0 ≤ x ∧ x < 128
def isStr (G : GT) (H : Heap) (a : Nat) (l : List Int32) : Prop := asc l ∧ l.length < 2 ^ 20 ∧ ∃ (b : Nat) (h z : Value), ro G H a 0 [.ref b, .int 0, h, z] ∧ ra G H b 2 l.length (iv l)
def chars (s : String) : List Int32 := s.toList.map fun q => Int32.ofNat q.toNat

def strT : List (String × Nat × String) := [("java/lang/StringIndexOutOfBoundsException", 13, "String index out of range: "), ("java/util/Arrays", 337, " > "), ("java/util/Arrays", 48, "fromIndex("), ("java/util/Arrays", 57, ") > toIndex("), ("java/util/Arrays", 59, ")"), ("java/lang/ArrayIndexOutOfBoundsException", 13, "Array index out of range: "), ("ButtonRegistry", 142, "no such button"), ("ButtonRegistry", 149, "an argument is not allowed"), ("ButtonRegistry", 154, "not possible in this state"), ("ButtonRegistry", 159, "no such bond or case"), ("ButtonRegistry", 164, "a word or a precedent is missing"), ("ButtonRegistry", 171, "not a letter from a to z"), ("ButtonRegistry", 176, "the word is full"), ("ButtonRegistry", 311, "no such case"), ("ButtonRegistry", 313, "the case is filed"), ("ButtonRegistry", 376, "not a character from 32 to 126"), ("ButtonRegistry", 378, "the script buffer is full"), ("ButtonRegistry$Order", 17, ""), ("java/lang/StringLatin1", 151, ""), ("java/lang/StringUTF16", 295, ""), ("ButtonRegistry", 389, "the script does not have the required form"), ("ButtonRegistry", 400, "a command failed"), ("ButtonRegistry", 402, "no script was of another form"), ("ButtonRegistry", 409, "nothing to undo"), ("ButtonRegistry", 411, "no snapshot"), ("ButtonRegistryLaw", 204, ""), ("ButtonRegistry", 305, "no cases"), ("java/util/ArrayList", 201, "Index: "), ("java/util/ArrayList", 203, ", Size: "), ("ButtonRegistry", 373, "no such index"), ("ButtonRegistry", 232, "no such rank"), ("ButtonRegistry", 345, "no such precedent"), ("ButtonRegistry", 243, "no such position"), ("ButtonRegistry", 319, "no precedents"), ("ButtonRegistryLaw", 323, "wait 1;hear "), ("ButtonRegistryLaw", 328, "rule 50:ab;bond 0-1 "), ("ButtonRegistryLaw", 336, "ab"), ("ButtonRegistry", 202, "no bond between them"), ("ButtonRegistry", 238, "both buttons are the same"), ("ButtonRegistryLaw", 378, "q"), ("ButtonRegistryLaw", 382, "wait 1;hear 99"), ("ButtonRegistry", 404, "no command failed"), ("ButtonRegistryLaw", 386, "cut 9-9"), ("ButtonRegistryLaw", 396, "a"), ("ButtonRegistryLaw", 398, "b"), ("ButtonRegistry$Verb", 61, "button"), ("ButtonRegistry$Verb", 67, "bond D-D N"), ("ButtonRegistry$Verb", 70, "cut D-D"), ("ButtonRegistry$Verb", 73, "file D>D N D N:M"), ("ButtonRegistry$Verb", 76, "rule N:M"), ("ButtonRegistry$Verb", 79, "hear N"), ("ButtonRegistry$Verb", 82, "appeal N"), ("ButtonRegistry$Verb", 85, "drop N"), ("ButtonRegistry$Verb", 88, "close N"), ("ButtonRegistry$Verb", 91, "give D>D N"), ("ButtonRegistry$Verb", 94, "wait N")]
def stT : List (String × String × String) := [("java/lang/String", "COMPACT_STRINGS", "Z"), ("java/util/ArrayList", "DEFAULTCAPACITY_EMPTY_ELEMENTDATA", "[Ljava/lang/Object;"), ("java/lang/Integer", "DigitTens", "[B"), ("java/lang/Integer", "DigitOnes", "[B"), ("ButtonRegistry$ScriptReader", "VERBS", "[LButtonRegistry$Verb;"), ("ButtonRegistry$1", "$SwitchMap$ButtonRegistry$Verb", "[I"), ("jdk/internal/util/Preconditions", "SIOOBE_FORMATTER", "Ljava/util/function/BiFunction;")]
def v6 (G : GT) : Value := if gA G 1007 = 0 then .null else .ref (gA G 1006)
def stV (G : GT) (i : Nat) : Value := if i = 0 then .int 1 else if i = 6 then v6 G else .ref (gA G (1000 + i))
def digT : List Int32 := (List.range 100).map fun j => Int32.ofNat (48 + j / 10)
def digO : List Int32 := (List.range 100).map fun j => Int32.ofNat (48 + j % 10)
/-- what the start gives: what never changes -/
def OLD (G : GT) : Prop :=
  (∀ (i : Nat) (q : String × Nat × String), strT[i]? = some q → vk_R q.1 q.2.1 q.2.2 (gA G i) (gB G) ∧ isStr G (gB G).heap (gA G i) (chars q.2.2)) ∧
  (∀ (i : Nat) (q : String × String × String), stT[i]? = some q → va_Z q.1 q.2.1 q.2.2 (stV G i) (gF G) (gB G) (gB G).heap) ∧
  ra G (gB G).heap (gA G 1001) 5 0 (fun _ => .null) ∧ ra G (gB G).heap (gA G 1002) 2 100 (iv digT) ∧ ra G (gB G).heap (gA G 1003) 2 100 (iv digO) ∧
  ra G (gB G).heap (gA G 1004) 6 11 (fun j => .ref (gA G (1100 + j))) ∧ ra G (gB G).heap (gA G 1005) 0 11 (fun j => .int (nI (j + 1))) ∧
  (∀ i : Nat, i < 11 → va_O "ButtonRegistry$Verb" (gA G (1100 + i)) (gF G) (gB G) (gB G).heap ∧ va_OF "java/lang/Enum" "ordinal" "I" (.int (nI i)) (gA G (1100 + i)) (gF G) (gB G) (gB G).heap ∧ va_OF "ButtonRegistry$Verb" "form" "Ljava/lang/String;" (.ref (gA G (45 + i))) (gA G (1100 + i)) (gF G) (gB G) (gB G).heap) ∧
  va_Mi "[Ljava/lang/Object;" (gA G 1200) (gB G)
def ncT : List (String × String) := [("java/lang/IndexOutOfBoundsException", "java/lang/IllegalStateException"), ("java/lang/IllegalArgumentException", "java/lang/IllegalStateException"), ("java/util/NoSuchElementException", "java/lang/IllegalStateException"), ("java/lang/UnsupportedOperationException", "java/lang/IllegalStateException"), ("java/lang/StringIndexOutOfBoundsException", "java/lang/IllegalStateException"), ("java/lang/ArrayIndexOutOfBoundsException", "java/lang/IllegalStateException"), ("java/lang/ArithmeticException", "java/lang/IllegalStateException"), ("java/lang/IllegalStateException", "java/lang/IllegalArgumentException"), ("java/lang/IndexOutOfBoundsException", "java/lang/IllegalArgumentException"), ("java/util/NoSuchElementException", "java/lang/IllegalArgumentException"), ("java/lang/UnsupportedOperationException", "java/lang/IllegalArgumentException"), ("java/lang/StringIndexOutOfBoundsException", "java/lang/IllegalArgumentException"), ("java/lang/ArrayIndexOutOfBoundsException", "java/lang/IllegalArgumentException"), ("java/lang/ArithmeticException", "java/lang/IllegalArgumentException"), ("java/lang/IllegalStateException", "java/util/NoSuchElementException"), ("java/lang/IndexOutOfBoundsException", "java/util/NoSuchElementException"), ("java/lang/IllegalArgumentException", "java/util/NoSuchElementException"), ("java/lang/UnsupportedOperationException", "java/util/NoSuchElementException"), ("java/lang/StringIndexOutOfBoundsException", "java/util/NoSuchElementException"), ("java/lang/ArrayIndexOutOfBoundsException", "java/util/NoSuchElementException"), ("java/lang/ArithmeticException", "java/util/NoSuchElementException"), ("java/lang/IllegalStateException", "java/lang/UnsupportedOperationException"), ("java/lang/IndexOutOfBoundsException", "java/lang/UnsupportedOperationException"), ("java/lang/IllegalArgumentException", "java/lang/UnsupportedOperationException"), ("java/util/NoSuchElementException", "java/lang/UnsupportedOperationException"), ("java/lang/StringIndexOutOfBoundsException", "java/lang/UnsupportedOperationException"), ("java/lang/ArrayIndexOutOfBoundsException", "java/lang/UnsupportedOperationException"), ("java/lang/ArithmeticException", "java/lang/UnsupportedOperationException"), ("java/lang/IllegalStateException", "java/lang/IndexOutOfBoundsException"), ("java/lang/IllegalArgumentException", "java/lang/IndexOutOfBoundsException"), ("java/util/NoSuchElementException", "java/lang/IndexOutOfBoundsException"), ("java/lang/UnsupportedOperationException", "java/lang/IndexOutOfBoundsException"), ("java/lang/ArithmeticException", "java/lang/IndexOutOfBoundsException"), ("java/lang/IllegalStateException", "java/lang/ArithmeticException"), ("java/lang/IndexOutOfBoundsException", "java/lang/ArithmeticException"), ("java/lang/IllegalArgumentException", "java/lang/ArithmeticException"), ("java/util/NoSuchElementException", "java/lang/ArithmeticException"), ("java/lang/UnsupportedOperationException", "java/lang/ArithmeticException"), ("java/lang/StringIndexOutOfBoundsException", "java/lang/ArithmeticException"), ("java/lang/ArrayIndexOutOfBoundsException", "java/lang/ArithmeticException")]
def OK (G : GT) : Prop := (gL G).stackTraces = false ∧ va_K (gD G) vwCl (tyL (gT G)) (gB G) ∧ vx_Zq Bundle.tN "UNASSIGNED_STACK" Bundle.steD (gF G) (gB G) (gB G).heap ∧ vx_Zq Bundle.tN "SUPPRESSED_SENTINEL" Bundle.listD (gF G) (gB G) (gB G).heap ∧ OLD G ∧ (∀ q ∈ ncT, va_Nc q.1 q.2 (gB G)) ∧ ∃ b : Array Value, ∀ w ∈ lw_tbl, w.before b (gB G) = true
def KU (G : GT) (U : State) : Prop := OK G ∧ (gB G).WarmedH U.vm ∧ va_S (gF G) (gB G).heap U.heap []
def Cx (G : GT) (K : MT) (d : Nat) (p : Program) (e : Env) (R : Room) (st : State) (m : MethodId) (args : Array Value) (below : List Frame) (meth : Method) (co : Code) : Prop :=
  p.tables.exec = Jvm.exec ∧ co.code = K.2.1 ∧ co.maxLocals = K.2.2.1 ∧ st.vm.findClass K.1.cls = some m.cls ∧ meth.locks = false ∧ co.exceptionTable.toList = tableOf K.2.2.2.2 ∧ meth.sig.returnType = K.2.2.2.1 ∧ meth.name = K.1.name ∧ (∀ w ∈ Tb, w.before args st = true) ∧ KU G st ∧ d ≤ R.frames ∧ 64 * d ≤ R.locals
/-- the locals by their places; none: nothing is said -/
def lvL (L : List (Option Value)) : List (Nat × Value) := L.zipIdx.filterMap fun q => q.1.map fun v => (q.2, v)
theorem lvL_mem {L : List (Option Value)} {i : Nat} {v : Value} : (i, v) ∈ lvL L ↔ L[i]? = some (some v) := by
  simp only [lvL, List.mem_filterMap, List.mem_zipIdx_iff_getElem?, Option.map_eq_some_iff, Prod.mk.injEq, Prod.exists]
  constructor
  · rintro ⟨a, b, h, c, rfl, rfl, rfl⟩
    exact h
  · intro h
    exact ⟨some v, i, h, v, rfl, rfl, rfl⟩
def LH (ls : Array Slot) (L : List (Option Value)) : Prop := lv_has ls L.length (lvL L)
theorem LH.get {ls : Array Slot} {L : List (Option Value)} (h : LH ls L) {i : Nat} {v : Value} (hv : L[i]? = some (some v)) : ls[i]? = some (.val v) := h.2.2 (i, v) (lvL_mem.mpr hv)
def nc2 (o : Option Value) : Bool := match o with
  | some v => v.category != 2
  | none => true
def ncAt (L : List (Option Value)) (i : Nat) : Bool := match i with
  | 0 => true
  | j + 1 => nc2 (L.getD j none)
theorem LH.set1 {ls : Array Slot} {L : List (Option Value)} {i : Nat} {v : Value} (hn : ncAt L i = true) (h : lv_has ls L.length ((i, v) :: (lvL L).filter (fun q => !(q.1 == i) && !(q.1 + 1 == i && q.2.category == 2)))) : LH ls (L.set i (some v)) := by
  refine ⟨by rw [List.length_set]; exact h.1, h.2.1, fun q hq => ?_⟩
  obtain ⟨j, x⟩ := q
  rw [lvL_mem, List.getElem?_set] at hq
  by_cases hij : i = j
  · subst hij
    rw [if_pos rfl] at hq
    split at hq
    · cases hq
      exact h.2.2 (i, v) List.mem_cons_self
    · cases hq
  · rw [if_neg hij] at hq
    refine h.2.2 (j, x) (List.mem_cons_of_mem _ (List.mem_filter.mpr ⟨lvL_mem.mpr hq, ?_⟩))
    have h1 : (j == i) = false := by simp only [beq_eq_false_iff_ne]; exact fun e => hij e.symm
    rw [h1]
    by_cases h2 : j + 1 = i
    · subst h2
      simp only [ncAt, nc2, List.getD_eq_getElem?_getD, hq, Option.getD_some, bne_iff_ne, ne_eq] at hn
      simp [hn]
    · simp [h2]
theorem LH.set2 {ls : Array Slot} {L : List (Option Value)} {i : Nat} {v : Value} (hn : ncAt L i = true) (h : lv_has ls L.length ((i, v) :: (lvL L).filter (fun q => !(q.1 == i) && (!(q.1 == i + 1) && !(q.1 + 1 == i && q.2.category == 2))))) : LH ls ((L.set i (some v)).set (i + 1) none) := by
  refine ⟨by rw [List.length_set, List.length_set]; exact h.1, h.2.1, fun q hq => ?_⟩
  obtain ⟨j, x⟩ := q
  rw [lvL_mem, List.getElem?_set] at hq
  by_cases hij1 : i + 1 = j
  · rw [if_pos hij1] at hq
    split at hq <;> cases hq
  · rw [if_neg hij1, List.getElem?_set] at hq
    by_cases hij : i = j
    · subst hij
      rw [if_pos rfl] at hq
      split at hq
      · cases hq
        exact h.2.2 (i, v) List.mem_cons_self
      · cases hq
    · rw [if_neg hij] at hq
      refine h.2.2 (j, x) (List.mem_cons_of_mem _ (List.mem_filter.mpr ⟨lvL_mem.mpr hq, ?_⟩))
      have h1 : (j == i) = false := by simp only [beq_eq_false_iff_ne]; exact fun e => hij e.symm
      have h3 : (j == i + 1) = false := by simp only [beq_eq_false_iff_ne]; exact fun e => hij1 e.symm
      rw [h1, h3]
      by_cases h2 : j + 1 = i
      · subst h2
        simp only [ncAt, nc2, List.getD_eq_getElem?_getD, hq, Option.getD_some, bne_iff_ne, ne_eq] at hn
        simp [hn]
      · simp [h2]
def Qr (G : GT) (Q : Option Value → Heap → Prop) : Array Value → State → Outcome → State → Prop := fun _ st o t => ∃ v : Option Value, o = .returned v ∧ Q v t.heap ∧ va_F (gF G) st t
def Xr (G : GT) (X : String → Heap → Prop) : String → State → State → Prop := fun E st t => X E t.heap ∧ va_F (gF G) st t
def V (G : GT) (K : MT) (d c s : Nat) (Q : Option Value → Heap → Prop) (X : String → Heap → Prop) (pc : Nat) (L : List (Option Value)) (stk : List Value) (H : Heap) : Prop :=
  ∀ (p : Program) (e : Env) (R : Room) (st : State) (m : MethodId) (args : Array Value) (below : List Frame) (meth : Method) (co : Code) (ls : Array Slot) (locs : List Loc) (ce sl : Nat),
    Cx G K d p e R st m args below meth co → LH ls L ∧ L.length = K.2.2.1 → va_S (gF G) st.heap H locs → ce + c ≤ R.cells → sl + s ≤ R.slots →
    W p (gL G) e R st m args below meth co H locs ce sl (vx_MQ below (Qr G Q) (Xr G X) args st R.cells R.slots (gF G)) (F0 m pc ls stk)
/-- an exception of class E is under way at the instruction pc -/
def VX (G : GT) (K : MT) (d c s : Nat) (Q : Option Value → Heap → Prop) (X : String → Heap → Prop) (pc : Nat) (L : List (Option Value)) (E : String) (H : Heap) : Prop :=
  ∀ (p : Program) (e : Env) (R : Room) (st : State) (m : MethodId) (args : Array Value) (below : List Frame) (meth : Method) (co : Code) (ls : Array Slot) (locs : List Loc) (ce sl : Nat) (rest : List Value) (q : Addr) (cell : Cell),
    Cx G K d p e R st m args below meth co → LH ls L ∧ L.length = K.2.2.1 → va_S (gF G) st.heap H locs → ce + c ≤ R.cells → sl + s ≤ R.slots → H[q]? = some cell → cell.vm = .none → st.vm.findClass E = some cell.cls →
    vx_W p (gL G) e R st m args below meth co H locs ce sl (vx_MQ below (Qr G Q) (Xr G X) args st R.cells R.slots (gF G)) (F0 m pc ls rest) q
def hdK (K : MT) : Cond := match K.2.2.2.2 with
  | [] => .code K.1 K.2.1 K.2.2.1 K.2.2.2.1
  | _ => .codeWith K.1 K.2.1 K.2.2.1 K.2.2.2.1 K.2.2.2.2
def rmK (d c s : Nat) : Room := { frames := d, cells := c, slots := s, locals := 64 * d }
def PcK (G : GT) (as : List Value) (H : Heap) : Array Value → State → Prop := fun a U => a = as.toArray ∧ U.heap = H ∧ KU G U
/-- the contract of a method, from one heap -/
def Call (G : GT) (K : MT) (d c s : Nat) (as : List Value) (H : Heap) (Q : Option Value → Heap → Prop) (X : String → Heap → Prop) : Prop :=
  vx_Met (gL G) K.1 (hdK K :: Tb) (rmK d c s) (PcK G as H) (Qr G Q) (Xr G X) c s (gF G)
def entL (nL : Nat) (as : List Value) : List (Option Value) := (as.flatMap fun v => if v.category = 2 then [some v, none] else [some v]) ++ List.replicate (nL - (as.flatMap fun v => if v.category = 2 then [some v, none] else [some v]).length) none
section RULES
variable {G : GT} {K : MT} {d c s : Nat} {Q : Option Value → Heap → Prop} {X : String → Heap → Prop} {H : Heap} {L : List (Option Value)} {rest : List Value} {pc : Nat}
theorem Cx.k {p : Program} {e : Env} {R : Room} {st : State} {m : MethodId} {args : Array Value} {below : List Frame} {meth : Method} {co : Code} (h : Cx G K d p e R st m args below meth co) : va_K (gD G) vwCl (tyL (gT G)) st := h.2.2.2.2.2.2.2.2.2.1.1.2.1.moved h.2.2.2.2.2.2.2.2.2.1.2.1.alike
theorem Cx.ku {p : Program} {e : Env} {R : Room} {st : State} {m : MethodId} {args : Array Value} {below : List Frame} {meth : Method} {co : Code} (h : Cx G K d p e R st m args below meth co) : KU G st := h.2.2.2.2.2.2.2.2.2.1
theorem Cx.w {p : Program} {e : Env} {R : Room} {st : State} {m : MethodId} {args : Array Value} {below : List Frame} {meth : Method} {co : Code} (h : Cx G K d p e R st m args below meth co) : ∀ w ∈ Tb, w.before args st = true := h.2.2.2.2.2.2.2.2.1
theorem Cx.tc {p : Program} {e : Env} {R : Room} {st : State} {m : MethodId} {args : Array Value} {below : List Frame} {meth : Method} {co : Code} (h : Cx G K d p e R st m args below meth co) : ∀ w ∈ Tc, w.before args st = true := fun w hw => by
  obtain ⟨b, hb⟩ := h.ku.1.2.2.2.2.2.2
  exact Tc_at hw h.ku.2.1 hb
theorem Cx.own {p : Program} {e : Env} {R : Room} {st : State} {m : MethodId} {args : Array Value} {below : List Frame} {meth : Method} {co : Code} (h : Cx G K d p e R st m args below meth co) : st.vm.findClass K.1.cls = some m.cls := h.2.2.2.1
theorem Cx.locks {p : Program} {e : Env} {R : Room} {st : State} {m : MethodId} {args : Array Value} {below : List Frame} {meth : Method} {co : Code} (h : Cx G K d p e R st m args below meth co) : meth.locks = false := h.2.2.2.2.1
theorem Cx.tab {p : Program} {e : Env} {R : Room} {st : State} {m : MethodId} {args : Array Value} {below : List Frame} {meth : Method} {co : Code} (h : Cx G K d p e R st m args below meth co) : co.exceptionTable.toList = tableOf K.2.2.2.2 := h.2.2.2.2.2.1
theorem Cx.ret {p : Program} {e : Env} {R : Room} {st : State} {m : MethodId} {args : Array Value} {below : List Frame} {meth : Method} {co : Code} (h : Cx G K d p e R st m args below meth co) : meth.sig.returnType = K.2.2.2.1 := h.2.2.2.2.2.2.1
theorem Cx.nm {p : Program} {e : Env} {R : Room} {st : State} {m : MethodId} {args : Array Value} {below : List Frame} {meth : Method} {co : Code} (h : Cx G K d p e R st m args below meth co) : meth.name = K.1.name := h.2.2.2.2.2.2.2.1
theorem Cx.fr {p : Program} {e : Env} {R : Room} {st : State} {m : MethodId} {args : Array Value} {below : List Frame} {meth : Method} {co : Code} (h : Cx G K d p e R st m args below meth co) : d ≤ R.frames := h.2.2.2.2.2.2.2.2.2.2.1
theorem Cx.lo {p : Program} {e : Env} {R : Room} {st : State} {m : MethodId} {args : Array Value} {below : List Frame} {meth : Method} {co : Code} (h : Cx G K d p e R st m args below meth co) : 64 * d ≤ R.locals := h.2.2.2.2.2.2.2.2.2.2.2

theorem V_iconst {n : Int} {v : Int32} (hd : decode K.2.1 pc = .ok (.iconst n, 1)) (hv : Int32.ofInt n = v) (k : V G K d c s Q X (pc + 1) L (.int v :: rest) H) : V G K d c s Q X pc L rest H :=
  fun p e R st m args below meth co ls locs ce sl hC hl hS hc hs => lv_iconst hC.1 hC.2.1 hd hv (k p e R st m args below meth co ls locs ce sl hC hl hS hc hs)
theorem V_bipush {n : Int} {v : Int32} (hd : decode K.2.1 pc = .ok (.bipush n, 2)) (hv : (Int8.ofInt n).toInt32 = v) (k : V G K d c s Q X (pc + 2) L (.int v :: rest) H) : V G K d c s Q X pc L rest H :=
  fun p e R st m args below meth co ls locs ce sl hC hl hS hc hs => lv_bipush hC.1 hC.2.1 hd hv (k p e R st m args below meth co ls locs ce sl hC hl hS hc hs)
theorem V_sipush {n : Int} {v : Int32} (hd : decode K.2.1 pc = .ok (.sipush n, 3)) (hv : (Int16.ofInt n).toInt32 = v) (k : V G K d c s Q X (pc + 3) L (.int v :: rest) H) : V G K d c s Q X pc L rest H :=
  fun p e R st m args below meth co ls locs ce sl hC hl hS hc hs => lv_sipush hC.1 hC.2.1 hd hv (k p e R st m args below meth co ls locs ce sl hC hl hS hc hs)
theorem V_null (hd : decode K.2.1 pc = .ok (.aconst_null, 1)) (k : V G K d c s Q X (pc + 1) L (.null :: rest) H) : V G K d c s Q X pc L rest H :=
  fun p e R st m args below meth co ls locs ce sl hC hl hS hc hs => lv_null hC.1 hC.2.1 hd (k p e R st m args below meth co ls locs ce sl hC hl hS hc hs)
theorem V_iload_0 {x : Int32} (hd : decode K.2.1 pc = .ok (.iload_n 0, 1)) (k : V G K d c s Q X (pc + 1) (some (.int x) :: L) (.int x :: rest) H) : V G K d c s Q X pc (some (.int x) :: L) (rest) H :=
  fun p e R st m args below meth co ls locs ce sl hC hl hS hc hs => lv_iload_n hC.1 hC.2.1 hd rfl (hl.1.get (i := 0) rfl) (k p e R st m args below meth co ls locs ce sl hC hl hS hc hs)
theorem V_aload_0 {x : Nat} (hd : decode K.2.1 pc = .ok (.aload_n 0, 1)) (k : V G K d c s Q X (pc + 1) (some (.ref x) :: L) (.ref x :: rest) H) : V G K d c s Q X pc (some (.ref x) :: L) (rest) H :=
  fun p e R st m args below meth co ls locs ce sl hC hl hS hc hs => lv_aload_n hC.1 hC.2.1 hd rfl (hl.1.get (i := 0) rfl) (k p e R st m args below meth co ls locs ce sl hC hl hS hc hs)
theorem V_lload_0 {x : Int64} (hd : decode K.2.1 pc = .ok (.lload_n 0, 1)) (k : V G K d c s Q X (pc + 1) (some (.long x) :: L) (.long x :: rest) H) : V G K d c s Q X pc (some (.long x) :: L) (rest) H :=
  fun p e R st m args below meth co ls locs ce sl hC hl hS hc hs => lv_lload_n hC.1 hC.2.1 hd rfl (hl.1.get (i := 0) rfl) (k p e R st m args below meth co ls locs ce sl hC hl hS hc hs)
theorem V_istore_0 {o : Option Value} {x : Int32} (hd : decode K.2.1 pc = .ok (.istore_n 0, 1)) (k : V G K d c s Q X (pc + 1) (some (.int x) :: L) rest H) : V G K d c s Q X pc (o :: L) (.int x :: rest) H :=
  fun p e R st m args below meth co ls locs ce sl hC hl hS hc hs => lv_istore_n hC.1 hC.2.1 hd rfl hl.1 (show 0 < List.length (o :: L) by simp; try omega) rfl (fun ls2 hl2 => k p e R st m args below meth co ls2 locs ce sl hC ⟨LH.set1 (L := (o :: L)) (i := 0) rfl hl2, hl.2⟩ hS hc hs)
theorem V_astore_0 {o : Option Value} {x : Nat} (hd : decode K.2.1 pc = .ok (.astore_n 0, 1)) (k : V G K d c s Q X (pc + 1) (some (.ref x) :: L) rest H) : V G K d c s Q X pc (o :: L) (.ref x :: rest) H :=
  fun p e R st m args below meth co ls locs ce sl hC hl hS hc hs => lv_astore_n hC.1 hC.2.1 hd rfl hl.1 (show 0 < List.length (o :: L) by simp; try omega) rfl (fun ls2 hl2 => k p e R st m args below meth co ls2 locs ce sl hC ⟨LH.set1 (L := (o :: L)) (i := 0) rfl hl2, hl.2⟩ hS hc hs)
theorem V_lstore_0 {o o2 : Option Value} {x : Int64} (hd : decode K.2.1 pc = .ok (.lstore_n 0, 1)) (k : V G K d c s Q X (pc + 1) (some (.long x) :: none :: L) rest H) : V G K d c s Q X pc (o :: o2 :: L) (.long x :: rest) H :=
  fun p e R st m args below meth co ls locs ce sl hC hl hS hc hs => lv_lstore_n hC.1 hC.2.1 hd rfl hl.1 (show 0 + 1 < List.length (o :: o2 :: L) by simp; try omega) rfl (fun ls2 hl2 => k p e R st m args below meth co ls2 locs ce sl hC ⟨LH.set2 (L := (o :: o2 :: L)) (i := 0) rfl hl2, hl.2⟩ hS hc hs)
theorem V_iinc_0 {x v : Int32} {n : Int} (hd : decode K.2.1 pc = .ok (.iinc 0 n, 3)) (hv : Int32.ofInt n = v) (k : V G K d c s Q X (pc + 3) (some (.int (x + v)) :: L) rest H) : V G K d c s Q X pc (some (.int x) :: L) rest H := by
  intro p e R st m args below meth co ls locs ce sl hC hl hS hc hs
  obtain ⟨kk, hkk⟩ := List.getElem?_of_mem (lvL_mem.mpr (show (some (.int x) :: L)[0]? = some (some (.int x)) from rfl))
  exact lv_iinc hC.1 hC.2.1 hd hl.1 hkk (congrArg (fun z => x + z) hv) (show 0 < List.length (some (.int x) :: L) by simp; try omega) rfl (fun ls2 hl2 => k p e R st m args below meth co ls2 locs ce sl hC ⟨LH.set1 (L := (some (.int x) :: L)) (i := 0) rfl hl2, hl.2⟩ hS hc hs)
theorem V_iload_1 {a0 : Option Value} {x : Int32} (hd : decode K.2.1 pc = .ok (.iload_n 1, 1)) (k : V G K d c s Q X (pc + 1) (a0 :: some (.int x) :: L) (.int x :: rest) H) : V G K d c s Q X pc (a0 :: some (.int x) :: L) (rest) H :=
  fun p e R st m args below meth co ls locs ce sl hC hl hS hc hs => lv_iload_n hC.1 hC.2.1 hd rfl (hl.1.get (i := 1) rfl) (k p e R st m args below meth co ls locs ce sl hC hl hS hc hs)
theorem V_aload_1 {a0 : Option Value} {x : Nat} (hd : decode K.2.1 pc = .ok (.aload_n 1, 1)) (k : V G K d c s Q X (pc + 1) (a0 :: some (.ref x) :: L) (.ref x :: rest) H) : V G K d c s Q X pc (a0 :: some (.ref x) :: L) (rest) H :=
  fun p e R st m args below meth co ls locs ce sl hC hl hS hc hs => lv_aload_n hC.1 hC.2.1 hd rfl (hl.1.get (i := 1) rfl) (k p e R st m args below meth co ls locs ce sl hC hl hS hc hs)
theorem V_lload_1 {a0 : Option Value} {x : Int64} (hd : decode K.2.1 pc = .ok (.lload_n 1, 1)) (k : V G K d c s Q X (pc + 1) (a0 :: some (.long x) :: L) (.long x :: rest) H) : V G K d c s Q X pc (a0 :: some (.long x) :: L) (rest) H :=
  fun p e R st m args below meth co ls locs ce sl hC hl hS hc hs => lv_lload_n hC.1 hC.2.1 hd rfl (hl.1.get (i := 1) rfl) (k p e R st m args below meth co ls locs ce sl hC hl hS hc hs)
theorem V_istore_1 {a0 o : Option Value} {x : Int32} (hd : decode K.2.1 pc = .ok (.istore_n 1, 1)) (hn : nc2 a0 = true) (k : V G K d c s Q X (pc + 1) (a0 :: some (.int x) :: L) rest H) : V G K d c s Q X pc (a0 :: o :: L) (.int x :: rest) H :=
  fun p e R st m args below meth co ls locs ce sl hC hl hS hc hs => lv_istore_n hC.1 hC.2.1 hd rfl hl.1 (show 1 < List.length (a0 :: o :: L) by simp; try omega) rfl (fun ls2 hl2 => k p e R st m args below meth co ls2 locs ce sl hC ⟨LH.set1 (L := (a0 :: o :: L)) (i := 1) (show ncAt (a0 :: o :: L) 1 = true from hn) hl2, hl.2⟩ hS hc hs)
theorem V_astore_1 {a0 o : Option Value} {x : Nat} (hd : decode K.2.1 pc = .ok (.astore_n 1, 1)) (hn : nc2 a0 = true) (k : V G K d c s Q X (pc + 1) (a0 :: some (.ref x) :: L) rest H) : V G K d c s Q X pc (a0 :: o :: L) (.ref x :: rest) H :=
  fun p e R st m args below meth co ls locs ce sl hC hl hS hc hs => lv_astore_n hC.1 hC.2.1 hd rfl hl.1 (show 1 < List.length (a0 :: o :: L) by simp; try omega) rfl (fun ls2 hl2 => k p e R st m args below meth co ls2 locs ce sl hC ⟨LH.set1 (L := (a0 :: o :: L)) (i := 1) (show ncAt (a0 :: o :: L) 1 = true from hn) hl2, hl.2⟩ hS hc hs)
theorem V_lstore_1 {a0 o o2 : Option Value} {x : Int64} (hd : decode K.2.1 pc = .ok (.lstore_n 1, 1)) (hn : nc2 a0 = true) (k : V G K d c s Q X (pc + 1) (a0 :: some (.long x) :: none :: L) rest H) : V G K d c s Q X pc (a0 :: o :: o2 :: L) (.long x :: rest) H :=
  fun p e R st m args below meth co ls locs ce sl hC hl hS hc hs => lv_lstore_n hC.1 hC.2.1 hd rfl hl.1 (show 1 + 1 < List.length (a0 :: o :: o2 :: L) by simp; try omega) rfl (fun ls2 hl2 => k p e R st m args below meth co ls2 locs ce sl hC ⟨LH.set2 (L := (a0 :: o :: o2 :: L)) (i := 1) (show ncAt (a0 :: o :: o2 :: L) 1 = true from hn) hl2, hl.2⟩ hS hc hs)
theorem V_iinc_1 {a0 : Option Value} {x v : Int32} {n : Int} (hd : decode K.2.1 pc = .ok (.iinc 1 n, 3)) (hv : Int32.ofInt n = v) (hn : nc2 a0 = true) (k : V G K d c s Q X (pc + 3) (a0 :: some (.int (x + v)) :: L) rest H) : V G K d c s Q X pc (a0 :: some (.int x) :: L) rest H := by
  intro p e R st m args below meth co ls locs ce sl hC hl hS hc hs
  obtain ⟨kk, hkk⟩ := List.getElem?_of_mem (lvL_mem.mpr (show (a0 :: some (.int x) :: L)[1]? = some (some (.int x)) from rfl))
  exact lv_iinc hC.1 hC.2.1 hd hl.1 hkk (congrArg (fun z => x + z) hv) (show 1 < List.length (a0 :: some (.int x) :: L) by simp; try omega) rfl (fun ls2 hl2 => k p e R st m args below meth co ls2 locs ce sl hC ⟨LH.set1 (L := (a0 :: some (.int x) :: L)) (i := 1) (show ncAt (a0 :: some (.int x) :: L) 1 = true from hn) hl2, hl.2⟩ hS hc hs)
theorem V_iload_2 {a0 a1 : Option Value} {x : Int32} (hd : decode K.2.1 pc = .ok (.iload_n 2, 1)) (k : V G K d c s Q X (pc + 1) (a0 :: a1 :: some (.int x) :: L) (.int x :: rest) H) : V G K d c s Q X pc (a0 :: a1 :: some (.int x) :: L) (rest) H :=
  fun p e R st m args below meth co ls locs ce sl hC hl hS hc hs => lv_iload_n hC.1 hC.2.1 hd rfl (hl.1.get (i := 2) rfl) (k p e R st m args below meth co ls locs ce sl hC hl hS hc hs)
theorem V_aload_2 {a0 a1 : Option Value} {x : Nat} (hd : decode K.2.1 pc = .ok (.aload_n 2, 1)) (k : V G K d c s Q X (pc + 1) (a0 :: a1 :: some (.ref x) :: L) (.ref x :: rest) H) : V G K d c s Q X pc (a0 :: a1 :: some (.ref x) :: L) (rest) H :=
  fun p e R st m args below meth co ls locs ce sl hC hl hS hc hs => lv_aload_n hC.1 hC.2.1 hd rfl (hl.1.get (i := 2) rfl) (k p e R st m args below meth co ls locs ce sl hC hl hS hc hs)
theorem V_lload_2 {a0 a1 : Option Value} {x : Int64} (hd : decode K.2.1 pc = .ok (.lload_n 2, 1)) (k : V G K d c s Q X (pc + 1) (a0 :: a1 :: some (.long x) :: L) (.long x :: rest) H) : V G K d c s Q X pc (a0 :: a1 :: some (.long x) :: L) (rest) H :=
  fun p e R st m args below meth co ls locs ce sl hC hl hS hc hs => lv_lload_n hC.1 hC.2.1 hd rfl (hl.1.get (i := 2) rfl) (k p e R st m args below meth co ls locs ce sl hC hl hS hc hs)
theorem V_istore_2 {a0 a1 o : Option Value} {x : Int32} (hd : decode K.2.1 pc = .ok (.istore_n 2, 1)) (hn : nc2 a1 = true) (k : V G K d c s Q X (pc + 1) (a0 :: a1 :: some (.int x) :: L) rest H) : V G K d c s Q X pc (a0 :: a1 :: o :: L) (.int x :: rest) H :=
  fun p e R st m args below meth co ls locs ce sl hC hl hS hc hs => lv_istore_n hC.1 hC.2.1 hd rfl hl.1 (show 2 < List.length (a0 :: a1 :: o :: L) by simp; try omega) rfl (fun ls2 hl2 => k p e R st m args below meth co ls2 locs ce sl hC ⟨LH.set1 (L := (a0 :: a1 :: o :: L)) (i := 2) (show ncAt (a0 :: a1 :: o :: L) 2 = true from hn) hl2, hl.2⟩ hS hc hs)
theorem V_astore_2 {a0 a1 o : Option Value} {x : Nat} (hd : decode K.2.1 pc = .ok (.astore_n 2, 1)) (hn : nc2 a1 = true) (k : V G K d c s Q X (pc + 1) (a0 :: a1 :: some (.ref x) :: L) rest H) : V G K d c s Q X pc (a0 :: a1 :: o :: L) (.ref x :: rest) H :=
  fun p e R st m args below meth co ls locs ce sl hC hl hS hc hs => lv_astore_n hC.1 hC.2.1 hd rfl hl.1 (show 2 < List.length (a0 :: a1 :: o :: L) by simp; try omega) rfl (fun ls2 hl2 => k p e R st m args below meth co ls2 locs ce sl hC ⟨LH.set1 (L := (a0 :: a1 :: o :: L)) (i := 2) (show ncAt (a0 :: a1 :: o :: L) 2 = true from hn) hl2, hl.2⟩ hS hc hs)
theorem V_lstore_2 {a0 a1 o o2 : Option Value} {x : Int64} (hd : decode K.2.1 pc = .ok (.lstore_n 2, 1)) (hn : nc2 a1 = true) (k : V G K d c s Q X (pc + 1) (a0 :: a1 :: some (.long x) :: none :: L) rest H) : V G K d c s Q X pc (a0 :: a1 :: o :: o2 :: L) (.long x :: rest) H :=
  fun p e R st m args below meth co ls locs ce sl hC hl hS hc hs => lv_lstore_n hC.1 hC.2.1 hd rfl hl.1 (show 2 + 1 < List.length (a0 :: a1 :: o :: o2 :: L) by simp; try omega) rfl (fun ls2 hl2 => k p e R st m args below meth co ls2 locs ce sl hC ⟨LH.set2 (L := (a0 :: a1 :: o :: o2 :: L)) (i := 2) (show ncAt (a0 :: a1 :: o :: o2 :: L) 2 = true from hn) hl2, hl.2⟩ hS hc hs)
theorem V_iinc_2 {a0 a1 : Option Value} {x v : Int32} {n : Int} (hd : decode K.2.1 pc = .ok (.iinc 2 n, 3)) (hv : Int32.ofInt n = v) (hn : nc2 a1 = true) (k : V G K d c s Q X (pc + 3) (a0 :: a1 :: some (.int (x + v)) :: L) rest H) : V G K d c s Q X pc (a0 :: a1 :: some (.int x) :: L) rest H := by
  intro p e R st m args below meth co ls locs ce sl hC hl hS hc hs
  obtain ⟨kk, hkk⟩ := List.getElem?_of_mem (lvL_mem.mpr (show (a0 :: a1 :: some (.int x) :: L)[2]? = some (some (.int x)) from rfl))
  exact lv_iinc hC.1 hC.2.1 hd hl.1 hkk (congrArg (fun z => x + z) hv) (show 2 < List.length (a0 :: a1 :: some (.int x) :: L) by simp; try omega) rfl (fun ls2 hl2 => k p e R st m args below meth co ls2 locs ce sl hC ⟨LH.set1 (L := (a0 :: a1 :: some (.int x) :: L)) (i := 2) (show ncAt (a0 :: a1 :: some (.int x) :: L) 2 = true from hn) hl2, hl.2⟩ hS hc hs)
theorem V_iload_3 {a0 a1 a2 : Option Value} {x : Int32} (hd : decode K.2.1 pc = .ok (.iload_n 3, 1)) (k : V G K d c s Q X (pc + 1) (a0 :: a1 :: a2 :: some (.int x) :: L) (.int x :: rest) H) : V G K d c s Q X pc (a0 :: a1 :: a2 :: some (.int x) :: L) (rest) H :=
  fun p e R st m args below meth co ls locs ce sl hC hl hS hc hs => lv_iload_n hC.1 hC.2.1 hd rfl (hl.1.get (i := 3) rfl) (k p e R st m args below meth co ls locs ce sl hC hl hS hc hs)
theorem V_aload_3 {a0 a1 a2 : Option Value} {x : Nat} (hd : decode K.2.1 pc = .ok (.aload_n 3, 1)) (k : V G K d c s Q X (pc + 1) (a0 :: a1 :: a2 :: some (.ref x) :: L) (.ref x :: rest) H) : V G K d c s Q X pc (a0 :: a1 :: a2 :: some (.ref x) :: L) (rest) H :=
  fun p e R st m args below meth co ls locs ce sl hC hl hS hc hs => lv_aload_n hC.1 hC.2.1 hd rfl (hl.1.get (i := 3) rfl) (k p e R st m args below meth co ls locs ce sl hC hl hS hc hs)
theorem V_lload_3 {a0 a1 a2 : Option Value} {x : Int64} (hd : decode K.2.1 pc = .ok (.lload_n 3, 1)) (k : V G K d c s Q X (pc + 1) (a0 :: a1 :: a2 :: some (.long x) :: L) (.long x :: rest) H) : V G K d c s Q X pc (a0 :: a1 :: a2 :: some (.long x) :: L) (rest) H :=
  fun p e R st m args below meth co ls locs ce sl hC hl hS hc hs => lv_lload_n hC.1 hC.2.1 hd rfl (hl.1.get (i := 3) rfl) (k p e R st m args below meth co ls locs ce sl hC hl hS hc hs)
theorem V_istore_3 {a0 a1 a2 o : Option Value} {x : Int32} (hd : decode K.2.1 pc = .ok (.istore_n 3, 1)) (hn : nc2 a2 = true) (k : V G K d c s Q X (pc + 1) (a0 :: a1 :: a2 :: some (.int x) :: L) rest H) : V G K d c s Q X pc (a0 :: a1 :: a2 :: o :: L) (.int x :: rest) H :=
  fun p e R st m args below meth co ls locs ce sl hC hl hS hc hs => lv_istore_n hC.1 hC.2.1 hd rfl hl.1 (show 3 < List.length (a0 :: a1 :: a2 :: o :: L) by simp; try omega) rfl (fun ls2 hl2 => k p e R st m args below meth co ls2 locs ce sl hC ⟨LH.set1 (L := (a0 :: a1 :: a2 :: o :: L)) (i := 3) (show ncAt (a0 :: a1 :: a2 :: o :: L) 3 = true from hn) hl2, hl.2⟩ hS hc hs)
theorem V_astore_3 {a0 a1 a2 o : Option Value} {x : Nat} (hd : decode K.2.1 pc = .ok (.astore_n 3, 1)) (hn : nc2 a2 = true) (k : V G K d c s Q X (pc + 1) (a0 :: a1 :: a2 :: some (.ref x) :: L) rest H) : V G K d c s Q X pc (a0 :: a1 :: a2 :: o :: L) (.ref x :: rest) H :=
  fun p e R st m args below meth co ls locs ce sl hC hl hS hc hs => lv_astore_n hC.1 hC.2.1 hd rfl hl.1 (show 3 < List.length (a0 :: a1 :: a2 :: o :: L) by simp; try omega) rfl (fun ls2 hl2 => k p e R st m args below meth co ls2 locs ce sl hC ⟨LH.set1 (L := (a0 :: a1 :: a2 :: o :: L)) (i := 3) (show ncAt (a0 :: a1 :: a2 :: o :: L) 3 = true from hn) hl2, hl.2⟩ hS hc hs)
theorem V_lstore_3 {a0 a1 a2 o o2 : Option Value} {x : Int64} (hd : decode K.2.1 pc = .ok (.lstore_n 3, 1)) (hn : nc2 a2 = true) (k : V G K d c s Q X (pc + 1) (a0 :: a1 :: a2 :: some (.long x) :: none :: L) rest H) : V G K d c s Q X pc (a0 :: a1 :: a2 :: o :: o2 :: L) (.long x :: rest) H :=
  fun p e R st m args below meth co ls locs ce sl hC hl hS hc hs => lv_lstore_n hC.1 hC.2.1 hd rfl hl.1 (show 3 + 1 < List.length (a0 :: a1 :: a2 :: o :: o2 :: L) by simp; try omega) rfl (fun ls2 hl2 => k p e R st m args below meth co ls2 locs ce sl hC ⟨LH.set2 (L := (a0 :: a1 :: a2 :: o :: o2 :: L)) (i := 3) (show ncAt (a0 :: a1 :: a2 :: o :: o2 :: L) 3 = true from hn) hl2, hl.2⟩ hS hc hs)
theorem V_iinc_3 {a0 a1 a2 : Option Value} {x v : Int32} {n : Int} (hd : decode K.2.1 pc = .ok (.iinc 3 n, 3)) (hv : Int32.ofInt n = v) (hn : nc2 a2 = true) (k : V G K d c s Q X (pc + 3) (a0 :: a1 :: a2 :: some (.int (x + v)) :: L) rest H) : V G K d c s Q X pc (a0 :: a1 :: a2 :: some (.int x) :: L) rest H := by
  intro p e R st m args below meth co ls locs ce sl hC hl hS hc hs
  obtain ⟨kk, hkk⟩ := List.getElem?_of_mem (lvL_mem.mpr (show (a0 :: a1 :: a2 :: some (.int x) :: L)[3]? = some (some (.int x)) from rfl))
  exact lv_iinc hC.1 hC.2.1 hd hl.1 hkk (congrArg (fun z => x + z) hv) (show 3 < List.length (a0 :: a1 :: a2 :: some (.int x) :: L) by simp; try omega) rfl (fun ls2 hl2 => k p e R st m args below meth co ls2 locs ce sl hC ⟨LH.set1 (L := (a0 :: a1 :: a2 :: some (.int x) :: L)) (i := 3) (show ncAt (a0 :: a1 :: a2 :: some (.int x) :: L) 3 = true from hn) hl2, hl.2⟩ hS hc hs)
theorem V_iload_4 {a0 a1 a2 a3 : Option Value} {x : Int32} (hd : decode K.2.1 pc = .ok (.iload 4, 2)) (k : V G K d c s Q X (pc + 2) (a0 :: a1 :: a2 :: a3 :: some (.int x) :: L) (.int x :: rest) H) : V G K d c s Q X pc (a0 :: a1 :: a2 :: a3 :: some (.int x) :: L) (rest) H :=
  fun p e R st m args below meth co ls locs ce sl hC hl hS hc hs => lv_iload hC.1 hC.2.1 hd (hl.1.get (i := 4) rfl) (k p e R st m args below meth co ls locs ce sl hC hl hS hc hs)
theorem V_aload_4 {a0 a1 a2 a3 : Option Value} {x : Nat} (hd : decode K.2.1 pc = .ok (.aload 4, 2)) (k : V G K d c s Q X (pc + 2) (a0 :: a1 :: a2 :: a3 :: some (.ref x) :: L) (.ref x :: rest) H) : V G K d c s Q X pc (a0 :: a1 :: a2 :: a3 :: some (.ref x) :: L) (rest) H :=
  fun p e R st m args below meth co ls locs ce sl hC hl hS hc hs => lv_aload hC.1 hC.2.1 hd (hl.1.get (i := 4) rfl) (k p e R st m args below meth co ls locs ce sl hC hl hS hc hs)
theorem V_lload_4 {a0 a1 a2 a3 : Option Value} {x : Int64} (hd : decode K.2.1 pc = .ok (.lload 4, 2)) (k : V G K d c s Q X (pc + 2) (a0 :: a1 :: a2 :: a3 :: some (.long x) :: L) (.long x :: rest) H) : V G K d c s Q X pc (a0 :: a1 :: a2 :: a3 :: some (.long x) :: L) (rest) H :=
  fun p e R st m args below meth co ls locs ce sl hC hl hS hc hs => lv_lload hC.1 hC.2.1 hd (hl.1.get (i := 4) rfl) (k p e R st m args below meth co ls locs ce sl hC hl hS hc hs)
theorem V_istore_4 {a0 a1 a2 a3 o : Option Value} {x : Int32} (hd : decode K.2.1 pc = .ok (.istore 4, 2)) (hn : nc2 a3 = true) (k : V G K d c s Q X (pc + 2) (a0 :: a1 :: a2 :: a3 :: some (.int x) :: L) rest H) : V G K d c s Q X pc (a0 :: a1 :: a2 :: a3 :: o :: L) (.int x :: rest) H :=
  fun p e R st m args below meth co ls locs ce sl hC hl hS hc hs => lv_istore hC.1 hC.2.1 hd hl.1 (show 4 < List.length (a0 :: a1 :: a2 :: a3 :: o :: L) by simp; try omega) rfl (fun ls2 hl2 => k p e R st m args below meth co ls2 locs ce sl hC ⟨LH.set1 (L := (a0 :: a1 :: a2 :: a3 :: o :: L)) (i := 4) (show ncAt (a0 :: a1 :: a2 :: a3 :: o :: L) 4 = true from hn) hl2, hl.2⟩ hS hc hs)
theorem V_astore_4 {a0 a1 a2 a3 o : Option Value} {x : Nat} (hd : decode K.2.1 pc = .ok (.astore 4, 2)) (hn : nc2 a3 = true) (k : V G K d c s Q X (pc + 2) (a0 :: a1 :: a2 :: a3 :: some (.ref x) :: L) rest H) : V G K d c s Q X pc (a0 :: a1 :: a2 :: a3 :: o :: L) (.ref x :: rest) H :=
  fun p e R st m args below meth co ls locs ce sl hC hl hS hc hs => lv_astore hC.1 hC.2.1 hd hl.1 (show 4 < List.length (a0 :: a1 :: a2 :: a3 :: o :: L) by simp; try omega) rfl (fun ls2 hl2 => k p e R st m args below meth co ls2 locs ce sl hC ⟨LH.set1 (L := (a0 :: a1 :: a2 :: a3 :: o :: L)) (i := 4) (show ncAt (a0 :: a1 :: a2 :: a3 :: o :: L) 4 = true from hn) hl2, hl.2⟩ hS hc hs)
theorem V_lstore_4 {a0 a1 a2 a3 o o2 : Option Value} {x : Int64} (hd : decode K.2.1 pc = .ok (.lstore 4, 2)) (hn : nc2 a3 = true) (k : V G K d c s Q X (pc + 2) (a0 :: a1 :: a2 :: a3 :: some (.long x) :: none :: L) rest H) : V G K d c s Q X pc (a0 :: a1 :: a2 :: a3 :: o :: o2 :: L) (.long x :: rest) H :=
  fun p e R st m args below meth co ls locs ce sl hC hl hS hc hs => lv_lstore hC.1 hC.2.1 hd hl.1 (show 4 + 1 < List.length (a0 :: a1 :: a2 :: a3 :: o :: o2 :: L) by simp; try omega) rfl (fun ls2 hl2 => k p e R st m args below meth co ls2 locs ce sl hC ⟨LH.set2 (L := (a0 :: a1 :: a2 :: a3 :: o :: o2 :: L)) (i := 4) (show ncAt (a0 :: a1 :: a2 :: a3 :: o :: o2 :: L) 4 = true from hn) hl2, hl.2⟩ hS hc hs)
theorem V_iinc_4 {a0 a1 a2 a3 : Option Value} {x v : Int32} {n : Int} (hd : decode K.2.1 pc = .ok (.iinc 4 n, 3)) (hv : Int32.ofInt n = v) (hn : nc2 a3 = true) (k : V G K d c s Q X (pc + 3) (a0 :: a1 :: a2 :: a3 :: some (.int (x + v)) :: L) rest H) : V G K d c s Q X pc (a0 :: a1 :: a2 :: a3 :: some (.int x) :: L) rest H := by
  intro p e R st m args below meth co ls locs ce sl hC hl hS hc hs
  obtain ⟨kk, hkk⟩ := List.getElem?_of_mem (lvL_mem.mpr (show (a0 :: a1 :: a2 :: a3 :: some (.int x) :: L)[4]? = some (some (.int x)) from rfl))
  exact lv_iinc hC.1 hC.2.1 hd hl.1 hkk (congrArg (fun z => x + z) hv) (show 4 < List.length (a0 :: a1 :: a2 :: a3 :: some (.int x) :: L) by simp; try omega) rfl (fun ls2 hl2 => k p e R st m args below meth co ls2 locs ce sl hC ⟨LH.set1 (L := (a0 :: a1 :: a2 :: a3 :: some (.int x) :: L)) (i := 4) (show ncAt (a0 :: a1 :: a2 :: a3 :: some (.int x) :: L) 4 = true from hn) hl2, hl.2⟩ hS hc hs)
theorem V_iload_5 {a0 a1 a2 a3 a4 : Option Value} {x : Int32} (hd : decode K.2.1 pc = .ok (.iload 5, 2)) (k : V G K d c s Q X (pc + 2) (a0 :: a1 :: a2 :: a3 :: a4 :: some (.int x) :: L) (.int x :: rest) H) : V G K d c s Q X pc (a0 :: a1 :: a2 :: a3 :: a4 :: some (.int x) :: L) (rest) H :=
  fun p e R st m args below meth co ls locs ce sl hC hl hS hc hs => lv_iload hC.1 hC.2.1 hd (hl.1.get (i := 5) rfl) (k p e R st m args below meth co ls locs ce sl hC hl hS hc hs)
theorem V_aload_5 {a0 a1 a2 a3 a4 : Option Value} {x : Nat} (hd : decode K.2.1 pc = .ok (.aload 5, 2)) (k : V G K d c s Q X (pc + 2) (a0 :: a1 :: a2 :: a3 :: a4 :: some (.ref x) :: L) (.ref x :: rest) H) : V G K d c s Q X pc (a0 :: a1 :: a2 :: a3 :: a4 :: some (.ref x) :: L) (rest) H :=
  fun p e R st m args below meth co ls locs ce sl hC hl hS hc hs => lv_aload hC.1 hC.2.1 hd (hl.1.get (i := 5) rfl) (k p e R st m args below meth co ls locs ce sl hC hl hS hc hs)
theorem V_lload_5 {a0 a1 a2 a3 a4 : Option Value} {x : Int64} (hd : decode K.2.1 pc = .ok (.lload 5, 2)) (k : V G K d c s Q X (pc + 2) (a0 :: a1 :: a2 :: a3 :: a4 :: some (.long x) :: L) (.long x :: rest) H) : V G K d c s Q X pc (a0 :: a1 :: a2 :: a3 :: a4 :: some (.long x) :: L) (rest) H :=
  fun p e R st m args below meth co ls locs ce sl hC hl hS hc hs => lv_lload hC.1 hC.2.1 hd (hl.1.get (i := 5) rfl) (k p e R st m args below meth co ls locs ce sl hC hl hS hc hs)
theorem V_istore_5 {a0 a1 a2 a3 a4 o : Option Value} {x : Int32} (hd : decode K.2.1 pc = .ok (.istore 5, 2)) (hn : nc2 a4 = true) (k : V G K d c s Q X (pc + 2) (a0 :: a1 :: a2 :: a3 :: a4 :: some (.int x) :: L) rest H) : V G K d c s Q X pc (a0 :: a1 :: a2 :: a3 :: a4 :: o :: L) (.int x :: rest) H :=
  fun p e R st m args below meth co ls locs ce sl hC hl hS hc hs => lv_istore hC.1 hC.2.1 hd hl.1 (show 5 < List.length (a0 :: a1 :: a2 :: a3 :: a4 :: o :: L) by simp; try omega) rfl (fun ls2 hl2 => k p e R st m args below meth co ls2 locs ce sl hC ⟨LH.set1 (L := (a0 :: a1 :: a2 :: a3 :: a4 :: o :: L)) (i := 5) (show ncAt (a0 :: a1 :: a2 :: a3 :: a4 :: o :: L) 5 = true from hn) hl2, hl.2⟩ hS hc hs)
theorem V_astore_5 {a0 a1 a2 a3 a4 o : Option Value} {x : Nat} (hd : decode K.2.1 pc = .ok (.astore 5, 2)) (hn : nc2 a4 = true) (k : V G K d c s Q X (pc + 2) (a0 :: a1 :: a2 :: a3 :: a4 :: some (.ref x) :: L) rest H) : V G K d c s Q X pc (a0 :: a1 :: a2 :: a3 :: a4 :: o :: L) (.ref x :: rest) H :=
  fun p e R st m args below meth co ls locs ce sl hC hl hS hc hs => lv_astore hC.1 hC.2.1 hd hl.1 (show 5 < List.length (a0 :: a1 :: a2 :: a3 :: a4 :: o :: L) by simp; try omega) rfl (fun ls2 hl2 => k p e R st m args below meth co ls2 locs ce sl hC ⟨LH.set1 (L := (a0 :: a1 :: a2 :: a3 :: a4 :: o :: L)) (i := 5) (show ncAt (a0 :: a1 :: a2 :: a3 :: a4 :: o :: L) 5 = true from hn) hl2, hl.2⟩ hS hc hs)
theorem V_lstore_5 {a0 a1 a2 a3 a4 o o2 : Option Value} {x : Int64} (hd : decode K.2.1 pc = .ok (.lstore 5, 2)) (hn : nc2 a4 = true) (k : V G K d c s Q X (pc + 2) (a0 :: a1 :: a2 :: a3 :: a4 :: some (.long x) :: none :: L) rest H) : V G K d c s Q X pc (a0 :: a1 :: a2 :: a3 :: a4 :: o :: o2 :: L) (.long x :: rest) H :=
  fun p e R st m args below meth co ls locs ce sl hC hl hS hc hs => lv_lstore hC.1 hC.2.1 hd hl.1 (show 5 + 1 < List.length (a0 :: a1 :: a2 :: a3 :: a4 :: o :: o2 :: L) by simp; try omega) rfl (fun ls2 hl2 => k p e R st m args below meth co ls2 locs ce sl hC ⟨LH.set2 (L := (a0 :: a1 :: a2 :: a3 :: a4 :: o :: o2 :: L)) (i := 5) (show ncAt (a0 :: a1 :: a2 :: a3 :: a4 :: o :: o2 :: L) 5 = true from hn) hl2, hl.2⟩ hS hc hs)
theorem V_iinc_5 {a0 a1 a2 a3 a4 : Option Value} {x v : Int32} {n : Int} (hd : decode K.2.1 pc = .ok (.iinc 5 n, 3)) (hv : Int32.ofInt n = v) (hn : nc2 a4 = true) (k : V G K d c s Q X (pc + 3) (a0 :: a1 :: a2 :: a3 :: a4 :: some (.int (x + v)) :: L) rest H) : V G K d c s Q X pc (a0 :: a1 :: a2 :: a3 :: a4 :: some (.int x) :: L) rest H := by
  intro p e R st m args below meth co ls locs ce sl hC hl hS hc hs
  obtain ⟨kk, hkk⟩ := List.getElem?_of_mem (lvL_mem.mpr (show (a0 :: a1 :: a2 :: a3 :: a4 :: some (.int x) :: L)[5]? = some (some (.int x)) from rfl))
  exact lv_iinc hC.1 hC.2.1 hd hl.1 hkk (congrArg (fun z => x + z) hv) (show 5 < List.length (a0 :: a1 :: a2 :: a3 :: a4 :: some (.int x) :: L) by simp; try omega) rfl (fun ls2 hl2 => k p e R st m args below meth co ls2 locs ce sl hC ⟨LH.set1 (L := (a0 :: a1 :: a2 :: a3 :: a4 :: some (.int x) :: L)) (i := 5) (show ncAt (a0 :: a1 :: a2 :: a3 :: a4 :: some (.int x) :: L) 5 = true from hn) hl2, hl.2⟩ hS hc hs)
theorem V_iload_6 {a0 a1 a2 a3 a4 a5 : Option Value} {x : Int32} (hd : decode K.2.1 pc = .ok (.iload 6, 2)) (k : V G K d c s Q X (pc + 2) (a0 :: a1 :: a2 :: a3 :: a4 :: a5 :: some (.int x) :: L) (.int x :: rest) H) : V G K d c s Q X pc (a0 :: a1 :: a2 :: a3 :: a4 :: a5 :: some (.int x) :: L) (rest) H :=
  fun p e R st m args below meth co ls locs ce sl hC hl hS hc hs => lv_iload hC.1 hC.2.1 hd (hl.1.get (i := 6) rfl) (k p e R st m args below meth co ls locs ce sl hC hl hS hc hs)
theorem V_aload_6 {a0 a1 a2 a3 a4 a5 : Option Value} {x : Nat} (hd : decode K.2.1 pc = .ok (.aload 6, 2)) (k : V G K d c s Q X (pc + 2) (a0 :: a1 :: a2 :: a3 :: a4 :: a5 :: some (.ref x) :: L) (.ref x :: rest) H) : V G K d c s Q X pc (a0 :: a1 :: a2 :: a3 :: a4 :: a5 :: some (.ref x) :: L) (rest) H :=
  fun p e R st m args below meth co ls locs ce sl hC hl hS hc hs => lv_aload hC.1 hC.2.1 hd (hl.1.get (i := 6) rfl) (k p e R st m args below meth co ls locs ce sl hC hl hS hc hs)
theorem V_lload_6 {a0 a1 a2 a3 a4 a5 : Option Value} {x : Int64} (hd : decode K.2.1 pc = .ok (.lload 6, 2)) (k : V G K d c s Q X (pc + 2) (a0 :: a1 :: a2 :: a3 :: a4 :: a5 :: some (.long x) :: L) (.long x :: rest) H) : V G K d c s Q X pc (a0 :: a1 :: a2 :: a3 :: a4 :: a5 :: some (.long x) :: L) (rest) H :=
  fun p e R st m args below meth co ls locs ce sl hC hl hS hc hs => lv_lload hC.1 hC.2.1 hd (hl.1.get (i := 6) rfl) (k p e R st m args below meth co ls locs ce sl hC hl hS hc hs)
theorem V_istore_6 {a0 a1 a2 a3 a4 a5 o : Option Value} {x : Int32} (hd : decode K.2.1 pc = .ok (.istore 6, 2)) (hn : nc2 a5 = true) (k : V G K d c s Q X (pc + 2) (a0 :: a1 :: a2 :: a3 :: a4 :: a5 :: some (.int x) :: L) rest H) : V G K d c s Q X pc (a0 :: a1 :: a2 :: a3 :: a4 :: a5 :: o :: L) (.int x :: rest) H :=
  fun p e R st m args below meth co ls locs ce sl hC hl hS hc hs => lv_istore hC.1 hC.2.1 hd hl.1 (show 6 < List.length (a0 :: a1 :: a2 :: a3 :: a4 :: a5 :: o :: L) by simp; try omega) rfl (fun ls2 hl2 => k p e R st m args below meth co ls2 locs ce sl hC ⟨LH.set1 (L := (a0 :: a1 :: a2 :: a3 :: a4 :: a5 :: o :: L)) (i := 6) (show ncAt (a0 :: a1 :: a2 :: a3 :: a4 :: a5 :: o :: L) 6 = true from hn) hl2, hl.2⟩ hS hc hs)
theorem V_astore_6 {a0 a1 a2 a3 a4 a5 o : Option Value} {x : Nat} (hd : decode K.2.1 pc = .ok (.astore 6, 2)) (hn : nc2 a5 = true) (k : V G K d c s Q X (pc + 2) (a0 :: a1 :: a2 :: a3 :: a4 :: a5 :: some (.ref x) :: L) rest H) : V G K d c s Q X pc (a0 :: a1 :: a2 :: a3 :: a4 :: a5 :: o :: L) (.ref x :: rest) H :=
  fun p e R st m args below meth co ls locs ce sl hC hl hS hc hs => lv_astore hC.1 hC.2.1 hd hl.1 (show 6 < List.length (a0 :: a1 :: a2 :: a3 :: a4 :: a5 :: o :: L) by simp; try omega) rfl (fun ls2 hl2 => k p e R st m args below meth co ls2 locs ce sl hC ⟨LH.set1 (L := (a0 :: a1 :: a2 :: a3 :: a4 :: a5 :: o :: L)) (i := 6) (show ncAt (a0 :: a1 :: a2 :: a3 :: a4 :: a5 :: o :: L) 6 = true from hn) hl2, hl.2⟩ hS hc hs)
theorem V_lstore_6 {a0 a1 a2 a3 a4 a5 o o2 : Option Value} {x : Int64} (hd : decode K.2.1 pc = .ok (.lstore 6, 2)) (hn : nc2 a5 = true) (k : V G K d c s Q X (pc + 2) (a0 :: a1 :: a2 :: a3 :: a4 :: a5 :: some (.long x) :: none :: L) rest H) : V G K d c s Q X pc (a0 :: a1 :: a2 :: a3 :: a4 :: a5 :: o :: o2 :: L) (.long x :: rest) H :=
  fun p e R st m args below meth co ls locs ce sl hC hl hS hc hs => lv_lstore hC.1 hC.2.1 hd hl.1 (show 6 + 1 < List.length (a0 :: a1 :: a2 :: a3 :: a4 :: a5 :: o :: o2 :: L) by simp; try omega) rfl (fun ls2 hl2 => k p e R st m args below meth co ls2 locs ce sl hC ⟨LH.set2 (L := (a0 :: a1 :: a2 :: a3 :: a4 :: a5 :: o :: o2 :: L)) (i := 6) (show ncAt (a0 :: a1 :: a2 :: a3 :: a4 :: a5 :: o :: o2 :: L) 6 = true from hn) hl2, hl.2⟩ hS hc hs)
theorem V_iinc_6 {a0 a1 a2 a3 a4 a5 : Option Value} {x v : Int32} {n : Int} (hd : decode K.2.1 pc = .ok (.iinc 6 n, 3)) (hv : Int32.ofInt n = v) (hn : nc2 a5 = true) (k : V G K d c s Q X (pc + 3) (a0 :: a1 :: a2 :: a3 :: a4 :: a5 :: some (.int (x + v)) :: L) rest H) : V G K d c s Q X pc (a0 :: a1 :: a2 :: a3 :: a4 :: a5 :: some (.int x) :: L) rest H := by
  intro p e R st m args below meth co ls locs ce sl hC hl hS hc hs
  obtain ⟨kk, hkk⟩ := List.getElem?_of_mem (lvL_mem.mpr (show (a0 :: a1 :: a2 :: a3 :: a4 :: a5 :: some (.int x) :: L)[6]? = some (some (.int x)) from rfl))
  exact lv_iinc hC.1 hC.2.1 hd hl.1 hkk (congrArg (fun z => x + z) hv) (show 6 < List.length (a0 :: a1 :: a2 :: a3 :: a4 :: a5 :: some (.int x) :: L) by simp; try omega) rfl (fun ls2 hl2 => k p e R st m args below meth co ls2 locs ce sl hC ⟨LH.set1 (L := (a0 :: a1 :: a2 :: a3 :: a4 :: a5 :: some (.int x) :: L)) (i := 6) (show ncAt (a0 :: a1 :: a2 :: a3 :: a4 :: a5 :: some (.int x) :: L) 6 = true from hn) hl2, hl.2⟩ hS hc hs)
theorem V_iload_7 {a0 a1 a2 a3 a4 a5 a6 : Option Value} {x : Int32} (hd : decode K.2.1 pc = .ok (.iload 7, 2)) (k : V G K d c s Q X (pc + 2) (a0 :: a1 :: a2 :: a3 :: a4 :: a5 :: a6 :: some (.int x) :: L) (.int x :: rest) H) : V G K d c s Q X pc (a0 :: a1 :: a2 :: a3 :: a4 :: a5 :: a6 :: some (.int x) :: L) (rest) H :=
  fun p e R st m args below meth co ls locs ce sl hC hl hS hc hs => lv_iload hC.1 hC.2.1 hd (hl.1.get (i := 7) rfl) (k p e R st m args below meth co ls locs ce sl hC hl hS hc hs)
theorem V_aload_7 {a0 a1 a2 a3 a4 a5 a6 : Option Value} {x : Nat} (hd : decode K.2.1 pc = .ok (.aload 7, 2)) (k : V G K d c s Q X (pc + 2) (a0 :: a1 :: a2 :: a3 :: a4 :: a5 :: a6 :: some (.ref x) :: L) (.ref x :: rest) H) : V G K d c s Q X pc (a0 :: a1 :: a2 :: a3 :: a4 :: a5 :: a6 :: some (.ref x) :: L) (rest) H :=
  fun p e R st m args below meth co ls locs ce sl hC hl hS hc hs => lv_aload hC.1 hC.2.1 hd (hl.1.get (i := 7) rfl) (k p e R st m args below meth co ls locs ce sl hC hl hS hc hs)
theorem V_lload_7 {a0 a1 a2 a3 a4 a5 a6 : Option Value} {x : Int64} (hd : decode K.2.1 pc = .ok (.lload 7, 2)) (k : V G K d c s Q X (pc + 2) (a0 :: a1 :: a2 :: a3 :: a4 :: a5 :: a6 :: some (.long x) :: L) (.long x :: rest) H) : V G K d c s Q X pc (a0 :: a1 :: a2 :: a3 :: a4 :: a5 :: a6 :: some (.long x) :: L) (rest) H :=
  fun p e R st m args below meth co ls locs ce sl hC hl hS hc hs => lv_lload hC.1 hC.2.1 hd (hl.1.get (i := 7) rfl) (k p e R st m args below meth co ls locs ce sl hC hl hS hc hs)
theorem V_istore_7 {a0 a1 a2 a3 a4 a5 a6 o : Option Value} {x : Int32} (hd : decode K.2.1 pc = .ok (.istore 7, 2)) (hn : nc2 a6 = true) (k : V G K d c s Q X (pc + 2) (a0 :: a1 :: a2 :: a3 :: a4 :: a5 :: a6 :: some (.int x) :: L) rest H) : V G K d c s Q X pc (a0 :: a1 :: a2 :: a3 :: a4 :: a5 :: a6 :: o :: L) (.int x :: rest) H :=
  fun p e R st m args below meth co ls locs ce sl hC hl hS hc hs => lv_istore hC.1 hC.2.1 hd hl.1 (show 7 < List.length (a0 :: a1 :: a2 :: a3 :: a4 :: a5 :: a6 :: o :: L) by simp; try omega) rfl (fun ls2 hl2 => k p e R st m args below meth co ls2 locs ce sl hC ⟨LH.set1 (L := (a0 :: a1 :: a2 :: a3 :: a4 :: a5 :: a6 :: o :: L)) (i := 7) (show ncAt (a0 :: a1 :: a2 :: a3 :: a4 :: a5 :: a6 :: o :: L) 7 = true from hn) hl2, hl.2⟩ hS hc hs)
theorem V_astore_7 {a0 a1 a2 a3 a4 a5 a6 o : Option Value} {x : Nat} (hd : decode K.2.1 pc = .ok (.astore 7, 2)) (hn : nc2 a6 = true) (k : V G K d c s Q X (pc + 2) (a0 :: a1 :: a2 :: a3 :: a4 :: a5 :: a6 :: some (.ref x) :: L) rest H) : V G K d c s Q X pc (a0 :: a1 :: a2 :: a3 :: a4 :: a5 :: a6 :: o :: L) (.ref x :: rest) H :=
  fun p e R st m args below meth co ls locs ce sl hC hl hS hc hs => lv_astore hC.1 hC.2.1 hd hl.1 (show 7 < List.length (a0 :: a1 :: a2 :: a3 :: a4 :: a5 :: a6 :: o :: L) by simp; try omega) rfl (fun ls2 hl2 => k p e R st m args below meth co ls2 locs ce sl hC ⟨LH.set1 (L := (a0 :: a1 :: a2 :: a3 :: a4 :: a5 :: a6 :: o :: L)) (i := 7) (show ncAt (a0 :: a1 :: a2 :: a3 :: a4 :: a5 :: a6 :: o :: L) 7 = true from hn) hl2, hl.2⟩ hS hc hs)
theorem V_lstore_7 {a0 a1 a2 a3 a4 a5 a6 o o2 : Option Value} {x : Int64} (hd : decode K.2.1 pc = .ok (.lstore 7, 2)) (hn : nc2 a6 = true) (k : V G K d c s Q X (pc + 2) (a0 :: a1 :: a2 :: a3 :: a4 :: a5 :: a6 :: some (.long x) :: none :: L) rest H) : V G K d c s Q X pc (a0 :: a1 :: a2 :: a3 :: a4 :: a5 :: a6 :: o :: o2 :: L) (.long x :: rest) H :=
  fun p e R st m args below meth co ls locs ce sl hC hl hS hc hs => lv_lstore hC.1 hC.2.1 hd hl.1 (show 7 + 1 < List.length (a0 :: a1 :: a2 :: a3 :: a4 :: a5 :: a6 :: o :: o2 :: L) by simp; try omega) rfl (fun ls2 hl2 => k p e R st m args below meth co ls2 locs ce sl hC ⟨LH.set2 (L := (a0 :: a1 :: a2 :: a3 :: a4 :: a5 :: a6 :: o :: o2 :: L)) (i := 7) (show ncAt (a0 :: a1 :: a2 :: a3 :: a4 :: a5 :: a6 :: o :: o2 :: L) 7 = true from hn) hl2, hl.2⟩ hS hc hs)
theorem V_iinc_7 {a0 a1 a2 a3 a4 a5 a6 : Option Value} {x v : Int32} {n : Int} (hd : decode K.2.1 pc = .ok (.iinc 7 n, 3)) (hv : Int32.ofInt n = v) (hn : nc2 a6 = true) (k : V G K d c s Q X (pc + 3) (a0 :: a1 :: a2 :: a3 :: a4 :: a5 :: a6 :: some (.int (x + v)) :: L) rest H) : V G K d c s Q X pc (a0 :: a1 :: a2 :: a3 :: a4 :: a5 :: a6 :: some (.int x) :: L) rest H := by
  intro p e R st m args below meth co ls locs ce sl hC hl hS hc hs
  obtain ⟨kk, hkk⟩ := List.getElem?_of_mem (lvL_mem.mpr (show (a0 :: a1 :: a2 :: a3 :: a4 :: a5 :: a6 :: some (.int x) :: L)[7]? = some (some (.int x)) from rfl))
  exact lv_iinc hC.1 hC.2.1 hd hl.1 hkk (congrArg (fun z => x + z) hv) (show 7 < List.length (a0 :: a1 :: a2 :: a3 :: a4 :: a5 :: a6 :: some (.int x) :: L) by simp; try omega) rfl (fun ls2 hl2 => k p e R st m args below meth co ls2 locs ce sl hC ⟨LH.set1 (L := (a0 :: a1 :: a2 :: a3 :: a4 :: a5 :: a6 :: some (.int x) :: L)) (i := 7) (show ncAt (a0 :: a1 :: a2 :: a3 :: a4 :: a5 :: a6 :: some (.int x) :: L) 7 = true from hn) hl2, hl.2⟩ hS hc hs)
theorem V_iload_8 {a0 a1 a2 a3 a4 a5 a6 a7 : Option Value} {x : Int32} (hd : decode K.2.1 pc = .ok (.iload 8, 2)) (k : V G K d c s Q X (pc + 2) (a0 :: a1 :: a2 :: a3 :: a4 :: a5 :: a6 :: a7 :: some (.int x) :: L) (.int x :: rest) H) : V G K d c s Q X pc (a0 :: a1 :: a2 :: a3 :: a4 :: a5 :: a6 :: a7 :: some (.int x) :: L) (rest) H :=
  fun p e R st m args below meth co ls locs ce sl hC hl hS hc hs => lv_iload hC.1 hC.2.1 hd (hl.1.get (i := 8) rfl) (k p e R st m args below meth co ls locs ce sl hC hl hS hc hs)
theorem V_aload_8 {a0 a1 a2 a3 a4 a5 a6 a7 : Option Value} {x : Nat} (hd : decode K.2.1 pc = .ok (.aload 8, 2)) (k : V G K d c s Q X (pc + 2) (a0 :: a1 :: a2 :: a3 :: a4 :: a5 :: a6 :: a7 :: some (.ref x) :: L) (.ref x :: rest) H) : V G K d c s Q X pc (a0 :: a1 :: a2 :: a3 :: a4 :: a5 :: a6 :: a7 :: some (.ref x) :: L) (rest) H :=
  fun p e R st m args below meth co ls locs ce sl hC hl hS hc hs => lv_aload hC.1 hC.2.1 hd (hl.1.get (i := 8) rfl) (k p e R st m args below meth co ls locs ce sl hC hl hS hc hs)
theorem V_lload_8 {a0 a1 a2 a3 a4 a5 a6 a7 : Option Value} {x : Int64} (hd : decode K.2.1 pc = .ok (.lload 8, 2)) (k : V G K d c s Q X (pc + 2) (a0 :: a1 :: a2 :: a3 :: a4 :: a5 :: a6 :: a7 :: some (.long x) :: L) (.long x :: rest) H) : V G K d c s Q X pc (a0 :: a1 :: a2 :: a3 :: a4 :: a5 :: a6 :: a7 :: some (.long x) :: L) (rest) H :=
  fun p e R st m args below meth co ls locs ce sl hC hl hS hc hs => lv_lload hC.1 hC.2.1 hd (hl.1.get (i := 8) rfl) (k p e R st m args below meth co ls locs ce sl hC hl hS hc hs)
theorem V_istore_8 {a0 a1 a2 a3 a4 a5 a6 a7 o : Option Value} {x : Int32} (hd : decode K.2.1 pc = .ok (.istore 8, 2)) (hn : nc2 a7 = true) (k : V G K d c s Q X (pc + 2) (a0 :: a1 :: a2 :: a3 :: a4 :: a5 :: a6 :: a7 :: some (.int x) :: L) rest H) : V G K d c s Q X pc (a0 :: a1 :: a2 :: a3 :: a4 :: a5 :: a6 :: a7 :: o :: L) (.int x :: rest) H :=
  fun p e R st m args below meth co ls locs ce sl hC hl hS hc hs => lv_istore hC.1 hC.2.1 hd hl.1 (show 8 < List.length (a0 :: a1 :: a2 :: a3 :: a4 :: a5 :: a6 :: a7 :: o :: L) by simp; try omega) rfl (fun ls2 hl2 => k p e R st m args below meth co ls2 locs ce sl hC ⟨LH.set1 (L := (a0 :: a1 :: a2 :: a3 :: a4 :: a5 :: a6 :: a7 :: o :: L)) (i := 8) (show ncAt (a0 :: a1 :: a2 :: a3 :: a4 :: a5 :: a6 :: a7 :: o :: L) 8 = true from hn) hl2, hl.2⟩ hS hc hs)
theorem V_astore_8 {a0 a1 a2 a3 a4 a5 a6 a7 o : Option Value} {x : Nat} (hd : decode K.2.1 pc = .ok (.astore 8, 2)) (hn : nc2 a7 = true) (k : V G K d c s Q X (pc + 2) (a0 :: a1 :: a2 :: a3 :: a4 :: a5 :: a6 :: a7 :: some (.ref x) :: L) rest H) : V G K d c s Q X pc (a0 :: a1 :: a2 :: a3 :: a4 :: a5 :: a6 :: a7 :: o :: L) (.ref x :: rest) H :=
  fun p e R st m args below meth co ls locs ce sl hC hl hS hc hs => lv_astore hC.1 hC.2.1 hd hl.1 (show 8 < List.length (a0 :: a1 :: a2 :: a3 :: a4 :: a5 :: a6 :: a7 :: o :: L) by simp; try omega) rfl (fun ls2 hl2 => k p e R st m args below meth co ls2 locs ce sl hC ⟨LH.set1 (L := (a0 :: a1 :: a2 :: a3 :: a4 :: a5 :: a6 :: a7 :: o :: L)) (i := 8) (show ncAt (a0 :: a1 :: a2 :: a3 :: a4 :: a5 :: a6 :: a7 :: o :: L) 8 = true from hn) hl2, hl.2⟩ hS hc hs)
theorem V_lstore_8 {a0 a1 a2 a3 a4 a5 a6 a7 o o2 : Option Value} {x : Int64} (hd : decode K.2.1 pc = .ok (.lstore 8, 2)) (hn : nc2 a7 = true) (k : V G K d c s Q X (pc + 2) (a0 :: a1 :: a2 :: a3 :: a4 :: a5 :: a6 :: a7 :: some (.long x) :: none :: L) rest H) : V G K d c s Q X pc (a0 :: a1 :: a2 :: a3 :: a4 :: a5 :: a6 :: a7 :: o :: o2 :: L) (.long x :: rest) H :=
  fun p e R st m args below meth co ls locs ce sl hC hl hS hc hs => lv_lstore hC.1 hC.2.1 hd hl.1 (show 8 + 1 < List.length (a0 :: a1 :: a2 :: a3 :: a4 :: a5 :: a6 :: a7 :: o :: o2 :: L) by simp; try omega) rfl (fun ls2 hl2 => k p e R st m args below meth co ls2 locs ce sl hC ⟨LH.set2 (L := (a0 :: a1 :: a2 :: a3 :: a4 :: a5 :: a6 :: a7 :: o :: o2 :: L)) (i := 8) (show ncAt (a0 :: a1 :: a2 :: a3 :: a4 :: a5 :: a6 :: a7 :: o :: o2 :: L) 8 = true from hn) hl2, hl.2⟩ hS hc hs)
theorem V_iinc_8 {a0 a1 a2 a3 a4 a5 a6 a7 : Option Value} {x v : Int32} {n : Int} (hd : decode K.2.1 pc = .ok (.iinc 8 n, 3)) (hv : Int32.ofInt n = v) (hn : nc2 a7 = true) (k : V G K d c s Q X (pc + 3) (a0 :: a1 :: a2 :: a3 :: a4 :: a5 :: a6 :: a7 :: some (.int (x + v)) :: L) rest H) : V G K d c s Q X pc (a0 :: a1 :: a2 :: a3 :: a4 :: a5 :: a6 :: a7 :: some (.int x) :: L) rest H := by
  intro p e R st m args below meth co ls locs ce sl hC hl hS hc hs
  obtain ⟨kk, hkk⟩ := List.getElem?_of_mem (lvL_mem.mpr (show (a0 :: a1 :: a2 :: a3 :: a4 :: a5 :: a6 :: a7 :: some (.int x) :: L)[8]? = some (some (.int x)) from rfl))
  exact lv_iinc hC.1 hC.2.1 hd hl.1 hkk (congrArg (fun z => x + z) hv) (show 8 < List.length (a0 :: a1 :: a2 :: a3 :: a4 :: a5 :: a6 :: a7 :: some (.int x) :: L) by simp; try omega) rfl (fun ls2 hl2 => k p e R st m args below meth co ls2 locs ce sl hC ⟨LH.set1 (L := (a0 :: a1 :: a2 :: a3 :: a4 :: a5 :: a6 :: a7 :: some (.int x) :: L)) (i := 8) (show ncAt (a0 :: a1 :: a2 :: a3 :: a4 :: a5 :: a6 :: a7 :: some (.int x) :: L) 8 = true from hn) hl2, hl.2⟩ hS hc hs)
theorem V_iload_9 {a0 a1 a2 a3 a4 a5 a6 a7 a8 : Option Value} {x : Int32} (hd : decode K.2.1 pc = .ok (.iload 9, 2)) (k : V G K d c s Q X (pc + 2) (a0 :: a1 :: a2 :: a3 :: a4 :: a5 :: a6 :: a7 :: a8 :: some (.int x) :: L) (.int x :: rest) H) : V G K d c s Q X pc (a0 :: a1 :: a2 :: a3 :: a4 :: a5 :: a6 :: a7 :: a8 :: some (.int x) :: L) (rest) H :=
  fun p e R st m args below meth co ls locs ce sl hC hl hS hc hs => lv_iload hC.1 hC.2.1 hd (hl.1.get (i := 9) rfl) (k p e R st m args below meth co ls locs ce sl hC hl hS hc hs)
theorem V_aload_9 {a0 a1 a2 a3 a4 a5 a6 a7 a8 : Option Value} {x : Nat} (hd : decode K.2.1 pc = .ok (.aload 9, 2)) (k : V G K d c s Q X (pc + 2) (a0 :: a1 :: a2 :: a3 :: a4 :: a5 :: a6 :: a7 :: a8 :: some (.ref x) :: L) (.ref x :: rest) H) : V G K d c s Q X pc (a0 :: a1 :: a2 :: a3 :: a4 :: a5 :: a6 :: a7 :: a8 :: some (.ref x) :: L) (rest) H :=
  fun p e R st m args below meth co ls locs ce sl hC hl hS hc hs => lv_aload hC.1 hC.2.1 hd (hl.1.get (i := 9) rfl) (k p e R st m args below meth co ls locs ce sl hC hl hS hc hs)
theorem V_lload_9 {a0 a1 a2 a3 a4 a5 a6 a7 a8 : Option Value} {x : Int64} (hd : decode K.2.1 pc = .ok (.lload 9, 2)) (k : V G K d c s Q X (pc + 2) (a0 :: a1 :: a2 :: a3 :: a4 :: a5 :: a6 :: a7 :: a8 :: some (.long x) :: L) (.long x :: rest) H) : V G K d c s Q X pc (a0 :: a1 :: a2 :: a3 :: a4 :: a5 :: a6 :: a7 :: a8 :: some (.long x) :: L) (rest) H :=
  fun p e R st m args below meth co ls locs ce sl hC hl hS hc hs => lv_lload hC.1 hC.2.1 hd (hl.1.get (i := 9) rfl) (k p e R st m args below meth co ls locs ce sl hC hl hS hc hs)
theorem V_istore_9 {a0 a1 a2 a3 a4 a5 a6 a7 a8 o : Option Value} {x : Int32} (hd : decode K.2.1 pc = .ok (.istore 9, 2)) (hn : nc2 a8 = true) (k : V G K d c s Q X (pc + 2) (a0 :: a1 :: a2 :: a3 :: a4 :: a5 :: a6 :: a7 :: a8 :: some (.int x) :: L) rest H) : V G K d c s Q X pc (a0 :: a1 :: a2 :: a3 :: a4 :: a5 :: a6 :: a7 :: a8 :: o :: L) (.int x :: rest) H :=
  fun p e R st m args below meth co ls locs ce sl hC hl hS hc hs => lv_istore hC.1 hC.2.1 hd hl.1 (show 9 < List.length (a0 :: a1 :: a2 :: a3 :: a4 :: a5 :: a6 :: a7 :: a8 :: o :: L) by simp; try omega) rfl (fun ls2 hl2 => k p e R st m args below meth co ls2 locs ce sl hC ⟨LH.set1 (L := (a0 :: a1 :: a2 :: a3 :: a4 :: a5 :: a6 :: a7 :: a8 :: o :: L)) (i := 9) (show ncAt (a0 :: a1 :: a2 :: a3 :: a4 :: a5 :: a6 :: a7 :: a8 :: o :: L) 9 = true from hn) hl2, hl.2⟩ hS hc hs)
theorem V_astore_9 {a0 a1 a2 a3 a4 a5 a6 a7 a8 o : Option Value} {x : Nat} (hd : decode K.2.1 pc = .ok (.astore 9, 2)) (hn : nc2 a8 = true) (k : V G K d c s Q X (pc + 2) (a0 :: a1 :: a2 :: a3 :: a4 :: a5 :: a6 :: a7 :: a8 :: some (.ref x) :: L) rest H) : V G K d c s Q X pc (a0 :: a1 :: a2 :: a3 :: a4 :: a5 :: a6 :: a7 :: a8 :: o :: L) (.ref x :: rest) H :=
  fun p e R st m args below meth co ls locs ce sl hC hl hS hc hs => lv_astore hC.1 hC.2.1 hd hl.1 (show 9 < List.length (a0 :: a1 :: a2 :: a3 :: a4 :: a5 :: a6 :: a7 :: a8 :: o :: L) by simp; try omega) rfl (fun ls2 hl2 => k p e R st m args below meth co ls2 locs ce sl hC ⟨LH.set1 (L := (a0 :: a1 :: a2 :: a3 :: a4 :: a5 :: a6 :: a7 :: a8 :: o :: L)) (i := 9) (show ncAt (a0 :: a1 :: a2 :: a3 :: a4 :: a5 :: a6 :: a7 :: a8 :: o :: L) 9 = true from hn) hl2, hl.2⟩ hS hc hs)
theorem V_lstore_9 {a0 a1 a2 a3 a4 a5 a6 a7 a8 o o2 : Option Value} {x : Int64} (hd : decode K.2.1 pc = .ok (.lstore 9, 2)) (hn : nc2 a8 = true) (k : V G K d c s Q X (pc + 2) (a0 :: a1 :: a2 :: a3 :: a4 :: a5 :: a6 :: a7 :: a8 :: some (.long x) :: none :: L) rest H) : V G K d c s Q X pc (a0 :: a1 :: a2 :: a3 :: a4 :: a5 :: a6 :: a7 :: a8 :: o :: o2 :: L) (.long x :: rest) H :=
  fun p e R st m args below meth co ls locs ce sl hC hl hS hc hs => lv_lstore hC.1 hC.2.1 hd hl.1 (show 9 + 1 < List.length (a0 :: a1 :: a2 :: a3 :: a4 :: a5 :: a6 :: a7 :: a8 :: o :: o2 :: L) by simp; try omega) rfl (fun ls2 hl2 => k p e R st m args below meth co ls2 locs ce sl hC ⟨LH.set2 (L := (a0 :: a1 :: a2 :: a3 :: a4 :: a5 :: a6 :: a7 :: a8 :: o :: o2 :: L)) (i := 9) (show ncAt (a0 :: a1 :: a2 :: a3 :: a4 :: a5 :: a6 :: a7 :: a8 :: o :: o2 :: L) 9 = true from hn) hl2, hl.2⟩ hS hc hs)
theorem V_iinc_9 {a0 a1 a2 a3 a4 a5 a6 a7 a8 : Option Value} {x v : Int32} {n : Int} (hd : decode K.2.1 pc = .ok (.iinc 9 n, 3)) (hv : Int32.ofInt n = v) (hn : nc2 a8 = true) (k : V G K d c s Q X (pc + 3) (a0 :: a1 :: a2 :: a3 :: a4 :: a5 :: a6 :: a7 :: a8 :: some (.int (x + v)) :: L) rest H) : V G K d c s Q X pc (a0 :: a1 :: a2 :: a3 :: a4 :: a5 :: a6 :: a7 :: a8 :: some (.int x) :: L) rest H := by
  intro p e R st m args below meth co ls locs ce sl hC hl hS hc hs
  obtain ⟨kk, hkk⟩ := List.getElem?_of_mem (lvL_mem.mpr (show (a0 :: a1 :: a2 :: a3 :: a4 :: a5 :: a6 :: a7 :: a8 :: some (.int x) :: L)[9]? = some (some (.int x)) from rfl))
  exact lv_iinc hC.1 hC.2.1 hd hl.1 hkk (congrArg (fun z => x + z) hv) (show 9 < List.length (a0 :: a1 :: a2 :: a3 :: a4 :: a5 :: a6 :: a7 :: a8 :: some (.int x) :: L) by simp; try omega) rfl (fun ls2 hl2 => k p e R st m args below meth co ls2 locs ce sl hC ⟨LH.set1 (L := (a0 :: a1 :: a2 :: a3 :: a4 :: a5 :: a6 :: a7 :: a8 :: some (.int x) :: L)) (i := 9) (show ncAt (a0 :: a1 :: a2 :: a3 :: a4 :: a5 :: a6 :: a7 :: a8 :: some (.int x) :: L) 9 = true from hn) hl2, hl.2⟩ hS hc hs)
theorem V_iload_10 {a0 a1 a2 a3 a4 a5 a6 a7 a8 a9 : Option Value} {x : Int32} (hd : decode K.2.1 pc = .ok (.iload 10, 2)) (k : V G K d c s Q X (pc + 2) (a0 :: a1 :: a2 :: a3 :: a4 :: a5 :: a6 :: a7 :: a8 :: a9 :: some (.int x) :: L) (.int x :: rest) H) : V G K d c s Q X pc (a0 :: a1 :: a2 :: a3 :: a4 :: a5 :: a6 :: a7 :: a8 :: a9 :: some (.int x) :: L) (rest) H :=
  fun p e R st m args below meth co ls locs ce sl hC hl hS hc hs => lv_iload hC.1 hC.2.1 hd (hl.1.get (i := 10) rfl) (k p e R st m args below meth co ls locs ce sl hC hl hS hc hs)
theorem V_aload_10 {a0 a1 a2 a3 a4 a5 a6 a7 a8 a9 : Option Value} {x : Nat} (hd : decode K.2.1 pc = .ok (.aload 10, 2)) (k : V G K d c s Q X (pc + 2) (a0 :: a1 :: a2 :: a3 :: a4 :: a5 :: a6 :: a7 :: a8 :: a9 :: some (.ref x) :: L) (.ref x :: rest) H) : V G K d c s Q X pc (a0 :: a1 :: a2 :: a3 :: a4 :: a5 :: a6 :: a7 :: a8 :: a9 :: some (.ref x) :: L) (rest) H :=
  fun p e R st m args below meth co ls locs ce sl hC hl hS hc hs => lv_aload hC.1 hC.2.1 hd (hl.1.get (i := 10) rfl) (k p e R st m args below meth co ls locs ce sl hC hl hS hc hs)
theorem V_lload_10 {a0 a1 a2 a3 a4 a5 a6 a7 a8 a9 : Option Value} {x : Int64} (hd : decode K.2.1 pc = .ok (.lload 10, 2)) (k : V G K d c s Q X (pc + 2) (a0 :: a1 :: a2 :: a3 :: a4 :: a5 :: a6 :: a7 :: a8 :: a9 :: some (.long x) :: L) (.long x :: rest) H) : V G K d c s Q X pc (a0 :: a1 :: a2 :: a3 :: a4 :: a5 :: a6 :: a7 :: a8 :: a9 :: some (.long x) :: L) (rest) H :=
  fun p e R st m args below meth co ls locs ce sl hC hl hS hc hs => lv_lload hC.1 hC.2.1 hd (hl.1.get (i := 10) rfl) (k p e R st m args below meth co ls locs ce sl hC hl hS hc hs)
theorem V_istore_10 {a0 a1 a2 a3 a4 a5 a6 a7 a8 a9 o : Option Value} {x : Int32} (hd : decode K.2.1 pc = .ok (.istore 10, 2)) (hn : nc2 a9 = true) (k : V G K d c s Q X (pc + 2) (a0 :: a1 :: a2 :: a3 :: a4 :: a5 :: a6 :: a7 :: a8 :: a9 :: some (.int x) :: L) rest H) : V G K d c s Q X pc (a0 :: a1 :: a2 :: a3 :: a4 :: a5 :: a6 :: a7 :: a8 :: a9 :: o :: L) (.int x :: rest) H :=
  fun p e R st m args below meth co ls locs ce sl hC hl hS hc hs => lv_istore hC.1 hC.2.1 hd hl.1 (show 10 < List.length (a0 :: a1 :: a2 :: a3 :: a4 :: a5 :: a6 :: a7 :: a8 :: a9 :: o :: L) by simp; try omega) rfl (fun ls2 hl2 => k p e R st m args below meth co ls2 locs ce sl hC ⟨LH.set1 (L := (a0 :: a1 :: a2 :: a3 :: a4 :: a5 :: a6 :: a7 :: a8 :: a9 :: o :: L)) (i := 10) (show ncAt (a0 :: a1 :: a2 :: a3 :: a4 :: a5 :: a6 :: a7 :: a8 :: a9 :: o :: L) 10 = true from hn) hl2, hl.2⟩ hS hc hs)
theorem V_astore_10 {a0 a1 a2 a3 a4 a5 a6 a7 a8 a9 o : Option Value} {x : Nat} (hd : decode K.2.1 pc = .ok (.astore 10, 2)) (hn : nc2 a9 = true) (k : V G K d c s Q X (pc + 2) (a0 :: a1 :: a2 :: a3 :: a4 :: a5 :: a6 :: a7 :: a8 :: a9 :: some (.ref x) :: L) rest H) : V G K d c s Q X pc (a0 :: a1 :: a2 :: a3 :: a4 :: a5 :: a6 :: a7 :: a8 :: a9 :: o :: L) (.ref x :: rest) H :=
  fun p e R st m args below meth co ls locs ce sl hC hl hS hc hs => lv_astore hC.1 hC.2.1 hd hl.1 (show 10 < List.length (a0 :: a1 :: a2 :: a3 :: a4 :: a5 :: a6 :: a7 :: a8 :: a9 :: o :: L) by simp; try omega) rfl (fun ls2 hl2 => k p e R st m args below meth co ls2 locs ce sl hC ⟨LH.set1 (L := (a0 :: a1 :: a2 :: a3 :: a4 :: a5 :: a6 :: a7 :: a8 :: a9 :: o :: L)) (i := 10) (show ncAt (a0 :: a1 :: a2 :: a3 :: a4 :: a5 :: a6 :: a7 :: a8 :: a9 :: o :: L) 10 = true from hn) hl2, hl.2⟩ hS hc hs)
theorem V_iinc_10 {a0 a1 a2 a3 a4 a5 a6 a7 a8 a9 : Option Value} {x v : Int32} {n : Int} (hd : decode K.2.1 pc = .ok (.iinc 10 n, 3)) (hv : Int32.ofInt n = v) (hn : nc2 a9 = true) (k : V G K d c s Q X (pc + 3) (a0 :: a1 :: a2 :: a3 :: a4 :: a5 :: a6 :: a7 :: a8 :: a9 :: some (.int (x + v)) :: L) rest H) : V G K d c s Q X pc (a0 :: a1 :: a2 :: a3 :: a4 :: a5 :: a6 :: a7 :: a8 :: a9 :: some (.int x) :: L) rest H := by
  intro p e R st m args below meth co ls locs ce sl hC hl hS hc hs
  obtain ⟨kk, hkk⟩ := List.getElem?_of_mem (lvL_mem.mpr (show (a0 :: a1 :: a2 :: a3 :: a4 :: a5 :: a6 :: a7 :: a8 :: a9 :: some (.int x) :: L)[10]? = some (some (.int x)) from rfl))
  exact lv_iinc hC.1 hC.2.1 hd hl.1 hkk (congrArg (fun z => x + z) hv) (show 10 < List.length (a0 :: a1 :: a2 :: a3 :: a4 :: a5 :: a6 :: a7 :: a8 :: a9 :: some (.int x) :: L) by simp; try omega) rfl (fun ls2 hl2 => k p e R st m args below meth co ls2 locs ce sl hC ⟨LH.set1 (L := (a0 :: a1 :: a2 :: a3 :: a4 :: a5 :: a6 :: a7 :: a8 :: a9 :: some (.int x) :: L)) (i := 10) (show ncAt (a0 :: a1 :: a2 :: a3 :: a4 :: a5 :: a6 :: a7 :: a8 :: a9 :: some (.int x) :: L) 10 = true from hn) hl2, hl.2⟩ hS hc hs)
theorem V_iadd {x y : Int32} (hd : decode K.2.1 pc = .ok (.iadd, 1)) (k : V G K d c s Q X (pc + 1) L (.int (x + y) :: rest) H) : V G K d c s Q X pc L (.int y :: .int x :: rest) H :=
  fun p e R st m args below meth co ls locs ce sl hC hl hS hc hs => lv_iadd hC.1 hC.2.1 hd (k p e R st m args below meth co ls locs ce sl hC hl hS hc hs)
theorem V_isub {x y : Int32} (hd : decode K.2.1 pc = .ok (.isub, 1)) (k : V G K d c s Q X (pc + 1) L (.int (x - y) :: rest) H) : V G K d c s Q X pc L (.int y :: .int x :: rest) H :=
  fun p e R st m args below meth co ls locs ce sl hC hl hS hc hs => lv_isub hC.1 hC.2.1 hd (k p e R st m args below meth co ls locs ce sl hC hl hS hc hs)
theorem V_imul {x y : Int32} (hd : decode K.2.1 pc = .ok (.imul, 1)) (k : V G K d c s Q X (pc + 1) L (.int (x * y) :: rest) H) : V G K d c s Q X pc L (.int y :: .int x :: rest) H :=
  fun p e R st m args below meth co ls locs ce sl hC hl hS hc hs => lv_imul hC.1 hC.2.1 hd (k p e R st m args below meth co ls locs ce sl hC hl hS hc hs)
theorem V_iand {x y : Int32} (hd : decode K.2.1 pc = .ok (.iand, 1)) (k : V G K d c s Q X (pc + 1) L (.int (x &&& y) :: rest) H) : V G K d c s Q X pc L (.int y :: .int x :: rest) H :=
  fun p e R st m args below meth co ls locs ce sl hC hl hS hc hs => lv_iand hC.1 hC.2.1 hd (k p e R st m args below meth co ls locs ce sl hC hl hS hc hs)
theorem V_ior {x y : Int32} (hd : decode K.2.1 pc = .ok (.ior, 1)) (k : V G K d c s Q X (pc + 1) L (.int (x ||| y) :: rest) H) : V G K d c s Q X pc L (.int y :: .int x :: rest) H :=
  fun p e R st m args below meth co ls locs ce sl hC hl hS hc hs => lv_ior hC.1 hC.2.1 hd (k p e R st m args below meth co ls locs ce sl hC hl hS hc hs)
theorem V_ixor {x y : Int32} (hd : decode K.2.1 pc = .ok (.ixor, 1)) (k : V G K d c s Q X (pc + 1) L (.int (x ^^^ y) :: rest) H) : V G K d c s Q X pc L (.int y :: .int x :: rest) H :=
  fun p e R st m args below meth co ls locs ce sl hC hl hS hc hs => lv_ixor hC.1 hC.2.1 hd (k p e R st m args below meth co ls locs ce sl hC hl hS hc hs)
theorem V_idiv {x y : Int32} (hd : decode K.2.1 pc = .ok (.idiv, 1)) (hne : ¬ y = 0) (k : V G K d c s Q X (pc + 1) L (.int (x / y) :: rest) H) : V G K d c s Q X pc L (.int y :: .int x :: rest) H :=
  fun p e R st m args below meth co ls locs ce sl hC hl hS hc hs => lv_idiv hC.1 hC.2.1 hd hne (k p e R st m args below meth co ls locs ce sl hC hl hS hc hs)
theorem V_irem {x y : Int32} (hd : decode K.2.1 pc = .ok (.irem, 1)) (hne : ¬ y = 0) (k : V G K d c s Q X (pc + 1) L (.int (x - x / y * y) :: rest) H) : V G K d c s Q X pc L (.int y :: .int x :: rest) H :=
  fun p e R st m args below meth co ls locs ce sl hC hl hS hc hs => lv_irem hC.1 hC.2.1 hd hne (k p e R st m args below meth co ls locs ce sl hC hl hS hc hs)
theorem V_ineg {x : Int32} (hd : decode K.2.1 pc = .ok (.ineg, 1)) (k : V G K d c s Q X (pc + 1) L (.int (-x) :: rest) H) : V G K d c s Q X pc L (.int x :: rest) H :=
  fun p e R st m args below meth co ls locs ce sl hC hl hS hc hs => lv_ineg hC.1 hC.2.1 hd (k p e R st m args below meth co ls locs ce sl hC hl hS hc hs)
theorem V_ladd {x y : Int64} (hd : decode K.2.1 pc = .ok (.ladd, 1)) (k : V G K d c s Q X (pc + 1) L (.long (x + y) :: rest) H) : V G K d c s Q X pc L (.long y :: .long x :: rest) H :=
  fun p e R st m args below meth co ls locs ce sl hC hl hS hc hs => lv_ladd hC.1 hC.2.1 hd (k p e R st m args below meth co ls locs ce sl hC hl hS hc hs)
theorem V_lmul {x y : Int64} (hd : decode K.2.1 pc = .ok (.lmul, 1)) (k : V G K d c s Q X (pc + 1) L (.long (x * y) :: rest) H) : V G K d c s Q X pc L (.long y :: .long x :: rest) H :=
  fun p e R st m args below meth co ls locs ce sl hC hl hS hc hs => lv_lmul hC.1 hC.2.1 hd (k p e R st m args below meth co ls locs ce sl hC hl hS hc hs)
theorem V_lsub {x y : Int64} (hd : decode K.2.1 pc = .ok (.lsub, 1)) (k : V G K d c s Q X (pc + 1) L (.long (x - y) :: rest) H) : V G K d c s Q X pc L (.long y :: .long x :: rest) H :=
  fun p e R st m args below meth co ls locs ce sl hC hl hS hc hs => lv_lsub hC.1 hC.2.1 hd (k p e R st m args below meth co ls locs ce sl hC hl hS hc hs)
theorem V_i2l {x : Int32} (hd : decode K.2.1 pc = .ok (.i2l, 1)) (k : V G K d c s Q X (pc + 1) L (.long x.toInt64 :: rest) H) : V G K d c s Q X pc L (.int x :: rest) H :=
  fun p e R st m args below meth co ls locs ce sl hC hl hS hc hs => lv_i2l hC.1 hC.2.1 hd rfl (k p e R st m args below meth co ls locs ce sl hC hl hS hc hs)
theorem V_i2c {x v : Int32} (hd : decode K.2.1 pc = .ok (.i2c, 1)) (hv : (x.toUInt32 % 65536).toInt32 = v) (k : V G K d c s Q X (pc + 1) L (.int v :: rest) H) : V G K d c s Q X pc L (.int x :: rest) H :=
  fun p e R st m args below meth co ls locs ce sl hC hl hS hc hs => lv_i2c hC.1 hC.2.1 hd hv (k p e R st m args below meth co ls locs ce sl hC hl hS hc hs)
theorem V_i2b {x v : Int32} (hd : decode K.2.1 pc = .ok (.i2b, 1)) (hv : x.toInt8.toInt32 = v) (k : V G K d c s Q X (pc + 1) L (.int v :: rest) H) : V G K d c s Q X pc L (.int x :: rest) H :=
  fun p e R st m args below meth co ls locs ce sl hC hl hS hc hs => lv_i2b hC.1 hC.2.1 hd hv (k p e R st m args below meth co ls locs ce sl hC hl hS hc hs)
theorem V_pop {va : Value} (hd : decode K.2.1 pc = .ok (.pop, 1)) (hva : va.category = 1) (k : V G K d c s Q X (pc + 1) L rest H) : V G K d c s Q X pc L (va :: rest) H :=
  fun p e R st m args below meth co ls locs ce sl hC hl hS hc hs => lv_pop hC.1 hC.2.1 hd hva (k p e R st m args below meth co ls locs ce sl hC hl hS hc hs)
theorem V_dup {va : Value} (hd : decode K.2.1 pc = .ok (.dup, 1)) (hva : va.category = 1) (k : V G K d c s Q X (pc + 1) L (va :: va :: rest) H) : V G K d c s Q X pc L (va :: rest) H :=
  fun p e R st m args below meth co ls locs ce sl hC hl hS hc hs => lv_dup hC.1 hC.2.1 hd hva (k p e R st m args below meth co ls locs ce sl hC hl hS hc hs)
theorem V_if_eq {x : Int32} {off : Int} {tgt : Nat} (hd : decode K.2.1 pc = .ok (.ifCond .eq off, 3)) (ht : (pc : Int) + off = (tgt : Int)) (kt : x = 0 → V G K d c s Q X tgt L rest H) (kf : ¬ x = 0 → V G K d c s Q X (pc + 3) L rest H) : V G K d c s Q X pc L (.int x :: rest) H :=
  fun p e R st m args below meth co ls locs ce sl hC hl hS hc hs => lv_if_eq hC.1 hC.2.1 hd ht (fun q => kt q p e R st m args below meth co ls locs ce sl hC hl hS hc hs) (fun q => kf q p e R st m args below meth co ls locs ce sl hC hl hS hc hs)
theorem V_if_ne {x : Int32} {off : Int} {tgt : Nat} (hd : decode K.2.1 pc = .ok (.ifCond .ne off, 3)) (ht : (pc : Int) + off = (tgt : Int)) (kt : ¬ x = 0 → V G K d c s Q X tgt L rest H) (kf : x = 0 → V G K d c s Q X (pc + 3) L rest H) : V G K d c s Q X pc L (.int x :: rest) H :=
  fun p e R st m args below meth co ls locs ce sl hC hl hS hc hs => lv_if_ne hC.1 hC.2.1 hd ht (fun q => kt q p e R st m args below meth co ls locs ce sl hC hl hS hc hs) (fun q => kf q p e R st m args below meth co ls locs ce sl hC hl hS hc hs)
theorem V_if_lt {x : Int32} {off : Int} {tgt : Nat} (hd : decode K.2.1 pc = .ok (.ifCond .lt off, 3)) (ht : (pc : Int) + off = (tgt : Int)) (kt : x < 0 → V G K d c s Q X tgt L rest H) (kf : ¬ x < 0 → V G K d c s Q X (pc + 3) L rest H) : V G K d c s Q X pc L (.int x :: rest) H :=
  fun p e R st m args below meth co ls locs ce sl hC hl hS hc hs => lv_if_lt hC.1 hC.2.1 hd ht (fun q => kt q p e R st m args below meth co ls locs ce sl hC hl hS hc hs) (fun q => kf q p e R st m args below meth co ls locs ce sl hC hl hS hc hs)
theorem V_if_ge {x : Int32} {off : Int} {tgt : Nat} (hd : decode K.2.1 pc = .ok (.ifCond .ge off, 3)) (ht : (pc : Int) + off = (tgt : Int)) (kt : 0 ≤ x → V G K d c s Q X tgt L rest H) (kf : ¬ 0 ≤ x → V G K d c s Q X (pc + 3) L rest H) : V G K d c s Q X pc L (.int x :: rest) H :=
  fun p e R st m args below meth co ls locs ce sl hC hl hS hc hs => lv_if_ge hC.1 hC.2.1 hd ht (fun q => kt q p e R st m args below meth co ls locs ce sl hC hl hS hc hs) (fun q => kf q p e R st m args below meth co ls locs ce sl hC hl hS hc hs)
theorem V_if_gt {x : Int32} {off : Int} {tgt : Nat} (hd : decode K.2.1 pc = .ok (.ifCond .gt off, 3)) (ht : (pc : Int) + off = (tgt : Int)) (kt : 0 < x → V G K d c s Q X tgt L rest H) (kf : ¬ 0 < x → V G K d c s Q X (pc + 3) L rest H) : V G K d c s Q X pc L (.int x :: rest) H :=
  fun p e R st m args below meth co ls locs ce sl hC hl hS hc hs => lv_if_gt hC.1 hC.2.1 hd ht (fun q => kt q p e R st m args below meth co ls locs ce sl hC hl hS hc hs) (fun q => kf q p e R st m args below meth co ls locs ce sl hC hl hS hc hs)
theorem V_if_le {x : Int32} {off : Int} {tgt : Nat} (hd : decode K.2.1 pc = .ok (.ifCond .le off, 3)) (ht : (pc : Int) + off = (tgt : Int)) (kt : x ≤ 0 → V G K d c s Q X tgt L rest H) (kf : ¬ x ≤ 0 → V G K d c s Q X (pc + 3) L rest H) : V G K d c s Q X pc L (.int x :: rest) H :=
  fun p e R st m args below meth co ls locs ce sl hC hl hS hc hs => lv_if_le hC.1 hC.2.1 hd ht (fun q => kt q p e R st m args below meth co ls locs ce sl hC hl hS hc hs) (fun q => kf q p e R st m args below meth co ls locs ce sl hC hl hS hc hs)
theorem V_icmp_eq {x y : Int32} {off : Int} {tgt : Nat} (hd : decode K.2.1 pc = .ok (.if_icmp .eq off, 3)) (ht : (pc : Int) + off = (tgt : Int)) (kt : x = y → V G K d c s Q X tgt L rest H) (kf : ¬ x = y → V G K d c s Q X (pc + 3) L rest H) : V G K d c s Q X pc L (.int y :: .int x :: rest) H :=
  fun p e R st m args below meth co ls locs ce sl hC hl hS hc hs => lv_icmp_eq hC.1 hC.2.1 hd ht (fun q => kt q p e R st m args below meth co ls locs ce sl hC hl hS hc hs) (fun q => kf q p e R st m args below meth co ls locs ce sl hC hl hS hc hs)
theorem V_icmp_ne {x y : Int32} {off : Int} {tgt : Nat} (hd : decode K.2.1 pc = .ok (.if_icmp .ne off, 3)) (ht : (pc : Int) + off = (tgt : Int)) (kt : ¬ x = y → V G K d c s Q X tgt L rest H) (kf : x = y → V G K d c s Q X (pc + 3) L rest H) : V G K d c s Q X pc L (.int y :: .int x :: rest) H :=
  fun p e R st m args below meth co ls locs ce sl hC hl hS hc hs => lv_icmp_ne hC.1 hC.2.1 hd ht (fun q => kt q p e R st m args below meth co ls locs ce sl hC hl hS hc hs) (fun q => kf q p e R st m args below meth co ls locs ce sl hC hl hS hc hs)
theorem V_icmp_lt {x y : Int32} {off : Int} {tgt : Nat} (hd : decode K.2.1 pc = .ok (.if_icmp .lt off, 3)) (ht : (pc : Int) + off = (tgt : Int)) (kt : x < y → V G K d c s Q X tgt L rest H) (kf : ¬ x < y → V G K d c s Q X (pc + 3) L rest H) : V G K d c s Q X pc L (.int y :: .int x :: rest) H :=
  fun p e R st m args below meth co ls locs ce sl hC hl hS hc hs => lv_icmp_lt hC.1 hC.2.1 hd ht (fun q => kt q p e R st m args below meth co ls locs ce sl hC hl hS hc hs) (fun q => kf q p e R st m args below meth co ls locs ce sl hC hl hS hc hs)
theorem V_icmp_ge {x y : Int32} {off : Int} {tgt : Nat} (hd : decode K.2.1 pc = .ok (.if_icmp .ge off, 3)) (ht : (pc : Int) + off = (tgt : Int)) (kt : y ≤ x → V G K d c s Q X tgt L rest H) (kf : ¬ y ≤ x → V G K d c s Q X (pc + 3) L rest H) : V G K d c s Q X pc L (.int y :: .int x :: rest) H :=
  fun p e R st m args below meth co ls locs ce sl hC hl hS hc hs => lv_icmp_ge hC.1 hC.2.1 hd ht (fun q => kt q p e R st m args below meth co ls locs ce sl hC hl hS hc hs) (fun q => kf q p e R st m args below meth co ls locs ce sl hC hl hS hc hs)
theorem V_icmp_gt {x y : Int32} {off : Int} {tgt : Nat} (hd : decode K.2.1 pc = .ok (.if_icmp .gt off, 3)) (ht : (pc : Int) + off = (tgt : Int)) (kt : y < x → V G K d c s Q X tgt L rest H) (kf : ¬ y < x → V G K d c s Q X (pc + 3) L rest H) : V G K d c s Q X pc L (.int y :: .int x :: rest) H :=
  fun p e R st m args below meth co ls locs ce sl hC hl hS hc hs => lv_icmp_gt hC.1 hC.2.1 hd ht (fun q => kt q p e R st m args below meth co ls locs ce sl hC hl hS hc hs) (fun q => kf q p e R st m args below meth co ls locs ce sl hC hl hS hc hs)
theorem V_icmp_le {x y : Int32} {off : Int} {tgt : Nat} (hd : decode K.2.1 pc = .ok (.if_icmp .le off, 3)) (ht : (pc : Int) + off = (tgt : Int)) (kt : x ≤ y → V G K d c s Q X tgt L rest H) (kf : ¬ x ≤ y → V G K d c s Q X (pc + 3) L rest H) : V G K d c s Q X pc L (.int y :: .int x :: rest) H :=
  fun p e R st m args below meth co ls locs ce sl hC hl hS hc hs => lv_icmp_le hC.1 hC.2.1 hd ht (fun q => kt q p e R st m args below meth co ls locs ce sl hC hl hS hc hs) (fun q => kf q p e R st m args below meth co ls locs ce sl hC hl hS hc hs)
theorem V_goto {off : Int} {tgt : Nat} (hd : decode K.2.1 pc = .ok (.goto off, 3)) (ht : (pc : Int) + off = (tgt : Int)) (k : V G K d c s Q X tgt L rest H) : V G K d c s Q X pc L rest H :=
  fun p e R st m args below meth co ls locs ce sl hC hl hS hc hs => lv_goto hC.1 hC.2.1 hd ht (k p e R st m args below meth co ls locs ce sl hC hl hS hc hs)
theorem V_iret {v : Int32} (hd : decode K.2.1 pc = .ok (.ireturn, 1)) (hr : K.2.2.2.1 = some .int) (k : Q (some (.int v)) H) : V G K d c s Q X pc L [.int v] H := by
  intro p e R st m args below meth co ls locs ce sl hC hl hS hc hs
  refine W.widen (k := R.cells) (n := R.slots) (by omega) (by omega) (vx_ret ?_)
  exact W.iret hC.1 hC.2.1 (hC.ret.trans hr) (fun t ht _ => ⟨_, rfl, by rw [ht]; exact k, hS.F ht⟩) hS.2.2 hd hC.locks
theorem V_zret {v : Int32} {ty : FieldType} (hd : decode K.2.1 pc = .ok (.ireturn, 1)) (hr : K.2.2.2.1 = some ty) (hn : narrow ty (.int v) = .int v) (k : Q (some (.int v)) H) : V G K d c s Q X pc L [.int v] H := by
  intro p e R st m args below meth co ls locs ce sl hC hl hS hc hs
  refine W.widen (k := R.cells) (n := R.slots) (by omega) (by omega) (vx_ret ?_)
  exact W.zret hC.1 hC.2.1 (hC.ret.trans hr) hn (fun t ht _ => ⟨_, rfl, by rw [ht]; exact k, hS.F ht⟩) hS.2.2 hd hC.locks
theorem V_lret {v : Int64} (hd : decode K.2.1 pc = .ok (.lreturn, 1)) (hr : K.2.2.2.1 = some .long) (k : Q (some (.long v)) H) : V G K d c s Q X pc L [.long v] H := by
  intro p e R st m args below meth co ls locs ce sl hC hl hS hc hs
  refine W.widen (k := R.cells) (n := R.slots) (by omega) (by omega) (vx_ret ?_)
  exact W.lret hC.1 hC.2.1 (hC.ret.trans hr) (fun t ht _ => ⟨_, rfl, by rw [ht]; exact k, hS.F ht⟩) hS.2.2 hd hC.locks
theorem V_fret {v : UInt32} (hd : decode K.2.1 pc = .ok (.freturn, 1)) (hr : K.2.2.2.1 = some .float) (k : Q (some (.float v)) H) : V G K d c s Q X pc L [.float v] H := by
  intro p e R st m args below meth co ls locs ce sl hC hl hS hc hs
  refine W.widen (k := R.cells) (n := R.slots) (by omega) (by omega) (vx_ret ?_)
  exact W.fret hC.1 hC.2.1 (hC.ret.trans hr) (fun t ht _ => ⟨_, rfl, by rw [ht]; exact k, hS.F ht⟩) hS.2.2 hd hC.locks
theorem V_dret {v : UInt64} (hd : decode K.2.1 pc = .ok (.dreturn, 1)) (hr : K.2.2.2.1 = some .double) (k : Q (some (.double v)) H) : V G K d c s Q X pc L [.double v] H := by
  intro p e R st m args below meth co ls locs ce sl hC hl hS hc hs
  refine W.widen (k := R.cells) (n := R.slots) (by omega) (by omega) (vx_ret ?_)
  exact W.dret hC.1 hC.2.1 (hC.ret.trans hr) (fun t ht _ => ⟨_, rfl, by rw [ht]; exact k, hS.F ht⟩) hS.2.2 hd hC.locks
theorem V_aret {v : Nat} {rt : FieldType} (hd : decode K.2.1 pc = .ok (.areturn, 1)) (hr : K.2.2.2.1 = some rt) (hrt : (∃ n, rt = .object n) ∨ ∃ t, rt = .array t) (k : Q (some (.ref v)) H) : V G K d c s Q X pc L [.ref v] H := by
  intro p e R st m args below meth co ls locs ce sl hC hl hS hc hs
  refine W.widen (k := R.cells) (n := R.slots) (by omega) (by omega) (vx_ret ?_)
  exact W.aret hC.1 hC.2.1 (hC.ret.trans hr) hrt (Or.inr ⟨v, rfl⟩) (fun t ht _ => ⟨_, rfl, by rw [ht]; exact k, hS.F ht⟩) hS.2.2 hd hC.locks
theorem V_vret (hd : decode K.2.1 pc = .ok (.return_, 1)) (hr : K.2.2.2.1 = none) (k : Q none H) : V G K d c s Q X pc L [] H := by
  intro p e R st m args below meth co ls locs ce sl hC hl hS hc hs
  refine W.widen (k := R.cells) (n := R.slots) (by omega) (by omega) (vx_ret ?_)
  exact W.vret hC.1 hC.2.1 (hC.ret.trans hr) (fun t ht _ => ⟨_, rfl, by rw [ht]; exact k, hS.F ht⟩) hS.2.2 hd hC.locks
-- ===== the heap =====
def FL (own : String) (idx ci k : Nat) : Prop := ∃ (q : vw_C) (ref : String), vwCl[ci]? = some q ∧ k < q.2.2 ∧ Cond.fieldLink own idx ref (q.2.1 k).2.1 (q.2.1 k).2.2.1 ∈ Tb ∧ (∀ w ∈ u_ws q.1 q.2.1 q.2.2, w ∈ Tb) ∧ (ref = (q.2.1 k).1 ∨ Cond.sameField ref (q.2.1 k).1 (q.2.1 k).2.1 (q.2.1 k).2.2.1 ∈ Tb)
/-- the same with what a store wants; fin: a final field, stored in its own constructor -/
def FP (y : MethodName) (idx ci k : Nat) (ty : FieldType) (fin : Bool) : Prop := ∃ (q : vw_C) (ref : String) (tys : Nat → FieldType), vwCl[ci]? = some q ∧ k < q.2.2 ∧ Cond.fieldLink y.cls idx ref (q.2.1 k).2.1 (q.2.1 k).2.2.1 ∈ Tb ∧ (∀ w ∈ u_ws q.1 q.2.1 q.2.2, w ∈ Tb) ∧ (ref = (q.2.1 k).1 ∨ Cond.sameField ref (q.2.1 k).1 (q.2.1 k).2.1 (q.2.1 k).2.2.1 ∈ Tb) ∧
  (∀ j, j < q.2.2 → parseFieldDescriptor (q.2.1 j).2.2.1 = some (tys j)) ∧ (∀ a, a < q.2.2 → ∀ b, b < q.2.2 → a ≠ b → (q.2.1 a).2.1 ≠ (q.2.1 b).2.1) ∧ (q.2.1 k).2.2.2 = fin ∧ tys k = ty ∧ (fin = true → y.name = "<init>" ∧ (q.2.1 k).1 = y.cls)
theorem vP1 {D : va_G} {cl : List vw_C} {q : Nat × va_E} {H : Heap} (h : va_at D cl q H) : va_P D cl [q] H := fun k x hx => by
  cases k with
  | zero => cases hx; exact h
  | succ k => cases hx
theorem vD1 {A : Nat → Prop} {q : Nat × va_E} (h : A q.1) : va_D A [q] := by
  refine ⟨fun i j x y hx hy _ => ?_, fun k x hx => ?_⟩
  · cases i with
    | zero => cases j with
      | zero => rfl
      | succ j => cases hy
    | succ i => cases hx
  · cases k with
    | zero => cases hx; exact h
    | succ k => cases hx
theorem ob.ro {a ci : Nat} {fs : List Value} (h : ob G H a ci fs) : ro G H a ci fs := by
  obtain ⟨r, h1, cell, h2, h3, h4, h5⟩ := h
  exact ⟨r, cell, h1, h2, h3, (by rw [h4]; exact fun z => by cases z), (by rw [h4]; rfl), h5⟩
theorem sameF {q : vw_C} {k : Nat} {ref : String} {st : State} {args : Array Value} (hts : ∀ w ∈ Tb, w.before args st = true) (h : ref = (q.2.1 k).1 ∨ Cond.sameField ref (q.2.1 k).1 (q.2.1 k).2.1 (q.2.1 k).2.2.1 ∈ Tb) : ∀ x, st.fieldFound? (q.2.1 k).1 (q.2.1 k).2.1 (q.2.1 k).2.2.1 = some x → st.fieldFound? ref (q.2.1 k).2.1 (q.2.1 k).2.2.1 = some x := by
  rcases h with rfl | h
  · exact fun _ h => h
  · exact fun x hx => u_same (hts _ h) x hx
theorem V_getf {idx ci k : Nat} {a : Nat} {fs : List Value} {v : Value} (hd : decode K.2.1 pc = .ok (.getfield idx, 3)) (hf : FL K.1.cls idx ci k) (h : ro G H a ci fs) (hv : fs[k]? = some v) (kk : V G K d c s Q X (pc + 3) L (v :: rest) H) : V G K d c s Q X pc L (.ref a :: rest) H := by
  intro p e R st m args below meth co ls locs ce sl hC hl hS hc hs
  obtain ⟨q, ref, h1, h2, h3, h4, h5⟩ := hf
  obtain ⟨r, cell, r1, r2, r3, r4, r5, r6⟩ := h
  cases h1.symm.trans r1
  obtain ⟨hSl, hfc, kC, hkC, hkind⟩ := hC.k.1 ci _ h1
  obtain ⟨cf, kf, fi, f, hi, hsl⟩ := hSl k h2
  refine W.getf hC.1 hC.2.1 hC.own (hC.w _ h3) (sameF hC.w h5 _ hi) (u_facts hfc hkC (u_lays hC.w h4 h2) hi).1 r2 r4 (v := v) ?_ rfl rfl hd (kk p e R st m args below meth co ls locs ce sl hC hl hS hc hs)
  rw [hsl, r6 k h2]
  simp [vp_V, hv]
theorem vaS_put {A : Nat → Prop} {H0 H H1 : Heap} {locs : List Loc} (h : va_S A H0 H locs) (z : H1.size = H.size) : H0.size ≤ H1.size := by rw [z]; exact h.1
theorem V_putf {idx ci k : Nat} {ty : FieldType} {fin : Bool} {a : Nat} {fs : List Value} {v : Value} (hd : decode K.2.1 pc = .ok (.putfield idx, 3)) (hf : FP K.1 idx ci k ty fin) (h : ob G H a ci fs) (hw : gF G a) (hn : narrow ty v = v ∧ fits ty v = true) (hl0 : k < fs.length)
    (kk : ∀ H1 : Heap, ob G H1 a ci (fs.set k v) → H1.size = H.size → (∀ q : Nat, q ≠ a → H1[q]? = H[q]?) → V G K d c s Q X (pc + 3) L rest H1) : V G K d c s Q X pc L (v :: .ref a :: rest) H := by
  intro p e R st m args below meth co ls locs ce sl hC hl hS hc hs
  obtain ⟨q, ref, tys, h1, h2, h3, h4, h5, h6, h7, h8, h9, h10⟩ := hf
  have hP := vP1 h
  have hD : va_D (gF G) [(a, .inr (ci, fs))] := vD1 hw
  have key : ∀ (H1 : Heap) (locs1 : List Loc), va_P (gD G) vwCl ([(a, (.inr (ci, fs) : va_E))].set 0 (a, .inr (ci, fs.set k v))) H1 → va_D (gF G) ([(a, (.inr (ci, fs) : va_E))].set 0 (a, .inr (ci, fs.set k v))) → va_S (gF G) st.heap H1 locs1 → True := fun _ _ _ _ _ => trivial
  have hap := va_apart (own := K.1.cls) hC.w h4 tys h6 h7 hC.k h1
  obtain ⟨r, r1, cell, q1, q2, q3, q4⟩ := h
  cases h1.symm.trans r1
  obtain ⟨hSl, hfc, kC, hkC, hkind⟩ := hC.k.1 ci _ h1
  obtain ⟨cf, kf, fi, f, hi, hsl⟩ := hSl k h2
  have hlay := hC.w _ (h4 _ (u_in_lay h2))
  unfold u_lay at hlay
  have hst := (u_facts hfc hkC (u_lays hC.w h4 h2) hi).1
  have fin1 : ∀ H1 : Heap, H1[a]? = some (cell.setSlot ((gD G).2 ci k) v) → H1.size = H.size → (∀ q : Nat, q ≠ a → H1[q]? = H[q]?) → W p (gL G) e R st m args below meth co H1 (locs ++ [⟨a, (gD G).2 ci k⟩]) ce sl (vx_MQ below (Qr G Q) (Xr G X) args st R.cells R.slots (gF G)) (F0 m (pc + 3) ls rest) := by
    intro H1 e1 e2 e3
    exact kk H1 ⟨_, h1, t_OB.to (V := updV (vp_V fs) k v) ⟨_, e1, q2, q3, t_set q4 hap h2 v⟩ (fun j _ => vp_updV_set hl0 v j)⟩ e2 e3 p e R st m args below meth co ls _ ce sl hC hl (hS.put e2 e3 hw) hc hs
  rw [← hsl] at fin1
  cases fin with
  | false =>
    rw [if_neg (by rw [h8]; decide)] at hlay
    have h11 := u_store hfc hkC hkind hlay hi (h9 ▸ h6 k h2) hn.1 hn.2
    exact W.putK hC.1 hC.2.1 (f := f) ⟨hC.own, hC.w _ h3, ⟨_, _, _, sameF hC.w h5 _ hi⟩, hst⟩ (by rw [q2]; exact h11) q1 q3 (by rw [hsl]; exact k2_hasslot (q4 k h2)) rfl rfl hd fin1
  | true =>
    rw [if_pos h8] at hlay
    obtain ⟨h12, h13⟩ := h10 rfl
    have hcf : m.cls = cf := by
      obtain ⟨_, _, c', _, _, _, -, -, hf', -, -, -, hown2, -⟩ := Cond.laysFinal_spec hlay
      have e1 : c' = cf := by have := hi.symm.trans hf'; simp at this; exact this.1.symm
      rw [h13] at hown2
      rw [← e1]; exact Option.some.inj (hC.own.symm.trans hown2)
    have h11 := u_fits hfc hkC hkind (Or.inr hlay) hi (h9 ▸ h6 k h2) hn.1 hn.2
    exact W.putFinK hC.1 hC.2.1 hC.own (hC.w _ h3) (sameF hC.w h5 _ hi) hst hcf (hC.nm.trans h12) (by rw [q2]; exact h11) q1 q3 (by rw [hsl]; exact k2_hasslot (q4 k h2)) rfl rfl hd fin1
theorem ar.raI {a k : Nat} {l : List Int32} (h : ar G H a k (ia l)) (hl : l.length < 2 ^ 31) : ra G H a k l.length (iv l) := by
  refine ⟨_, h.1, h.2 l.length (fun j => .int (l.getD j 0)), (fun z => by cases z), rfl, ?_, ?_, fun j hj => ?_⟩
  · show _ ≤ (arrV _ _ _).slots.size
    rw [arrV_size]
    exact Nat.le_refl _
  · show (arrV _ _ _).slots.size.toInt32 = _
    rw [arrV_size]
    rfl
  · show (arrV _ _ _).slots[j]? = _
    exact arrV_read _ _ hj
def lv (l : List Int64) (j : Nat) : Value := .long (l.getD j 0)
def ov (l : List (Option Nat)) (j : Nat) : Value := va_rf (l.getD j none)
theorem ar.raL {a k : Nat} {l : List Int64} (h : ar G H a k (la l)) : ra G H a k l.length (lv l) := by
  refine ⟨_, h.1, h.2 l.length (fun j => .long (l.getD j 0)), (fun z => by cases z), rfl, ?_, ?_, fun j hj => ?_⟩
  · show _ ≤ (arrV _ _ _).slots.size
    rw [arrV_size]
    exact Nat.le_refl _
  · show (arrV _ _ _).slots.size.toInt32 = _
    rw [arrV_size]
    rfl
  · show (arrV _ _ _).slots[j]? = _
    exact arrV_read _ _ hj
theorem ar.raO {a k : Nat} {l : List (Option Nat)} (h : ar G H a k (oa l)) : ra G H a k l.length (ov l) := by
  refine ⟨_, h.1, h.2 l.length (fun j => va_rf (l.getD j none)), (fun z => by cases z), rfl, ?_, ?_, fun j hj => ?_⟩
  · show _ ≤ (arrV _ _ _).slots.size
    rw [arrV_size]
    exact Nat.le_refl _
  · show (arrV _ _ _).slots.size.toInt32 = _
    rw [arrV_size]
    rfl
  · show (arrV _ _ _).slots[j]? = _
    exact arrV_read _ _ hj
theorem vp_in_lt {i : Int32} {n : Nat} (h : vp_in i n) : i.toNatClampNeg < n := Nat.not_le.mp fun q => h (Or.inr q)
theorem V_iald {a n : Nat} {f : Nat → Value} {i : Int32} {v : Value} (hd : decode K.2.1 pc = .ok (.iaload, 1)) (h : ra G H a 0 n f) (hi : vp_in i n) (hv : f i.toNatClampNeg = v) (k : V G K d c s Q X (pc + 1) L (v :: rest) H) : V G K d c s Q X pc L (.int i :: .ref a :: rest) H := by
  intro p e R st m args below meth co ls locs ce sl hC hl hS hc hs
  obtain ⟨cell, h1, h2, h3, -, h4, -, h5⟩ := h
  exact W.iald hC.1 hC.2.1 h1 (State.isArrayOf_alike hC.ku.2.1.alike h2) h3 (fun z => z.elim (fun y => hi (Or.inl y)) (fun y => hi (Or.inr (Nat.le_trans h4 y)))) ((h5 _ (vp_in_lt hi)).trans (congrArg some hv)) rfl rfl hd (k p e R st m args below meth co ls locs ce sl hC hl hS hc hs)
theorem V_cald {a n : Nat} {f : Nat → Value} {i : Int32} {v : Value} (hd : decode K.2.1 pc = .ok (.caload, 1)) (h : ra G H a 1 n f) (hi : vp_in i n) (hv : f i.toNatClampNeg = v) (k : V G K d c s Q X (pc + 1) L (v :: rest) H) : V G K d c s Q X pc L (.int i :: .ref a :: rest) H := by
  intro p e R st m args below meth co ls locs ce sl hC hl hS hc hs
  obtain ⟨cell, h1, h2, h3, -, h4, -, h5⟩ := h
  exact W.cald hC.1 hC.2.1 h1 (State.isArrayOf_alike hC.ku.2.1.alike h2) h3 (fun z => z.elim (fun y => hi (Or.inl y)) (fun y => hi (Or.inr (Nat.le_trans h4 y)))) ((h5 _ (vp_in_lt hi)).trans (congrArg some hv)) rfl rfl hd (k p e R st m args below meth co ls locs ce sl hC hl hS hc hs)
theorem V_bald {a n : Nat} {f : Nat → Value} {i : Int32} {v : Value} (hd : decode K.2.1 pc = .ok (.baload, 1)) (h : ra G H a 2 n f) (hi : vp_in i n) (hv : f i.toNatClampNeg = v) (k : V G K d c s Q X (pc + 1) L (v :: rest) H) : V G K d c s Q X pc L (.int i :: .ref a :: rest) H := by
  intro p e R st m args below meth co ls locs ce sl hC hl hS hc hs
  obtain ⟨cell, h1, h2, h3, -, h4, -, h5⟩ := h
  exact W.bald hC.1 hC.2.1 h1 (State.isArrayOf_alike hC.ku.2.1.alike h2) h3 (fun z => z.elim (fun y => hi (Or.inl y)) (fun y => hi (Or.inr (Nat.le_trans h4 y)))) ((h5 _ (vp_in_lt hi)).trans (congrArg some hv)) rfl rfl hd (k p e R st m args below meth co ls locs ce sl hC hl hS hc hs)
theorem V_lald {a n : Nat} {f : Nat → Value} {i : Int32} {v : Value} (hd : decode K.2.1 pc = .ok (.laload, 1)) (h : ra G H a 4 n f) (hi : vp_in i n) (hv : f i.toNatClampNeg = v) (k : V G K d c s Q X (pc + 1) L (v :: rest) H) : V G K d c s Q X pc L (.int i :: .ref a :: rest) H := by
  intro p e R st m args below meth co ls locs ce sl hC hl hS hc hs
  obtain ⟨cell, h1, h2, h3, -, h4, -, h5⟩ := h
  exact W.lald hC.1 hC.2.1 h1 (State.isArrayOf_alike hC.ku.2.1.alike h2) h3 (fun z => z.elim (fun y => hi (Or.inl y)) (fun y => hi (Or.inr (Nat.le_trans h4 y)))) ((h5 _ (vp_in_lt hi)).trans (congrArg some hv)) rfl rfl hd (k p e R st m args below meth co ls locs ce sl hC hl hS hc hs)
theorem tyK_ref {k : Nat} (h : 5 ≤ k) : (tyK k).isReference = true := by
  obtain ⟨j, rfl⟩ := Nat.exists_eq_add_of_le h
  cases j with
  | zero => rfl
  | succ j => rw [show 5 + (j + 1) = j + 6 by omega]; rfl
theorem V_aald {a n kk : Nat} {f : Nat → Value} {i : Int32} {v : Value} (hd : decode K.2.1 pc = .ok (.aaload, 1)) (h : ra G H a kk n f) (hk : 5 ≤ kk) (hi : vp_in i n) (hv : f i.toNatClampNeg = v) (k : V G K d c s Q X (pc + 1) L (v :: rest) H) : V G K d c s Q X pc L (.int i :: .ref a :: rest) H := by
  intro p e R st m args below meth co ls locs ce sl hC hl hS hc hs
  obtain ⟨cell, h1, h2, h3, -, h4, -, h5⟩ := h
  exact W.aald hC.1 hC.2.1 h1 (State.isArrayOf_alike hC.ku.2.1.alike h2) (tyK_ref hk) h3 (fun z => z.elim (fun y => hi (Or.inl y)) (fun y => hi (Or.inr (Nat.le_trans h4 y)))) ((h5 _ (vp_in_lt hi)).trans (congrArg some hv)) rfl rfl hd (k p e R st m args below meth co ls locs ce sl hC hl hS hc hs)
theorem V_alen {a kk n : Nat} {f : Nat → Value} {v : Int32} (hd : decode K.2.1 pc = .ok (.arraylength, 1)) (h : ra G H a kk n f) (hv : Int32.ofNat n = v) (k : V G K d c s Q X (pc + 1) L (.int v :: rest) H) : V G K d c s Q X pc L (.ref a :: rest) H := by
  intro p e R st m args below meth co ls locs ce sl hC hl hS hc hs
  obtain ⟨cell, h1, h2, h3, -, -, h4, -⟩ := h
  exact W.alen hC.1 hC.2.1 h1 (State.isArrayOf_alike hC.ku.2.1.alike h2) (h4.trans hv) rfl rfl hd (k p e R st m args below meth co ls locs ce sl hC hl hS hc hs)
theorem vS_put {A : Nat → Prop} {H0 H1 H2 : Heap} {locs : List Loc} {a k : Nat} (h : va_S A H0 H1 locs) (z : H2.size = H1.size) (oq : ∀ q : Nat, q ≠ a → H2[q]? = H1[q]?) (ha : A a) : va_S A H0 H2 (locs ++ [⟨a, k⟩]) := h.put z oq ha
theorem ia_set {cA : ClassId} {l : List Int32} {j : Nat} {x : Int32} (hj : j < l.length) : arrV cA l.length (updV (fun i => .int (l.getD i 0)) j (.int x)) = vp_cell cA (ia (l.set j x)) := by
  unfold ia
  rw [vp_cell_i, List.length_set]
  congr 1
  funext q
  by_cases hq : q = j
  · subst hq
    simp [updV, hj]
  · simp [updV, hq, List.getElem?_set, Ne.symm hq]
theorem V_iast {a : Nat} {l : List Int32} {i x : Int32} (hd : decode K.2.1 pc = .ok (.iastore, 1)) (h : ar G H a 0 (ia l)) (hw : gF G a) (hi : vp_in i l.length)
    (kk : ∀ H1 : Heap, ar G H1 a 0 (ia (l.set i.toNatClampNeg x)) → H1.size = H.size → (∀ q : Nat, q ≠ a → H1[q]? = H[q]?) → V G K d c s Q X (pc + 1) L rest H1) : V G K d c s Q X pc L (.int x :: .int i :: .ref a :: rest) H := by
  intro p e R st m args below meth co ls locs ce sl hC hl hS hc hs
  refine W.iast hC.1 hC.2.1 h.1 (State.isArrayOf_alike hC.ku.2.1.alike (h.2 l.length (fun j => .int (l.getD j 0)))) (fun q => by cases q) (by show ¬ (i < 0 ∨ (arrV _ _ _).slots.size ≤ _); rw [arrV_size]; exact hi) rfl rfl hd fun H1 e1 z oq => ?_
  refine kk H1 ⟨?_, h.2⟩ z oq p e R st m args below meth co ls _ ce sl hC hl (hS.put z oq hw) hc hs
  rw [e1, ← ia_set (vp_in_lt hi)]
  show some ((vp_cell _ (_, .inl _)).setSlot _ _) = _
  rw [vp_cell_i, arrV_store]
theorem V_cast {a : Nat} {l : List Int32} {i x : Int32} (hd : decode K.2.1 pc = .ok (.castore, 1)) (h : ar G H a 1 (ia l)) (hw : gF G a) (hi : vp_in i l.length) (hx : narrow .char (.int x) = .int x)
    (kk : ∀ H1 : Heap, ar G H1 a 1 (ia (l.set i.toNatClampNeg x)) → H1.size = H.size → (∀ q : Nat, q ≠ a → H1[q]? = H[q]?) → V G K d c s Q X (pc + 1) L rest H1) : V G K d c s Q X pc L (.int x :: .int i :: .ref a :: rest) H := by
  intro p e R st m args below meth co ls locs ce sl hC hl hS hc hs
  refine W.cast hC.1 hC.2.1 h.1 (State.isArrayOf_alike hC.ku.2.1.alike (h.2 l.length (fun j => .int (l.getD j 0)))) (fun q => by cases q) (by show ¬ (i < 0 ∨ (arrV _ _ _).slots.size ≤ _); rw [arrV_size]; exact hi) rfl rfl hd fun H1 e1 z oq => ?_
  refine kk H1 ⟨?_, h.2⟩ z oq p e R st m args below meth co ls _ ce sl hC hl (hS.put z oq hw) hc hs
  rw [e1, ← ia_set (vp_in_lt hi)]
  show some ((vp_cell _ (_, .inl _)).setSlot _ _) = _
  rw [vp_cell_i, arrV_store, hx]
theorem V_bast {a : Nat} {l : List Int32} {i x : Int32} (hd : decode K.2.1 pc = .ok (.bastore, 1)) (h : ar G H a 2 (ia l)) (hw : gF G a) (hi : vp_in i l.length) (hx : narrow .byte (.int x) = .int x)
    (kk : ∀ H1 : Heap, ar G H1 a 2 (ia (l.set i.toNatClampNeg x)) → H1.size = H.size → (∀ q : Nat, q ≠ a → H1[q]? = H[q]?) → V G K d c s Q X (pc + 1) L rest H1) : V G K d c s Q X pc L (.int x :: .int i :: .ref a :: rest) H := by
  intro p e R st m args below meth co ls locs ce sl hC hl hS hc hs
  refine W.bast hC.1 hC.2.1 h.1 (State.isArrayOf_alike hC.ku.2.1.alike (h.2 l.length (fun j => .int (l.getD j 0)))) (fun q => by cases q) (by show ¬ (i < 0 ∨ (arrV _ _ _).slots.size ≤ _); rw [arrV_size]; exact hi) rfl rfl hd fun H1 e1 z oq => ?_
  refine kk H1 ⟨?_, h.2⟩ z oq p e R st m args below meth co ls _ ce sl hC hl (hS.put z oq hw) hc hs
  rw [e1, ← ia_set (vp_in_lt hi)]
  show some ((vp_cell _ (_, .inl _)).setSlot _ _) = _
  rw [vp_cell_i, arrV_store, hx]
theorem la_set {cA : ClassId} {l : List Int64} {j : Nat} {x : Int64} (hj : j < l.length) : arrV cA l.length (updV (fun i => .long (l.getD i 0)) j (.long x)) = vp_cell cA (la (l.set j x)) := by
  unfold la
  rw [vp_cell_l, List.length_set]
  congr 1
  funext q
  by_cases hq : q = j
  · subst hq
    simp [updV, hj]
  · simp [updV, hq, List.getElem?_set, Ne.symm hq]
theorem V_last {a : Nat} {l : List Int64} {i : Int32} {x : Int64} (hd : decode K.2.1 pc = .ok (.lastore, 1)) (h : ar G H a 4 (la l)) (hw : gF G a) (hi : vp_in i l.length)
    (kk : ∀ H1 : Heap, ar G H1 a 4 (la (l.set i.toNatClampNeg x)) → H1.size = H.size → (∀ q : Nat, q ≠ a → H1[q]? = H[q]?) → V G K d c s Q X (pc + 1) L rest H1) : V G K d c s Q X pc L (.long x :: .int i :: .ref a :: rest) H := by
  intro p e R st m args below meth co ls locs ce sl hC hl hS hc hs
  refine W.last hC.1 hC.2.1 h.1 (State.isArrayOf_alike hC.ku.2.1.alike (h.2 l.length (fun j => .long (l.getD j 0)))) (fun q => by cases q) (by show ¬ (i < 0 ∨ (arrV _ _ _).slots.size ≤ _); rw [arrV_size]; exact hi) rfl rfl hd fun H1 e1 z oq => ?_
  refine kk H1 ⟨?_, h.2⟩ z oq p e R st m args below meth co ls _ ce sl hC hl (hS.put z oq hw) hc hs
  rw [e1, ← la_set (vp_in_lt hi)]
  show some ((vp_cell _ (_, .inr (.inl _))).setSlot _ _) = _
  rw [vp_cell_l, arrV_store]
theorem oa_set {cA : ClassId} {l : List (Option Nat)} {j : Nat} {x : Option Nat} (hj : j < l.length) : arrV cA l.length (updV (fun i => va_rf (l.getD i none)) j (va_rf x)) = vp_cell cA (oa (l.set j x)) := by
  unfold oa
  rw [vp_cell_q, List.length_set]
  congr 1
  funext q
  by_cases hq : q = j
  · subst hq
    simp [updV, hj]
  · simp [updV, hq, List.getElem?_set, Ne.symm hq]
/-- an object that an array of objects takes -/
def elO (G : GT) (H : Heap) (y : Nat) : Prop := ∃ (ci : Nat) (q : vw_C) (fs : List Value), vwCl[ci]? = some q ∧ Cond.castable q.1 "java/lang/Object" ∈ Tc ∧ ro G H y ci fs
theorem elO.any {p : Program} {e : Env} {R : Room} {st : State} {m : MethodId} {args : Array Value} {below : List Frame} {meth : Method} {co : Code} {y : Nat} (hC : Cx G K d p e R st m args below meth co) (h : elO G H y) : va_Any "java/lang/Object" st H y := by
  obtain ⟨ci, q, fs, h1, h2, r, cell, r1, r2, r3, r4, r5, r6⟩ := h
  cases h1.symm.trans r1
  obtain ⟨-, hfc, kC, hkC, -⟩ := hC.k.1 ci _ h1
  refine ⟨cell, r2, r5, ⟨kC, by rw [r3]; exact hkC⟩, fun comp hcomp => ?_⟩
  rw [r3]
  have h3 : va_Nw (.castable q.1 "java/lang/Object") st := by
    exact va_Nw.of rfl (hC.tc _ h2)
  exact vb_asgC h3 comp _ hcomp hfc
theorem V_aast {a y : Nat} {l : List (Option Nat)} {i : Int32} (hd : decode K.2.1 pc = .ok (.aastore, 1)) (h : ar G H a 5 (oa l)) (hw : gF G a) (hi : vp_in i l.length) (hy : elO G H y)
    (kk : ∀ H1 : Heap, ar G H1 a 5 (oa (l.set i.toNatClampNeg (some y))) → H1.size = H.size → (∀ q : Nat, q ≠ a → H1[q]? = H[q]?) → V G K d c s Q X (pc + 1) L rest H1) : V G K d c s Q X pc L (.ref y :: .int i :: .ref a :: rest) H := by
  intro p e R st m args below meth co ls locs ce sl hC hl hS hc hs
  obtain ⟨cellV, g1, g3, ⟨kC, hkC⟩, hasg⟩ := hy.any hC
  obtain ⟨kA, comp, k1, k2, k3, -⟩ := (hC.k.2 5 (gT G 5, .object "java/lang/Object") rfl).2
  obtain ⟨kE, hkE, -⟩ := Vm.findClass_spec k3
  refine W.aast hC.1 hC.2.1 h.1 (fun q h => by cases h) (fun h => by cases h) k1 k2 rfl hkE ⟨fun q => hi (Or.inl q), by show _ < (arrV _ _ _).slots.size; rw [arrV_size]; exact vp_in_lt hi⟩ g1 (fun q h => by rw [h] at g3; cases g3) hkC (hasg _ k3) rfl rfl hd fun H1 e1 z oq => ?_
  refine kk H1 ⟨?_, h.2⟩ z oq p e R st m args below meth co ls _ ce sl hC hl (hS.put z oq hw) hc hs
  rw [e1, ← oa_set (vp_in_lt hi)]
  show some ((vp_cell _ (_, .inr (.inr (.inr (.inr _))))).setSlot _ _) = _
  rw [vp_cell_q, arrV_store]
  rfl
-- ===== making =====
def NW (own : String) (idx ci : Nat) (fs : List Value) : Prop := ∃ (q : vw_C) (tys : Nat → FieldType), vwCl[ci]? = some q ∧ Cond.classLink own idx q.1 ∈ Tb ∧ Cond.instantiable q.1 q.2.2 ∈ Tb ∧ Cond.initialized q.1 ∈ Tb ∧ (∀ w ∈ u_ws q.1 q.2.1 q.2.2, w ∈ Tb) ∧ (∀ j, j < q.2.2 → parseFieldDescriptor (q.2.1 j).2.2.1 = some (tys j)) ∧ (∀ j, j < q.2.2 → defaultValue (tys j) = vp_V fs j) ∧ q.2.2 = fs.length
theorem V_new {idx ci : Nat} {fs : List Value} (hd : decode K.2.1 pc = .ok (.new idx, 3)) (hw : NW K.1.cls idx ci fs) (h1 : 1 ≤ c) (h2 : fs.length ≤ s)
    (kk : ∀ H1 : Heap, ob G H1 H.size ci fs → gF G H.size → H1.size = H.size + 1 → (∀ q : Nat, q < H.size → H1[q]? = H[q]?) → V G K d (c - 1) (s - fs.length) Q X (pc + 3) L (.ref H.size :: rest) H1) : V G K d c s Q X pc L rest H := by
  intro p e R st m args below meth co ls locs ce sl hC hl hS hc hs
  obtain ⟨q, tys, a1, a2, a3, a4, a5, a6, a7, a8⟩ := hw
  refine W.newc hC.1 hC.2.1 hC.own (hC.w _ a2) (hC.w _ a3) (hC.w _ a4) rfl hd (by omega) (by omega) fun cC kC e1 e2 e3 e4 => ?_
  have z1 : (H.push (blank cC kC)).size = H.size + 1 := Array.size_push _
  have o1 : ∀ j : Nat, j < H.size → (H.push (blank cC kC))[j]? = H[j]? := fun j hj => by rw [Array.getElem?_push, if_neg (Nat.ne_of_lt hj)]
  have hcc : (gD G).1 ci = cC := Option.some.inj ((hC.k.1 ci _ a1).2.1.symm.trans e1)
  have hb : t_OB H.size cC q.2.2 ((gD G).2 ci) (H.push (blank cC kC)) (fun k => defaultValue (tys k)) := u_born tys hC.w a5 (by rw [← hcc]; exact hC.k.1 ci _ a1) e2 (by rw [Array.getElem?_push_size]) a6
  have hob : ob G (H.push (blank cC kC)) H.size ci fs := ⟨q, a1, by
    rw [hcc]
    exact t_OB.to (V := fun k => defaultValue (tys k)) hb (fun j hj => a7 j hj)⟩
  have hgf : gF G H.size := Nat.le_trans hC.ku.2.2.1 hS.1
  exact kk _ hob hgf z1 o1 p e R st m args below meth co ls locs (ce + 1) (sl + q.2.2) hC hl ⟨Nat.le_trans hS.1 (by rw [z1]; omega), fun x g1 g2 => (o1 x (Nat.lt_of_lt_of_le g1 hS.1)).trans (hS.2.1 x g1 g2), hS.2.2⟩ (by omega) (by rw [← a8] at h2 ⊢; omega)
theorem V_newI {atype : ArrayType} {kk : Nat} {n : Int32} {N : Nat} (hd : decode K.2.1 pc = .ok (.newarray atype, 2)) (hw : Cond.arrayClass (newarray.typeOf atype) ∈ Tb) (hk : (tyL (gT G))[kk]? = some (gT G kk, newarray.typeOf atype)) (hty : newarray.typeOf atype = tyK kk) (hdv : defaultValue (newarray.typeOf atype) = .int 0) (hp : ∀ C, newarray.typeOf atype ≠ .object C) (hn : ¬ n < 0) (hN : n.toNatClampNeg = N) (hb : N * componentBytes (newarray.typeOf atype) ≤ 536870912) (h1 : 1 ≤ c) (h2 : N ≤ s)
    (kk0 : ∀ H1 : Heap, ar G H1 H.size kk (ia (List.replicate N 0)) → gF G H.size → H1.size = H.size + 1 → (∀ q : Nat, q < H.size → H1[q]? = H[q]?) → V G K d (c - 1) (s - N) Q X (pc + 2) L (.ref H.size :: rest) H1) : V G K d c s Q X pc L (.int n :: rest) H := by
  intro p e R st m args below meth co ls locs ce sl hC hl hS hc hs
  refine va_newaK hC.1 hC.2.1 (hC.w _ hw) rfl hd rfl hn hN hb (by omega) (by omega) rfl fun H1 cA e1 z1 o1 ha hf => ?_
  have hra := (hC.k.2 kk _ hk).2
  have hcA : gT G kk = cA := by
    have h3 : st.vm.findClass ("[" ++ (newarray.typeOf atype).toString) = some (gT G kk) := by
      revert hra hp
      generalize newarray.typeOf atype = ty
      intro hp hra
      cases ty with
      | object C => exact absurd rfl (hp C)
      | _ => exact hra
    exact Option.some.inj (h3.symm.trans hf)
  have har : ar G H1 H.size kk (ia (List.replicate N 0)) := by
    refine ⟨?_, fun j z => ?_⟩
    · rw [e1, hdv, ← hcA]
      unfold ia
      rw [vp_cell_i, List.length_replicate]
      congr 2
      funext j
      congr 1
      simp [List.getD_eq_getElem?_getD, List.getElem?_replicate]
      split <;> rfl
    · have h4 := (hC.ku.1.2.1.2 kk _ hk).1 j z
      rw [← hty]
      exact h4
  exact kk0 H1 har (Nat.le_trans hC.ku.2.2.1 hS.1) z1 o1 p e R st m args below meth co ls locs (ce + 1) (sl + N) hC hl ⟨Nat.le_trans hS.1 (by rw [z1]; omega), fun x g1 g2 => (o1 x (Nat.lt_of_lt_of_le g1 hS.1)).trans (hS.2.1 x g1 g2), hS.2.2⟩ (by omega) (by omega)

-- ===== entry =====
theorem LH_entry {nL : Nat} {as : List Value} (h : (lg_sl as).length ≤ nL) : LH ((lg_sl as ++ List.replicate (nL - (lg_sl as).length) Slot.unset).toArray) (entL nL as) := by
  have e1 : ∀ vs : List Value, (vs.flatMap fun v => if v.category = 2 then [some v, none] else [some v]) = (lg_sl vs).map (fun x => match x with | .val v => some v | _ => none) := by
    intro vs
    induction vs with
    | nil => rfl
    | cons v t ih =>
      rw [List.flatMap_cons, ih]
      show _ = ((if v.category = 2 then [Slot.val v, .second] else [.val v]) ++ lg_sl t).map _
      rw [List.map_append]
      congr 1
      split <;> rfl
  have e2 : entL nL as = (lg_sl as ++ List.replicate (nL - (lg_sl as).length) Slot.unset).map (fun x => match x with | .val v => some v | _ => none) := by
    unfold entL
    rw [e1, List.length_map, List.map_append, List.map_replicate]
  have h0 := lv_entry as (n := nL) h
  refine ⟨?_, h0.2.1, fun q hq => ?_⟩
  · rw [h0.1, e2, List.length_map, List.length_append, List.length_replicate]
    omega
  · obtain ⟨i, v⟩ := q
    rw [lvL_mem, e2, List.getElem?_map, Option.map_eq_some_iff] at hq
    obtain ⟨x, hx, hv⟩ := hq
    have hx2 : ((lg_sl as ++ List.replicate (nL - (lg_sl as).length) Slot.unset).toArray)[i]? = some x := by rw [List.getElem?_toArray]; exact hx
    rw [hx2]
    cases x with
    | val w => simp only [Option.some.injEq] at hv; rw [hv]
    | _ => cases hv
theorem KU.blind {as : List Value} : FrameBlind (PcK G as H) := fun _ _ _ _ h => h
theorem start {as : List Value} (hh : K.2.2.2.2 = []) (hy : plainName K.1.cls = true) (he : (lg_sl as).length ≤ K.2.2.1) (k : V G K d c s Q X 0 (entL K.2.2.1 as) [] H) : Call G K d c s as H Q X := by
  have hw : hdK K :: Tb = Cond.code K.1 K.2.1 K.2.2.1 K.2.2.2.1 :: Tb := by unfold hdK; rw [hh]
  refine vx_ofW (cc := K.2.1) (maxL := K.2.2.1) (ret := K.2.2.2.1) hy hw ?_
  intro p e st m args below meth co s1 B hml htab hv
  obtain ⟨rfl, hH, hU⟩ := hv
  have hts := atoms_spec (ws := hdK K :: Tb) B.pre
  have hC : Cx G K d p e (rmK d c s) st m as.toArray below meth co := ⟨B.exec, B.bytes, hml, findClass_of_methodNamed B.named, B.notSynchronized, by rw [hh]; exact List.eq_nil_iff_forall_not_mem.mpr (fun x hx => htab x hx), B.returns, (name_of_methodNamed B.named B.method).1, fun w hw => hts w (List.mem_cons_of_mem _ hw), hU, Nat.le_refl _, Nat.le_refl _⟩
  subst hH
  rw [lg_entry_eq]
  exact k p e (rmK d c s) st m as.toArray below meth co _ [] 0 0 hC ⟨LH_entry he, by
    have := (LH_entry he).1
    rw [← this]
    simp
    omega⟩ va_S.rf (Nat.le_of_eq (Nat.zero_add c)) (Nat.le_of_eq (Nat.zero_add s))
theorem startH {as : List Value} {h0 : Nat × Nat × Nat × Nat} {hr : List (Nat × Nat × Nat × Nat)} (hh : K.2.2.2.2 = h0 :: hr) (hy : plainName K.1.cls = true) (he : (lg_sl as).length ≤ K.2.2.1) (k : V G K d c s Q X 0 (entL K.2.2.1 as) [] H) : Call G K d c s as H Q X := by
  have hw : hdK K :: Tb = Cond.codeWith K.1 K.2.1 K.2.2.1 K.2.2.2.1 K.2.2.2.2 :: Tb := by unfold hdK; rw [hh]
  refine vx_ofWH (cc := K.2.1) (maxL := K.2.2.1) (ret := K.2.2.2.1) (hh := K.2.2.2.2) hy hw ?_
  intro p e st m args below meth co s1 B hml hv
  obtain ⟨rfl, hH, hU⟩ := hv
  have hts := atoms_spec (ws := hdK K :: Tb) B.pre
  have hw1 : Cond.codeWith K.1 K.2.1 K.2.2.1 K.2.2.2.1 K.2.2.2.2 ∈ hdK K :: Tb := by rw [hw]; exact List.mem_cons_self
  have htb : co.exceptionTable.toList = tableOf K.2.2.2.2 := vx_table (x := K.1) B (hts _ hw1)
  have hC : Cx G K d p e (rmK d c s) st m as.toArray below meth co := ⟨B.exec, B.bytes, hml, findClass_of_methodNamed B.named, B.notSynchronized, htb, B.returns, (name_of_methodNamed B.named B.method).1, fun w hw => hts w (List.mem_cons_of_mem _ hw), hU, Nat.le_refl _, Nat.le_refl _⟩
  subst hH
  rw [lg_entry_eq]
  exact k p e (rmK d c s) st m as.toArray below meth co _ [] 0 0 hC ⟨LH_entry he, by
    have := (LH_entry he).1
    rw [← this]
    simp
    omega⟩ va_S.rf (Nat.le_of_eq (Nat.zero_add c)) (Nat.le_of_eq (Nat.zero_add s))
-- ===== calls =====
/-- the call at pc, with this stack, of K' at these arguments, out of a contract -/
def RunsTo (G : GT) (K : MT) (pc : Nat) (stk rest : List Value) (K' : MT) (as : List Value) (H : Heap) : Prop :=
  ∀ (d c s d' c' s' : Nat) (Q' : Option Value → Heap → Prop) (X' : String → Heap → Prop), Call G K' d' c' s' as H Q' X' → d' + 1 ≤ d → c' ≤ c → s' ≤ s →
  ∀ (p : Program) (e : Env) (R : Room) (st : State) (m : MethodId) (args : Array Value) (below : List Frame) (meth : Method) (co : Code) (ls : Array Slot) (locs : List Loc) (ce sl : Nat),
    Cx G K d p e R st m args below meth co → ls.size = K.2.2.1 → va_S (gF G) st.heap H locs → ce + c ≤ R.cells → sl + s ≤ R.slots →
    vx_Run p (gL G) e R st m args below meth co H locs ce sl c' s' (F0 m pc ls stk) rest (Qr G Q' as.toArray) (Xr G X') (gF G)
theorem KU.next {p : Program} {e : Env} {R : Room} {st U : State} {m : MethodId} {args : Array Value} {below : List Frame} {meth : Method} {co : Code} {locs : List Loc} (hC : Cx G K d p e R st m args below meth co) (hS : va_S (gF G) st.heap H locs) (hU : U.heap = H) (hW : st.WarmedH U.vm) : KU G U := by
  obtain ⟨h1, h2, h3⟩ := hC.ku
  refine ⟨h1, h2.trans hW, ?_⟩
  rw [hU]
  exact ⟨Nat.le_trans h3.1 hS.1, fun q g1 g2 => (hS.2.1 q (Nat.lt_of_lt_of_le g1 h3.1) g2).trans (h3.2.1 q g1 g2), fun _ h => by cases h⟩
theorem okTb {ws : List Cond} {st : State} {args : Array Value} (hts : ∀ w ∈ Tb, w.before args st = true) (h : ∀ w ∈ ws, w ∈ Tb) : ∀ w ∈ ws, ∀ (a' : Array Value) (U : State), st.WarmedH U.vm → w.before a' U = true := fun w hw a' U hW => word_at hW (good_of_word (List.mem_filter.mp (h w hw)).2) (hts w (h w hw))
/-- a callee: its words are among the tables' -/
def CE (K' : MT) (n : Nat) : Prop := hdK K' ∈ Tb ∧ Cond.initialized K'.1.cls ∈ Tb ∧ (K'.1.cls ≠ "java/lang/invoke/MethodHandle" ∧ K'.1.cls ≠ "java/lang/invoke/VarHandle") ∧ (parseMethodDescriptor K'.1.desc).map (fun d => d.parameters.length) = some n ∧ K'.2.2.1 ≤ 40
theorem CE.ws {K' : MT} {n : Nat} (h : CE K' n) : ∀ w ∈ hdK K' :: Tb, w ∈ Tb := fun w hw => (List.mem_cons.mp hw).elim (fun z => z ▸ h.1) id
theorem CE.ar {K' : MT} {n : Nat} (h : CE K' n) : ∀ sig, parseMethodDescriptor K'.1.desc = some sig → n = sig.parameters.length := fun sig hs => by
  have h1 := h.2.2.2.1
  rw [hs] at h1
  exact (Option.some.inj h1).symm
theorem lo_ok {d' n : Nat} {K' : MT} {R : Room} (h : CE K' n) (h1 : d' + 1 ≤ d) (hl : 64 * d ≤ R.locals) : 8 + (K'.2.2.1 + 11) + 64 * d' ≤ R.locals := by
  have := h.2.2.2.2
  omega
theorem ro.cell {p : Program} {e : Env} {R : Room} {st : State} {m : MethodId} {args : Array Value} {below : List Frame} {meth : Method} {co : Code} {b ci : Nat} {fs : List Value} {C : String} (hC : Cx G K d p e R st m args below meth co) (h : ro G H b ci fs) (hci : ∃ q : vw_C, vwCl[ci]? = some q ∧ q.1 = C) : ∃ cell : Cell, H[b]? = some cell ∧ cell.vm.isStatics = false ∧ st.vm.findClass C = some cell.cls := by
  obtain ⟨q, h1, rfl⟩ := hci
  obtain ⟨r, cell, r1, r2, r3, r4, r5, r6⟩ := h
  cases h1.symm.trans r1
  exact ⟨cell, r2, r5, by rw [r3]; exact (hC.k.1 ci _ h1).2.1⟩
theorem runV {K2 : MT} {C : String} {idx n b ci : Nat} {fs As : List Value} (hd : decode K.2.1 pc = .ok (.invokevirtual idx, 3)) (hce : CE K2 n) (hh : K2.2.2.2.2 = []) (hl : Cond.methodLink K.1.cls idx K2.1 ∈ Tb) (hin : Cond.instanceMethod K2.1 ∈ Tb) (hse : Cond.selects C K2.1 K2.1 ∈ Tb) (hr : ro G H b ci fs) (hci : ∃ q : vw_C, vwCl[ci]? = some q ∧ q.1 = C) (hn : As.length = n) (h8 : (rest.map fun v => v.category).sum ≤ 8) : RunsTo G K pc (As.reverse ++ .ref b :: rest) rest K2 (.ref b :: As) H := by
  intro d c s d2 c2 s2 Q2 X2 hM h1 h2 h3 p e R st m args below meth co ls locs ce sl hC hls hS hc hs
  have hcw : Cond.code K2.1 K2.2.1 K2.2.2.1 K2.2.2.2.1 ∈ Tb := by have := hce.1; unfold hdK at this; rw [hh] at this; exact this
  have hcm : Cond.code K2.1 K2.2.1 K2.2.2.1 K2.2.2.2.1 ∈ hdK K2 :: Tb := List.mem_cons_of_mem _ hcw
  exact vx_runV (Ts := Tb) (C := C) (As := As) (rest := rest) (g := F0 m pc ls (As.reverse ++ .ref b :: rest)) ⟨hC.1, hC.2.1, hC.2.2.1, hC.own, hC.w⟩ hM ⟨⟨rfl, rfl, Nat.le_trans h1 hC.fr, lo_ok hce h1 hC.lo, okTb hC.w hce.ws, hcm, hC.w _ hcw, hC.w _ hce.2.1, hce.2.2.1, hce.ar, hC.w _ hl⟩, hC.w _ hin, hC.w _ hse⟩ ⟨KU.blind, hr.cell hC hci, fun U hU hW => ⟨rfl, hU, KU.next hC hS hU hW⟩⟩ rfl hn hls rfl (by show 2 * 0 + _ ≤ 8; omega) hd ⟨Nat.le_trans (Nat.add_le_add_left h2 ce) hc, Nat.le_trans (Nat.add_le_add_left h3 sl) hs⟩
theorem runS {K2 : MT} {idx n : Nat} {As : List Value} (hd : decode K.2.1 pc = .ok (.invokestatic idx, 3)) (hce : CE K2 n) (hh : K2.2.2.2.2 = []) (hl : Cond.methodLink K.1.cls idx K2.1 ∈ Tb) (hst : Cond.static K2.1 ∈ Tb) (hn : As.length = n) (h8 : (rest.map fun v => v.category).sum ≤ 8) : RunsTo G K pc (As.reverse ++ rest) rest K2 As H := by
  intro d c s d2 c2 s2 Q2 X2 hM h1 h2 h3 p e R st m args below meth co ls locs ce sl hC hls hS hc hs
  have hcw : Cond.code K2.1 K2.2.1 K2.2.2.1 K2.2.2.2.1 ∈ Tb := by have := hce.1; unfold hdK at this; rw [hh] at this; exact this
  have hcm : Cond.code K2.1 K2.2.1 K2.2.2.1 K2.2.2.2.1 ∈ hdK K2 :: Tb := List.mem_cons_of_mem _ hcw
  exact vx_runS (Ts := Tb) (As := As) (rest := rest) (g := F0 m pc ls (As.reverse ++ rest)) ⟨hC.1, hC.2.1, hC.2.2.1, hC.own, hC.w⟩ hM ⟨⟨rfl, rfl, Nat.le_trans h1 hC.fr, lo_ok hce h1 hC.lo, okTb hC.w hce.ws, hcm, hC.w _ hcw, hC.w _ hce.2.1, hce.2.2.1, hce.ar, hC.w _ hl⟩, hC.w _ hst⟩ ⟨KU.blind, fun U hU hW => ⟨rfl, hU, KU.next hC hS hU hW⟩⟩ rfl hn hls rfl (by show 2 * 0 + _ ≤ 8; omega) hd ⟨Nat.le_trans (Nat.add_le_add_left h2 ce) hc, Nat.le_trans (Nat.add_le_add_left h3 sl) hs⟩
theorem runI {K2 : MT} {idx n b : Nat} {As : List Value} (hd : decode K.2.1 pc = .ok (.invokespecial idx, 3)) (hce : CE K2 n) (hh : K2.2.2.2.2 = []) (hrn : K2.2.2.2.1 = none) (hnm : K2.1.name = "<init>") (hl : Cond.methodLink K.1.cls idx K2.1 ∈ Tb) (hin : Cond.instanceMethod K2.1 ∈ Tb) (hn : As.length = n) (h8 : (rest.map fun v => v.category).sum ≤ 8) : RunsTo G K pc (As.reverse ++ .ref b :: rest) rest K2 (.ref b :: As) H := by
  intro d c s d2 c2 s2 Q2 X2 hM h1 h2 h3 p e R st m args below meth co ls locs ce sl hC hls hS hc hs
  have hcw : Cond.code K2.1 K2.2.1 K2.2.2.1 K2.2.2.2.1 ∈ Tb := by have := hce.1; unfold hdK at this; rw [hh] at this; exact this
  have hcm : Cond.code K2.1 K2.2.1 K2.2.2.1 K2.2.2.2.1 ∈ hdK K2 :: Tb := List.mem_cons_of_mem _ hcw
  rw [hrn] at hcw hcm
  exact vx_runI (Ts := Tb) (As := As) (rest := rest) (g := F0 m pc ls (As.reverse ++ .ref b :: rest)) ⟨hC.1, hC.2.1, hC.2.2.1, hC.own, hC.w⟩ hM ⟨⟨rfl, rfl, Nat.le_trans h1 hC.fr, lo_ok hce h1 hC.lo, okTb hC.w hce.ws, hcm, hC.w _ hcw, hC.w _ hce.2.1, hce.2.2.1, hce.ar, hC.w _ hl⟩, hnm, hC.w _ hin⟩ ⟨KU.blind, fun U hU hW => ⟨rfl, hU, KU.next hC hS hU hW⟩⟩ rfl hn hls rfl (by show 2 * 0 + _ ≤ 8; omega) hd ⟨Nat.le_trans (Nat.add_le_add_left h2 ce) hc, Nat.le_trans (Nat.add_le_add_left h3 sl) hs⟩
theorem runIN {K2 : MT} {host : String} {idx n b : Nat} {As : List Value} (hd : decode K.2.1 pc = .ok (.invokespecial idx, 3)) (hce : CE K2 n) (hh : K2.2.2.2.2 = []) (hrn : K2.2.2.2.1 = none) (hnm : K2.1.name = "<init>") (hl : Cond.methodLinkNest K.1.cls idx K2.1 host ∈ Tc) (hin : Cond.instanceMethod K2.1 ∈ Tb) (hn : As.length = n) (h8 : (rest.map fun v => v.category).sum ≤ 8) : RunsTo G K pc (As.reverse ++ .ref b :: rest) rest K2 (.ref b :: As) H := by
  intro d c s d2 c2 s2 Q2 X2 hM h1 h2 h3 p e R st m args below meth co ls locs ce sl hC hls hS hc hs
  have hcw : Cond.code K2.1 K2.2.1 K2.2.2.1 K2.2.2.2.1 ∈ Tb := by have := hce.1; unfold hdK at this; rw [hh] at this; exact this
  have hcm : Cond.code K2.1 K2.2.1 K2.2.2.1 K2.2.2.2.1 ∈ hdK K2 :: Tb := List.mem_cons_of_mem _ hcw
  rw [hrn] at hcw hcm
  exact vx_runIN (Ts := Tb) (As := As) (rest := rest) (g := F0 m pc ls (As.reverse ++ .ref b :: rest)) ⟨hC.1, hC.2.1, hC.2.2.1, hC.own, hC.w⟩ hM ⟨⟨⟨rfl, rfl, Nat.le_trans h1 hC.fr, lo_ok hce h1 hC.lo, okTb hC.w hce.ws, hcm⟩, hC.w _ hcw, hC.w _ hce.2.1, hce.2.2.1, hce.ar, hC.tc _ hl⟩, hnm, hC.w _ hin⟩ ⟨KU.blind, fun U hU hW => ⟨rfl, hU, KU.next hC hS hU hW⟩⟩ rfl hn hls rfl (by show 2 * 0 + _ ≤ 8; omega) hd ⟨Nat.le_trans (Nat.add_le_add_left h2 ce) hc, Nat.le_trans (Nat.add_le_add_left h3 sl) hs⟩
theorem runSN {K2 : MT} {host : String} {idx n : Nat} {As : List Value} (hd : decode K.2.1 pc = .ok (.invokestatic idx, 3)) (hce : CE K2 n) (hh : K2.2.2.2.2 = []) (hl : Cond.methodLinkNest K.1.cls idx K2.1 host ∈ Tc) (hst : Cond.static K2.1 ∈ Tb) (hn : As.length = n) (h8 : (rest.map fun v => v.category).sum ≤ 8) : RunsTo G K pc (As.reverse ++ rest) rest K2 As H := by
  intro d c s d2 c2 s2 Q2 X2 hM h1 h2 h3 p e R st m args below meth co ls locs ce sl hC hls hS hc hs
  have hcw : Cond.code K2.1 K2.2.1 K2.2.2.1 K2.2.2.2.1 ∈ Tb := by have := hce.1; unfold hdK at this; rw [hh] at this; exact this
  have hcm : Cond.code K2.1 K2.2.1 K2.2.2.1 K2.2.2.2.1 ∈ hdK K2 :: Tb := List.mem_cons_of_mem _ hcw
  exact vx_runSN (Ts := Tb) (As := As) (rest := rest) (g := F0 m pc ls (As.reverse ++ rest)) ⟨hC.1, hC.2.1, hC.2.2.1, hC.own, hC.w⟩ hM ⟨⟨⟨rfl, rfl, Nat.le_trans h1 hC.fr, lo_ok hce h1 hC.lo, okTb hC.w hce.ws, hcm⟩, hC.w _ hcw, hC.w _ hce.2.1, hce.2.2.1, hce.ar, hC.tc _ hl⟩, hC.w _ hst, trivial⟩ ⟨KU.blind, fun U hU hW => ⟨rfl, hU, KU.next hC hS hU hW⟩⟩ rfl hn hls rfl (by show 2 * 0 + _ ≤ 8; omega) hd ⟨Nat.le_trans (Nat.add_le_add_left h2 ce) hc, Nat.le_trans (Nat.add_le_add_left h3 sl) hs⟩
theorem runSX {K2 : MT} {h0 : Nat × Nat × Nat × Nat} {hr : List (Nat × Nat × Nat × Nat)} {idx n : Nat} {As : List Value} (hd : decode K.2.1 pc = .ok (.invokestatic idx, 3)) (hce : CE K2 n) (hh : K2.2.2.2.2 = h0 :: hr) (hl : Cond.methodLink K.1.cls idx K2.1 ∈ Tb) (hst : Cond.static K2.1 ∈ Tb) (hn : As.length = n) (h8 : (rest.map fun v => v.category).sum ≤ 8) : RunsTo G K pc (As.reverse ++ rest) rest K2 As H := by
  intro d c s d2 c2 s2 Q2 X2 hM h1 h2 h3 p e R st m args below meth co ls locs ce sl hC hls hS hc hs
  have hcw : Cond.codeWith K2.1 K2.2.1 K2.2.2.1 K2.2.2.2.1 K2.2.2.2.2 ∈ Tb := by have := hce.1; unfold hdK at this; rw [hh] at this; rw [hh]; exact this
  exact vx_runSX (Ts := Tb) (As := As) (rest := rest) (g := F0 m pc ls (As.reverse ++ rest)) ⟨hC.1, hC.2.1, hC.2.2.1, hC.own, hC.w⟩ hM ⟨⟨rfl, rfl, Nat.le_trans h1 hC.fr, lo_ok hce h1 hC.lo, okTb hC.w hce.ws, List.mem_cons_of_mem _ hcw⟩, hC.w _ hcw, hC.w _ hce.2.1, hce.2.2.1, hce.ar, hC.w _ hl, hC.w _ hst⟩ ⟨KU.blind, fun U hU hW => ⟨rfl, hU, KU.next hC hS hU hW⟩⟩ rfl hn hls rfl (by show 2 * 0 + _ ≤ 8; omega) hd ⟨Nat.le_trans (Nat.add_le_add_left h2 ce) hc, Nat.le_trans (Nat.add_le_add_left h3 sl) hs⟩
theorem runSU {K2 : MT} {C : String} {idx n b ci : Nat} {fs As : List Value} (hd : decode K.2.1 pc = .ok (.invokespecial idx, 3)) (hce : CE K2 n) (hh : K2.2.2.2.2 = []) (hl : Cond.methodLink K.1.cls idx K2.1 ∈ Tb) (hsm : Cond.sameMethod K2.1.cls K2.1.cls K2.1.name K2.1.desc ∈ Tb) (hsu : Cond.superclass K.1.cls K2.1.cls ∈ Tb) (hin : Cond.instanceMethod K2.1 ∈ Tb) (hnm : K2.1.name ≠ "<init>") (hr : ro G H b ci fs) (hci : ∃ q : vw_C, vwCl[ci]? = some q ∧ q.1 = C) (hn : As.length = n) (h8 : (rest.map fun v => v.category).sum ≤ 8) : RunsTo G K pc (As.reverse ++ .ref b :: rest) rest K2 (.ref b :: As) H := by
  intro d c s d2 c2 s2 Q2 X2 hM h1 h2 h3 p e R st m args below meth co ls locs ce sl hC hls hS hc hs
  have hcw : Cond.code K2.1 K2.2.1 K2.2.2.1 K2.2.2.2.1 ∈ Tb := by have := hce.1; unfold hdK at this; rw [hh] at this; exact this
  have hcm : Cond.code K2.1 K2.2.1 K2.2.2.1 K2.2.2.2.1 ∈ hdK K2 :: Tb := List.mem_cons_of_mem _ hcw
  obtain ⟨q, hq, hqC⟩ := hci
  have hat : ClassAt st C ((gD G).1 ci) := hqC ▸ (hC.k.1 ci _ hq).2
  exact vx_runSU (Ts := Tb) (C := C) (As := As) (rest := rest) (g := F0 m pc ls (As.reverse ++ .ref b :: rest)) hat ⟨hC.1, hC.2.1, hC.2.2.1, hC.own, hC.w⟩ hM ⟨⟨rfl, rfl, Nat.le_trans h1 hC.fr, lo_ok hce h1 hC.lo, okTb hC.w hce.ws, hcm⟩, hC.w _ hl, hC.w _ hsm, hC.w _ hsu, hC.w _ hin, hC.w _ hce.2.1, hC.w _ hcw, hnm, hce.ar⟩ ⟨KU.blind, hr.cell hC ⟨q, hq, hqC⟩, fun U hU hW => ⟨rfl, hU, KU.next hC hS hU hW⟩⟩ rfl hn hls rfl (by show 2 * 0 + _ ≤ 8; omega) hd ⟨Nat.le_trans (Nat.add_le_add_left h2 ce) hc, Nat.le_trans (Nat.add_le_add_left h3 sl) hs⟩
/-- what comes behind a call -/
theorem V_run {K2 : MT} {as stk rest : List Value} {d2 c2 s2 : Nat} {Q2 : Option Value → Heap → Prop} {X2 : String → Heap → Prop} (hr : RunsTo G K pc stk rest K2 as H) (h1 : d2 + 1 ≤ d) (h2 : c2 ≤ c) (h3 : s2 ≤ s) (hM : Call G K2 d2 c2 s2 as H Q2 X2)
    (hq : ∀ (v : Option Value) (H1 : Heap), Q2 v H1 → V G K d (c - c2) (s - s2) Q X (pc + 3) L (v.toList ++ rest) H1) (hx : ∀ (E : String) (H1 : Heap), X2 E H1 → VX G K d (c - c2) (s - s2) Q X pc L E H1) : V G K d c s Q X pc L stk H := by
  intro p e R st m args below meth co ls locs ce sl hC hl hS hc hs
  have hrun := hr d c s d2 c2 s2 Q2 X2 hM h1 h2 h3 p e R st m args below meth co ls locs ce sl hC (hl.1.1.trans hl.2) hS hc hs
  have nextS : ∀ {st0 t T2 : State} {Ls : List Loc}, st0.heap = H → T2.heap = t.heap → (∀ q ∈ Ls, gF G q.base) → va_F (gF G) st0 t → va_S (gF G) st.heap T2.heap (locs ++ Ls) := by
    intro st0 t T2 Ls e0 e1 hL hF
    refine ⟨Nat.le_trans hS.1 (by rw [e1, ← e0]; exact hF.1), fun q g1 g2 => ?_, fun q hq => (List.mem_append.mp hq).elim (hS.2.2 q) (hL q)⟩
    rw [e1, hF.2 q (by rw [e0]; exact Nat.lt_of_lt_of_le g1 hS.1) g2, e0]
    exact hS.2.1 q g1 g2
  intro T hT X0
  rcases hrun T hT X0 with ⟨v, st0, t, T2, Ls, e0, X2', hL, e1, e2, ⟨v', hv, hQ, hF⟩, go⟩ | ⟨q, st0, t, T2, Ls, E, cell, e0, X2', hL, e1, e2, ⟨hX, hF⟩, hcell, hcv, hcl, go⟩
  · cases hv
    obtain ⟨t2, a1, b1⟩ := hq v T2.heap (e1 ▸ hQ) p e R st m args below meth co ls (locs ++ Ls) (ce + c2) (sl + s2) hC hl (nextS e0 e1 hL hF) (by omega) (by omega) T2 rfl X2'
    exact ⟨t2, go t2 a1, b1⟩
  · obtain ⟨t2, a1, b1⟩ := hx E T2.heap (e1 ▸ hX) p e R st m args below meth co ls (locs ++ Ls) (ce + c2) (sl + s2) rest q cell hC hl (nextS e0 e1 hL hF) (by omega) (by omega) (by rw [e1]; exact hcell) hcv hcl T2 rfl X2'
    exact ⟨t2, go.trans a1, b1⟩
theorem VX_out {E : String} (hh : K.2.2.2.2 = []) (hx : X E H) : VX G K d c s Q X pc L E H := by
  intro p e R st m args below meth co ls locs ce sl rest q cell hC hl hS hc hs h1 h2 h3
  refine vx_out (fun x hx => ?_) hC.locks h1 h2 h3 (fun t ht _ => ⟨by rw [ht]; exact hx, hS.F ht⟩) hS.2.2 (by omega) (by omega)
  rw [hC.tab, hh] at hx
  cases hx
def qi (F : Int32 → Heap → Prop) : Option Value → Heap → Prop := fun v H => ∃ r : Int32, v = some (.int r) ∧ F r H
def ql (F : Int64 → Heap → Prop) : Option Value → Heap → Prop := fun v H => ∃ r : Int64, v = some (.long r) ∧ F r H
def qf (F : UInt32 → Heap → Prop) : Option Value → Heap → Prop := fun v H => ∃ r : UInt32, v = some (.float r) ∧ F r H
def qd (F : UInt64 → Heap → Prop) : Option Value → Heap → Prop := fun v H => ∃ r : UInt64, v = some (.double r) ∧ F r H
def qa (F : Nat → Heap → Prop) : Option Value → Heap → Prop := fun v H => ∃ r : Nat, v = some (.ref r) ∧ F r H
def qv (F : Heap → Prop) : Option Value → Heap → Prop := fun v H => v = none ∧ F H
theorem V_call_i {K2 : MT} {as stk rest : List Value} {d2 c2 s2 : Nat} (hr : RunsTo G K pc stk rest K2 as H) (h1 : d2 + 1 ≤ d) (h2 : c2 ≤ c) (h3 : s2 ≤ s) (hM : Call G K2 d2 c2 s2 as H (qi fun r H1 => V G K d (c - c2) (s - s2) Q X (pc + 3) L (.int r :: rest) H1) (fun E H1 => VX G K d (c - c2) (s - s2) Q X pc L E H1)) : V G K d c s Q X pc L stk H :=
  V_run hr h1 h2 h3 hM (fun v H1 h => by obtain ⟨r, rfl, h⟩ := h; exact h) (fun _ _ h => h)
theorem V_call_l {K2 : MT} {as stk rest : List Value} {d2 c2 s2 : Nat} (hr : RunsTo G K pc stk rest K2 as H) (h1 : d2 + 1 ≤ d) (h2 : c2 ≤ c) (h3 : s2 ≤ s) (hM : Call G K2 d2 c2 s2 as H (ql fun r H1 => V G K d (c - c2) (s - s2) Q X (pc + 3) L (.long r :: rest) H1) (fun E H1 => VX G K d (c - c2) (s - s2) Q X pc L E H1)) : V G K d c s Q X pc L stk H :=
  V_run hr h1 h2 h3 hM (fun v H1 h => by obtain ⟨r, rfl, h⟩ := h; exact h) (fun _ _ h => h)
theorem V_call_f {K2 : MT} {as stk rest : List Value} {d2 c2 s2 : Nat} (hr : RunsTo G K pc stk rest K2 as H) (h1 : d2 + 1 ≤ d) (h2 : c2 ≤ c) (h3 : s2 ≤ s) (hM : Call G K2 d2 c2 s2 as H (qf fun r H1 => V G K d (c - c2) (s - s2) Q X (pc + 3) L (.float r :: rest) H1) (fun E H1 => VX G K d (c - c2) (s - s2) Q X pc L E H1)) : V G K d c s Q X pc L stk H :=
  V_run hr h1 h2 h3 hM (fun v H1 h => by obtain ⟨r, rfl, h⟩ := h; exact h) (fun _ _ h => h)
theorem V_call_d {K2 : MT} {as stk rest : List Value} {d2 c2 s2 : Nat} (hr : RunsTo G K pc stk rest K2 as H) (h1 : d2 + 1 ≤ d) (h2 : c2 ≤ c) (h3 : s2 ≤ s) (hM : Call G K2 d2 c2 s2 as H (qd fun r H1 => V G K d (c - c2) (s - s2) Q X (pc + 3) L (.double r :: rest) H1) (fun E H1 => VX G K d (c - c2) (s - s2) Q X pc L E H1)) : V G K d c s Q X pc L stk H :=
  V_run hr h1 h2 h3 hM (fun v H1 h => by obtain ⟨r, rfl, h⟩ := h; exact h) (fun _ _ h => h)
theorem V_call_a {K2 : MT} {as stk rest : List Value} {d2 c2 s2 : Nat} (hr : RunsTo G K pc stk rest K2 as H) (h1 : d2 + 1 ≤ d) (h2 : c2 ≤ c) (h3 : s2 ≤ s) (hM : Call G K2 d2 c2 s2 as H (qa fun r H1 => V G K d (c - c2) (s - s2) Q X (pc + 3) L (.ref r :: rest) H1) (fun E H1 => VX G K d (c - c2) (s - s2) Q X pc L E H1)) : V G K d c s Q X pc L stk H :=
  V_run hr h1 h2 h3 hM (fun v H1 h => by obtain ⟨r, rfl, h⟩ := h; exact h) (fun _ _ h => h)
theorem V_call_v {K2 : MT} {as stk rest : List Value} {d2 c2 s2 : Nat} (hr : RunsTo G K pc stk rest K2 as H) (h1 : d2 + 1 ≤ d) (h2 : c2 ≤ c) (h3 : s2 ≤ s) (hM : Call G K2 d2 c2 s2 as H (qv fun H1 => V G K d (c - c2) (s - s2) Q X (pc + 3) L rest H1) (fun E H1 => VX G K d (c - c2) (s - s2) Q X pc L E H1)) : V G K d c s Q X pc L stk H :=
  V_run hr h1 h2 h3 hM (fun v H1 h => by obtain ⟨rfl, h⟩ := h; exact h) (fun _ _ h => h)
theorem Call.mono {Q2 : Option Value → Heap → Prop} {X2 : String → Heap → Prop} {as : List Value} (h : Call G K d c s as H Q X) (hq : ∀ v H1, Q v H1 → Q2 v H1) (hx : ∀ E H1, X E H1 → X2 E H1) : Call G K d c s as H Q2 X2 := by
  intro p e ha hc hk st m args below hf hfit hP hT
  obtain ⟨k, o, h1, h2, h3, h4⟩ := h p e ha hc hk st m args below hf hfit hP hT
  refine ⟨k, o, h1, h2, h3, ?_⟩
  rcases h4 with ⟨⟨v, ho, hQ, hF⟩, hL⟩ | ⟨q, ho, E, cell, Ls, ⟨hX, hF⟩, hrest⟩
  · exact Or.inl ⟨⟨v, ho, hq v _ hQ, hF⟩, hL⟩
  · exact Or.inr ⟨q, ho, E, cell, Ls, ⟨hx E _ hX, hF⟩, hrest⟩

end RULES

/-! more rules of V: constants, shifts, switches, floating numbers; writing beside a cell of the same tag -/
section RULES7
variable {G : GT} {K : MT} {d c s : Nat} {Q : Option Value → Heap → Prop} {X : String → Heap → Prop} {H : Heap} {L : List (Option Value)} {rest : List Value} {pc : Nat} {g : Nat → Nat}
theorem V_ldci {idx : Nat} {v : Int32} (hd : decode K.2.1 pc = .ok (.ldc idx, 2)) (hw : Cond.constant K.1.cls idx v ∈ Tb) (k : V G K d c s Q X (pc + 2) L (.int v :: rest) H) : V G K d c s Q X pc L rest H :=
  fun p e R st m args below meth co ls locs ce sl hC hl hS hc hs => lv_ldc hC.1 hC.2.1 hC.own (hC.w _ hw) hd (k p e R st m args below meth co ls locs ce sl hC hl hS hc hs)
theorem V_ldc2l {idx : Nat} {v : Int64} (hd : decode K.2.1 pc = .ok (.ldc2_w idx, 3)) (hw : Cond.constantLong K.1.cls idx v ∈ Tb) (k : V G K d c s Q X (pc + 3) L (.long v :: rest) H) : V G K d c s Q X pc L rest H :=
  fun p e R st m args below meth co ls locs ce sl hC hl hS hc hs => lv_ldc2 hC.1 hC.2.1 hC.own (hC.w _ hw) hd (k p e R st m args below meth co ls locs ce sl hC hl hS hc hs)
theorem V_ldc2d {idx : Nat} {v : UInt64} (hd : decode K.2.1 pc = .ok (.ldc2_w idx, 3)) (hw : Cond.constantDouble K.1.cls idx v ∈ Tb) (k : V G K d c s Q X (pc + 3) L (.double v :: rest) H) : V G K d c s Q X pc L rest H :=
  fun p e R st m args below meth co ls locs ce sl hC hl hS hc hs => lv_ldc2d hC.1 hC.2.1 hC.own (hC.w _ hw) hd (k p e R st m args below meth co ls locs ce sl hC hl hS hc hs)
theorem V_ldcf {idx : Nat} {v : UInt32} (hd : decode K.2.1 pc = .ok (.ldc idx, 2)) (hw : Cond.constantFloat K.1.cls idx v ∈ Tb) (k : V G K d c s Q X (pc + 2) L (.float v :: rest) H) : V G K d c s Q X pc L rest H :=
  fun p e R st m args below meth co ls locs ce sl hC hl hS hc hs => lv_ldcf hC.1 hC.2.1 hC.own (hC.w _ hw) hd (k p e R st m args below meth co ls locs ce sl hC hl hS hc hs)
theorem V_ishl {x y : Int32} (hd : decode K.2.1 pc = .ok (.ishl, 1)) (k : V G K d c s Q X (pc + 1) L (.int (x <<< (y &&& 31)) :: rest) H) : V G K d c s Q X pc L (.int y :: .int x :: rest) H :=
  fun p e R st m args below meth co ls locs ce sl hC hl hS hc hs => lv_ishl hC.1 hC.2.1 hd (k p e R st m args below meth co ls locs ce sl hC hl hS hc hs)
theorem V_ishr {x y : Int32} (hd : decode K.2.1 pc = .ok (.ishr, 1)) (k : V G K d c s Q X (pc + 1) L (.int (x >>> (y &&& 31)) :: rest) H) : V G K d c s Q X pc L (.int y :: .int x :: rest) H :=
  fun p e R st m args below meth co ls locs ce sl hC hl hS hc hs => lv_ishr hC.1 hC.2.1 hd (k p e R st m args below meth co ls locs ce sl hC hl hS hc hs)
theorem V_i2d {x : Int32} (hd : decode K.2.1 pc = .ok (.i2d, 1)) (k : V G K d c s Q X (pc + 1) L (.double (FP.i2d x) :: rest) H) : V G K d c s Q X pc L (.int x :: rest) H :=
  fun p e R st m args below meth co ls locs ce sl hC hl hS hc hs => lv_i2d hC.1 hC.2.1 hd (k p e R st m args below meth co ls locs ce sl hC hl hS hc hs)
theorem V_i2f {x : Int32} (hd : decode K.2.1 pc = .ok (.i2f, 1)) (k : V G K d c s Q X (pc + 1) L (.float (FP.i2f x) :: rest) H) : V G K d c s Q X pc L (.int x :: rest) H :=
  fun p e R st m args below meth co ls locs ce sl hC hl hS hc hs => lv_i2f hC.1 hC.2.1 hd (k p e R st m args below meth co ls locs ce sl hC hl hS hc hs)
theorem V_ddiv {x y : UInt64} (hd : decode K.2.1 pc = .ok (.ddiv, 1)) (hne : vf_n64 (FP.ddiv x y)) (k : V G K d c s Q X (pc + 1) L (.double (FP.ddiv x y) :: rest) H) : V G K d c s Q X pc L (.double y :: .double x :: rest) H :=
  fun p e R st m args below meth co ls locs ce sl hC hl hS hc hs => lv_ddiv hC.1 hC.2.1 hd hne (k p e R st m args below meth co ls locs ce sl hC hl hS hc hs)
theorem V_fdiv {x y : UInt32} (hd : decode K.2.1 pc = .ok (.fdiv, 1)) (hne : vf_n32 (FP.fdiv x y)) (k : V G K d c s Q X (pc + 1) L (.float (FP.fdiv x y) :: rest) H) : V G K d c s Q X pc L (.float y :: .float x :: rest) H :=
  fun p e R st m args below meth co ls locs ce sl hC hl hS hc hs => lv_fdiv hC.1 hC.2.1 hd hne (k p e R st m args below meth co ls locs ce sl hC hl hS hc hs)
theorem V_look {dflt : Int} {ps : Array (Int × Int)} {len : Nat} {x : Int32} {off : Int} {tgt : Nat} (hd : decode K.2.1 pc = .ok (.lookupswitch dflt ps, len)) (hp : (ps.toList.zip (ps.toList.drop 1)).all (fun (a, next) => a.1 < next.1) = true) (ho : Op.lookupswitch.offset ps.toList dflt x.toInt = off) (ht : (pc : Int) + off = (tgt : Int)) (k : V G K d c s Q X tgt L rest H) : V G K d c s Q X pc L (.int x :: rest) H :=
  fun p e R st m args below meth co ls locs ce sl hC hl hS hc hs => lv_lookup hC.1 hC.2.1 hd hp ho ht (k p e R st m args below meth co ls locs ce sl hC hl hS hc hs)
theorem V_tabO {dflt lo hi : Int} {offs : Array Int} {len : Nat} {x : Int32} {tgt : Nat} (hd : decode K.2.1 pc = .ok (.tableswitch dflt lo hi offs, len)) (h : x.toInt < lo ∨ hi < x.toInt) (ht : (pc : Int) + dflt = (tgt : Int)) (k : V G K d c s Q X tgt L rest H) : V G K d c s Q X pc L (.int x :: rest) H :=
  fun p e R st m args below meth co ls locs ce sl hC hl hS hc hs => lv_tableOut hC.1 hC.2.1 hd h ht (k p e R st m args below meth co ls locs ce sl hC hl hS hc hs)
theorem V_tabI {dflt lo hi : Int} {offs : Array Int} {len : Nat} {x : Int32} {off : Int} {tgt : Nat} (hd : decode K.2.1 pc = .ok (.tableswitch dflt lo hi offs, len)) (h1 : ¬ x.toInt < lo) (h2 : ¬ hi < x.toInt) (ho : offs[(x.toInt - lo).toNat]? = some off) (ht : (pc : Int) + off = (tgt : Int)) (k : V G K d c s Q X tgt L rest H) : V G K d c s Q X pc L (.int x :: rest) H :=
  fun p e R st m args below meth co ls locs ce sl hC hl hS hc hs => lv_tableIn hC.1 hC.2.1 hd h1 h2 ho ht (k p e R st m args below meth co ls locs ce sl hC hl hS hc hs)
theorem V_nonnull {x : Nat} {off : Int} {tgt : Nat} (hd : decode K.2.1 pc = .ok (.ifnonnull off, 3)) (ht : (pc : Int) + off = (tgt : Int)) (k : V G K d c s Q X tgt L rest H) : V G K d c s Q X pc L (.ref x :: rest) H :=
  fun p e R st m args below meth co ls locs ce sl hC hl hS hc hs => lv_ifnonnull hC.1 hC.2.1 hd ht (k p e R st m args below meth co ls locs ce sl hC hl hS hc hs)
theorem ob.ne_oa {a b t ci i : Nat} {fs : List Value} {l : List (Option Nat)} {x : Int32} (h : ob G H a ci fs) (h2 : Oa G H g t b l) (hi : i < fs.length) (hv : fs[i]? = some (.int x)) (hl : ∃ q : vw_C, vwCl[ci]? = some q ∧ i < q.2.2) : b ≠ a := by
  rintro rfl
  obtain ⟨r, cell, r1, r2, -, -, -, r6⟩ := h.ro
  obtain ⟨q, q1, q2⟩ := hl
  cases q1.symm.trans r1
  have e1 := r6 i q2
  cases r2.symm.trans h2.1.1.1
  have e2 : vp_V fs i = .int x := by simp [vp_V, List.getD_eq_getElem?_getD, hv]
  rw [e2] at e1
  unfold oa at e1
  rw [vp_cell_q] at e1
  obtain ⟨j, e3⟩ := Array.getElem?_eq_some_iff.mp e1
  simp only [arrV, Array.getElem_ofFn] at e3
  unfold va_rf at e3
  split at e3 <;> cases e3
theorem ob.ne_ia {a b t ci i k y : Nat} {fs : List Value} {l : List Int32} (h : ob G H a ci fs) (h2 : Ia G H g t b k l) (hi : i < fs.length) (hv : fs[i]? = some (.ref y)) (hl : ∃ q : vw_C, vwCl[ci]? = some q ∧ i < q.2.2) : b ≠ a := by
  rintro rfl
  obtain ⟨r, cell, r1, r2, -, -, -, r6⟩ := h.ro
  obtain ⟨q, q1, q2⟩ := hl
  cases q1.symm.trans r1
  have e1 := r6 i q2
  cases r2.symm.trans h2.1.1.1
  have e2 : vp_V fs i = .ref y := by simp [vp_V, List.getD_eq_getElem?_getD, hv]
  rw [e2] at e1
  unfold ia at e1
  rw [vp_cell_i] at e1
  obtain ⟨j, e3⟩ := Array.getElem?_eq_some_iff.mp e1
  simp only [arrV, Array.getElem_ofFn] at e3
  cases e3
/-- a field written; all other cells as they were -/
theorem V_putN {idx ci k : Nat} {ty : FieldType} {fin : Bool} {t a : Nat} {fs fs2 : List Value} {v : Value} (hd : decode K.2.1 pc = .ok (.putfield idx, 3)) (hf : FP K.1 idx ci k ty fin) (h : Ob G H g t a ci fs) (ht : t ≠ 0) (hn : narrow ty v = v ∧ fits ty v = true) (hl0 : k < fs.length) (hfs : fs.set k v = fs2)
    (kk : ∀ H1 : Heap, Ob G H1 g t a ci fs2 → Ext G [t] H g H1 g → (∀ q : Nat, q ≠ a → H1[q]? = H[q]?) → V G K d c s Q X (pc + 3) L rest H1) : V G K d c s Q X pc L (v :: .ref a :: rest) H :=
  V_putf hd hf h.1 (tg_pos (h.2 ▸ ht)) hn hl0 fun H1 h1 hz ho => kk H1 ⟨hfs ▸ h1, h.2⟩ (Ext.put hz ho (h.2 ▸ List.mem_singleton.mpr rfl)) ho
theorem Oa.ne {H1 : Heap} {a b t : Nat} {l : List (Option Nat)} (h : Oa G H g t b l) (hn : b ≠ a) (ho : ∀ q : Nat, q ≠ a → H1[q]? = H[q]?) : Oa G H1 g t b l := ⟨⟨h.1.1.kept (ho b hn), h.1.2⟩, h.2⟩
theorem Ia.ne {H1 : Heap} {a b t k : Nat} {l : List Int32} (h : Ia G H g t b k l) (hn : b ≠ a) (ho : ∀ q : Nat, q ≠ a → H1[q]? = H[q]?) : Ia G H1 g t b k l := ⟨⟨h.1.1.kept (ho b hn), h.1.2⟩, h.2⟩
theorem Ob.ne {H1 : Heap} {a b t ci : Nat} {fs : List Value} (h : Ob G H g t b ci fs) (hn : b ≠ a) (ho : ∀ q : Nat, q ≠ a → H1[q]? = H[q]?) : Ob G H1 g t b ci fs := ⟨h.1.kept (ho b hn), h.2⟩
theorem V_oas2 {t a y : Nat} {l : List (Option Nat)} {i : Int32} (hd : decode K.2.1 pc = .ok (.aastore, 1)) (h : Oa G H g t a l) (ht : t ≠ 0) (hi : vp_in i l.length) (hy : elO G H y)
    (kk : ∀ H1 : Heap, Oa G H1 g t a (l.set i.toNatClampNeg (some y)) → Ext G [t] H g H1 g → (∀ q : Nat, q ≠ a → H1[q]? = H[q]?) → V G K d c s Q X (pc + 1) L rest H1) : V G K d c s Q X pc L (.ref y :: .int i :: .ref a :: rest) H :=
  V_aast hd h.1.1 (tg_pos (h.2 ▸ ht)) hi hy fun H1 h1 hz ho => kk H1 ⟨⟨h1, by rw [List.length_set]; exact h.1.2⟩, h.2⟩ (Ext.put hz ho (h.2 ▸ List.mem_singleton.mpr rfl)) ho
theorem n1 {t u : Nat} (h : u ≠ t) : u ∉ [t] := fun z => h (List.mem_singleton.mp z)
end RULES7
section RULES8
variable {G : GT} {K : MT} {d c s : Nat} {Q : Option Value → Heap → Prop} {X : String → Heap → Prop} {H : Heap} {L : List (Option Value)} {rest : List Value} {pc : Nat} {g : Nat → Nat}
theorem V_int {x y : Int32} (h : x = y) (k : V G K d c s Q X pc L (.int y :: rest) H) : V G K d c s Q X pc L (.int x :: rest) H := h ▸ k
theorem ra.old {a k n : Nat} {f : Nat → Value} (h : ra G (gB G).heap a k n f) (hS : va_S (gF G) (gB G).heap H []) : ra G H a k n f := h.kept (hS.2.1 a h.lt (fun q => Nat.lt_irrefl _ (Nat.lt_of_lt_of_le h.lt q)))
theorem ro.old {a ci : Nat} {fs : List Value} (h : ro G (gB G).heap a ci fs) (hS : va_S (gF G) (gB G).heap H []) : ro G H a ci fs := h.kept (hS.2.1 a h.lt (fun q => Nat.lt_irrefl _ (Nat.lt_of_lt_of_le h.lt q)))
theorem take_set_rs {arr : List (Option Nat)} {rs : List Nat} {r : Nat} (h : arr.take rs.length = rs.map some) (hl : rs.length < arr.length) : (arr.set rs.length (some r)).take (rs ++ [r]).length = (rs ++ [r]).map some := by
  rw [List.length_append, List.length_singleton, List.map_append, ← h]
  apply List.ext_getElem?
  intro i
  simp only [List.getElem?_take, List.getElem?_append, List.length_take, List.getElem?_set]
  have hm : min rs.length arr.length = rs.length := Nat.min_eq_left (Nat.le_of_lt hl)
  rw [hm]
  by_cases h1 : i < rs.length
  · have : ¬ rs.length = i := by omega
    simp [h1, this, Nat.lt_succ_of_lt h1]
  · by_cases h2 : i = rs.length
    · subst h2; simp [hl]
    · have e1 : ¬ i < rs.length + 1 := by omega
      have e2 : 0 < i - rs.length := by omega
      obtain ⟨k, hk⟩ : ∃ k, i - rs.length = k + 1 := ⟨i - rs.length - 1, by omega⟩
      simp [h1, e1, hk]
end RULES8
section RULES9
variable {G : GT} {K : MT} {d c s : Nat} {Q : Option Value → Heap → Prop} {X : String → Heap → Prop} {H : Heap} {L : List (Option Value)} {rest : List Value} {pc : Nat} {g : Nat → Nat}
theorem V_cpI2 {idx b a k t n0 : Nat} {m l : List Int32} {sp dp n : Int32} (hd : decode K.2.1 pc = .ok (.invokestatic idx, 3)) (hl : Cond.methodLink K.1.cls idx arraycopyName ∈ Tb) (w1 : Cond.native arraycopyName ∈ Tb) (w2 : Cond.static arraycopyName ∈ Tb) (w3 : Cond.initialized "java/lang/System" ∈ Tb)
    (hdd : 1 ≤ d) (h8 : (rest.map fun v => v.category).sum ≤ 8) (hb : ra G H b k n0 (iv m)) (ha : Ia G H g t a k l) (ht : t ≠ 0) (hk : k < 5)
    (h1 : ¬ sp < 0) (h2 : ¬ dp < 0) (h3 : ¬ n < 0) (h4 : sp.toNatClampNeg + n.toNatClampNeg ≤ n0) (h5 : dp.toNatClampNeg + n.toNatClampNeg ≤ l.length)
    (hfit : ∀ i, i < n.toNatClampNeg → fits (tyK k) (.int (m.getD (sp.toNatClampNeg + i) 0)) = true)
    (kk : ∀ H1 : Heap, Ia G H1 g t a k (layI m l sp.toNatClampNeg dp.toNatClampNeg n.toNatClampNeg) → (∀ q : Nat, q ≠ a → H1[q]? = H[q]?) → H1.size = H.size → V G K d c s Q X (pc + 3) L rest H1) : V G K d c s Q X pc L (.int n :: .int dp :: .ref a :: .int sp :: .ref b :: rest) H := by
  refine V_copy (n1 := l.length) (f1 := fun j => .int (l.getD j 0)) hd hl w1 w2 w3 hdd h8 hb (ha.1.1.1.trans (by unfold ia; rw [vp_cell_i])) ha.1.1.2 (tg_pos (ha.2 ▸ ht)) (by omega) h1 h2 h3 h4 h5 (fun i hi => ⟨hfit i hi, fun y hy => by cases hy⟩) fun H1 e1 z oq => ?_
  exact kk H1 ⟨⟨⟨by rw [e1, layI_cell], ha.1.1.2⟩, by rw [layI_len]; exact ha.1.2⟩, ha.2⟩ oq z
theorem V_cpO2 {idx b a t n0 : Nat} {m l : List (Option Nat)} {sp dp n : Int32} (hd : decode K.2.1 pc = .ok (.invokestatic idx, 3)) (hl : Cond.methodLink K.1.cls idx arraycopyName ∈ Tb) (w1 : Cond.native arraycopyName ∈ Tb) (w2 : Cond.static arraycopyName ∈ Tb) (w3 : Cond.initialized "java/lang/System" ∈ Tb)
    (hdd : 1 ≤ d) (h8 : (rest.map fun v => v.category).sum ≤ 8) (hb : ra G H b 5 n0 (ov m)) (ha : Oa G H g t a l) (ht : t ≠ 0)
    (h1 : ¬ sp < 0) (h2 : ¬ dp < 0) (h3 : ¬ n < 0) (h4 : sp.toNatClampNeg + n.toNatClampNeg ≤ n0) (h5 : dp.toNatClampNeg + n.toNatClampNeg ≤ l.length)
    (hel : ∀ i y, i < n.toNatClampNeg → m.getD (sp.toNatClampNeg + i) none = some y → elO G H y)
    (kk : ∀ H1 : Heap, Oa G H1 g t a (layO m l sp.toNatClampNeg dp.toNatClampNeg n.toNatClampNeg) → (∀ q : Nat, q ≠ a → H1[q]? = H[q]?) → H1.size = H.size → V G K d c s Q X (pc + 3) L rest H1) : V G K d c s Q X pc L (.int n :: .int dp :: .ref a :: .int sp :: .ref b :: rest) H := by
  refine V_copy (n1 := l.length) (f1 := fun j => va_rf (l.getD j none)) hd hl w1 w2 w3 hdd h8 hb (ha.1.1.1.trans (by unfold oa; rw [vp_cell_q])) ha.1.1.2 (tg_pos (ha.2 ▸ ht)) (by decide) h1 h2 h3 h4 h5 (fun i hi => ?_) fun H1 e1 z oq => ?_
  · unfold ov
    cases hv : m.getD (sp.toNatClampNeg + i) none with
    | none => exact ⟨rfl, fun y hy => by cases hy⟩
    | some y => exact ⟨rfl, fun y2 hy => by cases hy; exact ⟨rfl, hel i y hi hv⟩⟩
  · exact kk H1 ⟨⟨⟨by rw [e1, layO_cell], ha.1.1.2⟩, by rw [layO_len]; exact ha.1.2⟩, ha.2⟩ oq z
theorem V_castA {idx a t : Nat} {l : List (Option Nat)} (hd : decode K.2.1 pc = .ok (.checkcast idx, 3)) (hl : Cond.classLink K.1.cls idx "[Ljava/lang/Object;" ∈ Tb) (h : Oa G H g t a l) (k : V G K d c s Q X (pc + 3) L (.ref a :: rest) H) : V G K d c s Q X pc L (.ref a :: rest) H := by
  intro p e R st m args below meth co ls locs ce sl hC hl2 hS hc hs
  obtain ⟨kA, comp, -, -, -, r4⟩ := (hC.k.2 5 (gT G 5, .object "java/lang/Object") rfl).2
  exact va_castA hC.1 hC.2.1 hC.own (hC.w _ hl) (vP1 (D := gD G) (cl := vwCl) (q := (a, .inl (gT G 5, oa l))) h.1.1.1) 0 rfl r4 hd (k p e R st m args below meth co ls locs ce sl hC hl2 hS hc hs)
theorem elO.ext {H1 : Heap} {g1 : Nat → Nat} {y : Nat} (h : elO G H y) (e : Ext G [] H g H1 g1) : elO G H1 y := by
  obtain ⟨ci, q, fs, h1, h2, h3⟩ := h
  exact ⟨ci, q, fs, h1, h2, h3.kept (e.2 y h3.lt (by simp)).1⟩
theorem Ext.new {H1 H2 : Heap} {g1 : Nat → Nat} {ts : List Nat} {a : Nat} (e : Ext G ts H g H1 g1) (ha : H.size ≤ a) (ho : ∀ q : Nat, q ≠ a → H2[q]? = H1[q]?) (hz : H2.size = H1.size) : Ext G ts H g H2 g1 :=
  ⟨by rw [hz]; exact e.1, fun q hq ht => ⟨(ho q (by omega)).trans (e.2 q hq ht).1, (e.2 q hq ht).2⟩⟩
theorem imin_nI {a b : Nat} (ha : a < 2 ^ 31) (hb : b < 2 ^ 31) : imin (nI a) (nI b) = nI (min a b) := by
  unfold imin
  by_cases h : b < a
  · rw [if_pos ((nI_ltI hb ha).mpr h), Nat.min_eq_right (Nat.le_of_lt h)]
  · rw [if_neg (fun q => h ((nI_ltI hb ha).mp q)), Nat.min_eq_left (Nat.not_lt.mp h)]
theorem imax_nI {a b : Nat} (ha : a < 2 ^ 31) (hb : b < 2 ^ 31) : imax (nI a) (nI b) = nI (max a b) := by
  unfold imax
  by_cases h : a < b
  · rw [if_pos ((nI_ltI ha hb).mpr h), Nat.max_eq_right (Nat.le_of_lt h)]
  · rw [if_neg (fun q => h ((nI_ltI ha hb).mp q)), Nat.max_eq_left (Nat.not_lt.mp h)]
theorem layO_take {l m : List (Option Nat)} {n : Nat} (hn : n = l.length) (hm : n ≤ m.length) : (layO l m 0 0 n).take n = l := by
  subst hn
  apply List.ext_getElem?
  intro i
  unfold layO
  by_cases h : i < l.length
  · rw [List.getElem?_take, if_pos h, List.getElem?_map, List.getElem?_range (by omega)]
    simp [h, List.getD_eq_getElem?_getD]
  · rw [List.getElem?_take, if_neg h, List.getElem?_eq_none (by omega)]
end RULES9

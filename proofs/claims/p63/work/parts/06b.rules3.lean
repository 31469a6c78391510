/-! natives and rows of references -/
theorem v6_cases (G : GT) : v6 G = .null ∨ ∃ x : Nat, v6 G = .ref x := by
  unfold v6
  split
  · exact Or.inl rfl
  · exact Or.inr ⟨_, rfl⟩
section RULES6
variable {G : GT} {K : MT} {d c s : Nat} {Q : Option Value → Heap → Prop} {X : String → Heap → Prop} {H : Heap} {L : List (Option Value)} {rest : List Value} {pc : Nat} {g : Nat → Nat}
theorem nn_i {z : Int32} (hz : ¬ z < 0) : z.toInt = (z.toNatClampNeg : Int) := by
  have hz0 : (0 : Int) ≤ z.toInt := by
    have := Int32.not_lt.mp hz
    simpa using Int32.le_iff_toInt_le.mp this
  show z.toInt = ((z.toInt.toNat : Nat) : Int)
  omega
/-- a row with a stretch of another laid over it -/
def lay (f f1 : Nat → Value) (sp dp n : Nat) : Nat → Value := fun j => if dp ≤ j ∧ j < dp + n then f (sp + (j - dp)) else f1 j
theorem V_copy {idx b a k n0 n1 : Nat} {f f1 : Nat → Value} {sp dp n : Int32} (hd : decode K.2.1 pc = .ok (.invokestatic idx, 3)) (hl : Cond.methodLink K.1.cls idx arraycopyName ∈ Tb) (w1 : Cond.native arraycopyName ∈ Tb) (w2 : Cond.static arraycopyName ∈ Tb) (w3 : Cond.initialized "java/lang/System" ∈ Tb)
    (hdd : 1 ≤ d) (h8 : (rest.map fun v => v.category).sum ≤ 8) (hb : ra G H b k n0 f) (ha : H[a]? = some (arrV (gT G k) n1 f1)) (hA : ArrOfT (gB G) (gT G k) (tyK k)) (hw : gF G a) (hk : k < 6)
    (h1 : ¬ sp < 0) (h2 : ¬ dp < 0) (h3 : ¬ n < 0) (h4 : sp.toNatClampNeg + n.toNatClampNeg ≤ n0) (h5 : dp.toNatClampNeg + n.toNatClampNeg ≤ n1)
    (hfit : ∀ i, i < n.toNatClampNeg → fits (tyK k) (f (sp.toNatClampNeg + i)) = true ∧ ∀ y : Nat, f (sp.toNatClampNeg + i) = .ref y → k = 5 ∧ elO G H y)
    (kk : ∀ H1 : Heap, H1[a]? = some (arrV (gT G k) n1 (lay f f1 sp.toNatClampNeg dp.toNatClampNeg n.toNatClampNeg)) → H1.size = H.size → (∀ q : Nat, q ≠ a → H1[q]? = H[q]?) → V G K d c s Q X (pc + 3) L rest H1) : V G K d c s Q X pc L (.int n :: .int dp :: .ref a :: .int sp :: .ref b :: rest) H := by
  intro p e R st m args below meth co ls locs ce sl hC hl2 hS hc hs
  obtain ⟨cs, b1, b2, b3, b4, b5, -, b6⟩ := hb
  obtain ⟨-, k0, hk0, cm0, hkk0⟩ := State.isArrayOf_alike hC.ku.2.1.alike b2
  obtain ⟨k1, hk1, cm1, hkk1, hcm⟩ : ∃ (k1 : Class), st.vm.classes[gT G k]? = some k1 ∧ ∃ cm1, k1.kind = .array cm1 (tyK k) ∧ (k = 5 → st.vm.findClass "java/lang/Object" = some cm1) := by
    by_cases h6 : k = 5
    · subst h6
      obtain ⟨kA, comp, r1, r2, r3, -⟩ := (hC.k.2 5 (gT G 5, .object "java/lang/Object") rfl).2
      exact ⟨kA, r1, comp, r2, fun _ => r3⟩
    · obtain ⟨-, k1, hk1, cm1, hkk1⟩ := State.isArrayOf_alike hC.ku.2.1.alike (hA n1 f1)
      exact ⟨k1, hk1, cm1, hkk1, fun z => absurd z h6⟩
  have hread : ∀ i, i < n.toNatClampNeg → cs.slots.getD (sp.toNatClampNeg + i) .null = f (sp.toNatClampNeg + i) := fun i hi => by
    rw [Array.getD_eq_getD_getElem?, b6 _ (by omega)]
    rfl
  intro T hT X0
  obtain ⟨vm', X', step⟩ := X0.arraycopy hC.1 hC.own (hC.w _ hl) (hC.w _ w1) (hC.w _ w2) (hC.w _ w3) (src := b) (dst := a) (cs := cs) (cd := arrV (gT G k) n1 f1) (srcPos := sp) (destPos := dp) (n := n) (by rw [hT]; exact b1) (by rw [hT]; exact ha)
    (fun q h => by rw [h] at b4; cases b4) (fun _ h => by cases h) b3 (fun h => by cases h) hk0 hk1 hkk0 hkk1 (by simp) h1 h2 h3
    (by rw [nn_i h1, nn_i h3]; omega)
    (by rw [nn_i h2, nn_i h3, arrV_size]; omega)
    (fun vm₁ hal i hi => by
      rw [hread i hi]
      refine ⟨(hfit i hi).1, ?_⟩
      cases hv : f (sp.toNatClampNeg + i) with
      | ref y =>
        obtain ⟨h6, hy⟩ := (hfit i hi).2 y hv
        obtain ⟨cellV, g1, g3, ⟨kC, hkC⟩, hasg⟩ := hy.any hC
        obtain ⟨kE, hkE, -⟩ := Vm.findClass_spec (hcm h6)
        obtain ⟨kC', hkC', -⟩ := hal.2.2 _ _ hkC
        obtain ⟨kE', hkE', -⟩ := hal.2.2 _ _ hkE
        refine ⟨cellV, (by show T.heap[y]? = _; rw [hT]; exact g1), (fun q h => by rw [h] at g3; cases g3), ⟨kC', hkC'⟩, ⟨kE', hkE'⟩, ?_⟩
        show vm₁.assignable _ _ = true
        rw [hal.assignable]
        exact hasg _ (hcm h6)
      | _ => exact trivial)
    (g := F0 m pc ls (.int n :: .int dp :: .ref a :: .int sp :: .ref b :: rest)) rfl (hl2.1.1.trans (hl2.2.trans hC.2.2.1.symm)) (rest := rest) rfl (by rw [hC.2.1]; exact hd) (Nat.le_trans hdd hC.fr) (by show 2 * 0 + _ + (nativeFrameWords "java/lang/System" "arraycopy" 5 + 11) ≤ _; have := hC.lo; have : nativeFrameWords "java/lang/System" "arraycopy" 5 + 11 ≤ 40 := (by decide); omega)
  have e1 : copied cs (arrV (gT G k) n1 f1) sp dp n = arrV (gT G k) n1 (lay f f1 sp.toNatClampNeg dp.toNatClampNeg n.toNatClampNeg) := by
    have e : cs.stretch sp.toNatClampNeg n.toNatClampNeg = (List.range n.toNatClampNeg).map (fun i => f (sp.toNatClampNeg + i)) := by
      unfold Cell.stretch
      exact List.map_congr_left fun i hi => hread i (List.mem_range.mp hi)
    show (arrV (gT G k) n1 f1).storeRun dp.toNatClampNeg (cs.stretch sp.toNatClampNeg n.toNatClampNeg) = _
    rw [e, Cell.storeRun, va_pairs]
    congr 1
    funext j
    simp only [lay, List.length_map, List.length_range, Nat.add_zero]
    by_cases h : dp.toNatClampNeg ≤ j ∧ j < dp.toNatClampNeg + n.toNatClampNeg
    · rw [if_pos h, if_pos h, List.getD_eq_getElem?_getD, List.getElem?_map, List.getElem?_range (by omega)]
      rfl
    · rw [if_neg h, if_neg h]
  rw [e1] at X' step
  have hl : a < H.size := (Array.getElem?_eq_some_iff.mp ha).1
  have hheap : ((T.setVm vm').setCell a (arrV (gT G k) n1 (lay f f1 sp.toNatClampNeg dp.toNatClampNeg n.toNatClampNeg))).heap = H.setIfInBounds a (arrV (gT G k) n1 (lay f f1 sp.toNatClampNeg dp.toNatClampNeg n.toNatClampNeg)) := by rw [← hT]; rfl
  have oq : ∀ q : Nat, q ≠ a → (H.setIfInBounds a (arrV (gT G k) n1 (lay f f1 sp.toNatClampNeg dp.toNatClampNeg n.toNatClampNeg)))[q]? = H[q]? := fun q hq => by simp [Array.getElem?_setIfInBounds, Ne.symm hq]
  have hz : (H.setIfInBounds a (arrV (gT G k) n1 (lay f f1 sp.toNatClampNeg dp.toNatClampNeg n.toNatClampNeg))).size = H.size := by simp
  obtain ⟨t, a1, a2⟩ := kk _ (by simp [Array.getElem?_setIfInBounds, hl]) hz oq p e R st m args below meth co ls _ ce sl hC hl2 ⟨by rw [hz]; exact hS.1, fun q g1 g2 => (oq q (fun e => g2 (by rw [e]; exact hw))).trans (hS.2.1 q g1 g2), fun q hq => by
      rcases List.mem_append.mp hq with h | h
      · exact hS.2.2 q h
      · obtain ⟨z, -, hz⟩ := List.mem_map.mp h
        rw [← hz]
        exact hw⟩ hc hs _ hheap X'
  exact ⟨t, step t a1, a2⟩
def layI (m l : List Int32) (sp dp n : Nat) : List Int32 := (List.range l.length).map fun j => if dp ≤ j ∧ j < dp + n then m.getD (sp + (j - dp)) 0 else l.getD j 0
theorem layI_len {m l : List Int32} {sp dp n : Nat} : (layI m l sp dp n).length = l.length := by simp [layI]
theorem layI_cell {cA : ClassId} {m l : List Int32} {sp dp n : Nat} : arrV cA l.length (lay (iv m) (fun j => .int (l.getD j 0)) sp dp n) = vp_cell cA (ia (layI m l sp dp n)) := by
  unfold ia
  rw [vp_cell_i, layI_len]
  unfold arrV
  congr 1
  apply Array.ext (by simp)
  intro i h1 h2
  have hi : i < l.length := by simpa using h1
  simp only [Array.getElem_ofFn, lay, layI, List.getD_eq_getElem?_getD, List.getElem?_map, List.getElem?_range hi, Option.map_some, Option.getD_some]
  split <;> rfl
/-- a stretch of a row of numbers into another one -/
theorem V_cpI {idx b a k t n0 : Nat} {m l : List Int32} {sp dp n : Int32} (hd : decode K.2.1 pc = .ok (.invokestatic idx, 3)) (hl : Cond.methodLink K.1.cls idx arraycopyName ∈ Tb) (w1 : Cond.native arraycopyName ∈ Tb) (w2 : Cond.static arraycopyName ∈ Tb) (w3 : Cond.initialized "java/lang/System" ∈ Tb)
    (hdd : 1 ≤ d) (h8 : (rest.map fun v => v.category).sum ≤ 8) (hb : ra G H b k n0 (iv m)) (ha : Ia G H g t a k l) (ht : t ≠ 0) (hk : k < 5)
    (h1 : ¬ sp < 0) (h2 : ¬ dp < 0) (h3 : ¬ n < 0) (h4 : sp.toNatClampNeg + n.toNatClampNeg ≤ n0) (h5 : dp.toNatClampNeg + n.toNatClampNeg ≤ l.length)
    (hfit : ∀ i, i < n.toNatClampNeg → fits (tyK k) (.int (m.getD (sp.toNatClampNeg + i) 0)) = true)
    (kk : ∀ H1 : Heap, Ia G H1 g t a k (layI m l sp.toNatClampNeg dp.toNatClampNeg n.toNatClampNeg) → Ext G [t] H g H1 g → V G K d c s Q X (pc + 3) L rest H1) : V G K d c s Q X pc L (.int n :: .int dp :: .ref a :: .int sp :: .ref b :: rest) H := by
  refine V_copy (n1 := l.length) (f1 := fun j => .int (l.getD j 0)) hd hl w1 w2 w3 hdd h8 hb (ha.1.1.1.trans (by unfold ia; rw [vp_cell_i])) ha.1.1.2 (tg_pos (ha.2 ▸ ht)) (by omega) h1 h2 h3 h4 h5 (fun i hi => ⟨hfit i hi, fun y hy => by cases hy⟩) fun H1 e1 z oq => ?_
  exact kk H1 ⟨⟨⟨by rw [e1, layI_cell], ha.1.1.2⟩, by rw [layI_len]; exact ha.1.2⟩, ha.2⟩ (Ext.put z oq (ha.2 ▸ List.mem_singleton.mpr rfl))
def layO (m l : List (Option Nat)) (sp dp n : Nat) : List (Option Nat) := (List.range l.length).map fun j => if dp ≤ j ∧ j < dp + n then m.getD (sp + (j - dp)) none else l.getD j none
theorem layO_len {m l : List (Option Nat)} {sp dp n : Nat} : (layO m l sp dp n).length = l.length := by simp [layO]
theorem layO_cell {cA : ClassId} {m l : List (Option Nat)} {sp dp n : Nat} : arrV cA l.length (lay (ov m) (fun j => va_rf (l.getD j none)) sp dp n) = vp_cell cA (oa (layO m l sp dp n)) := by
  unfold oa
  rw [vp_cell_q, layO_len]
  unfold arrV
  congr 1
  apply Array.ext (by simp)
  intro i h1 h2
  have hi : i < l.length := by simpa using h1
  simp only [Array.getElem_ofFn, lay, layO, List.getD_eq_getElem?_getD, List.getElem?_map, List.getElem?_range hi, Option.map_some, Option.getD_some]
  split
  · simp [ov, List.getD_eq_getElem?_getD]
  · rfl
theorem V_cpO {idx b a t n0 : Nat} {m l : List (Option Nat)} {sp dp n : Int32} (hd : decode K.2.1 pc = .ok (.invokestatic idx, 3)) (hl : Cond.methodLink K.1.cls idx arraycopyName ∈ Tb) (w1 : Cond.native arraycopyName ∈ Tb) (w2 : Cond.static arraycopyName ∈ Tb) (w3 : Cond.initialized "java/lang/System" ∈ Tb)
    (hdd : 1 ≤ d) (h8 : (rest.map fun v => v.category).sum ≤ 8) (hb : ra G H b 5 n0 (ov m)) (ha : Oa G H g t a l) (ht : t ≠ 0)
    (h1 : ¬ sp < 0) (h2 : ¬ dp < 0) (h3 : ¬ n < 0) (h4 : sp.toNatClampNeg + n.toNatClampNeg ≤ n0) (h5 : dp.toNatClampNeg + n.toNatClampNeg ≤ l.length)
    (hel : ∀ i y, i < n.toNatClampNeg → m.getD (sp.toNatClampNeg + i) none = some y → elO G H y)
    (kk : ∀ H1 : Heap, Oa G H1 g t a (layO m l sp.toNatClampNeg dp.toNatClampNeg n.toNatClampNeg) → Ext G [t] H g H1 g → V G K d c s Q X (pc + 3) L rest H1) : V G K d c s Q X pc L (.int n :: .int dp :: .ref a :: .int sp :: .ref b :: rest) H := by
  refine V_copy (n1 := l.length) (f1 := fun j => va_rf (l.getD j none)) hd hl w1 w2 w3 hdd h8 hb (ha.1.1.1.trans (by unfold oa; rw [vp_cell_q])) ha.1.1.2 (tg_pos (ha.2 ▸ ht)) (by decide) h1 h2 h3 h4 h5 (fun i hi => ?_) fun H1 e1 z oq => ?_
  · unfold ov
    cases hv : m.getD (sp.toNatClampNeg + i) none with
    | none => exact ⟨rfl, fun y hy => by cases hy⟩
    | some y => exact ⟨rfl, fun y2 hy => by cases hy; exact ⟨rfl, hel i y hi hv⟩⟩
  · exact kk H1 ⟨⟨⟨by rw [e1, layO_cell], ha.1.1.2⟩, by rw [layO_len]; exact ha.1.2⟩, ha.2⟩ (Ext.put z oq (ha.2 ▸ List.mem_singleton.mpr rfl))
/-- a new row of objects -/
theorem V_mkO (t : Nat) {idx : Nat} {n : Int32} {N : Nat} (hd : decode K.2.1 pc = .ok (.anewarray idx, 3)) (hl : Cond.classLink K.1.cls idx "java/lang/Object" ∈ Tb) (hov : Cond.arrayOver (.object "java/lang/Object") ∈ lw_tbl) (hn : ¬ n < 0) (hN : n.toNatClampNeg = N) (hb : N < 2 ^ 20) (h1 : 1 ≤ c) (h2 : N ≤ s)
    (kk : ∀ (a : Nat) (H1 : Heap) (g1 : Nat → Nat), Oa G H1 g1 t a (List.replicate N none) → Ext G [] H g H1 g1 → a = H.size → V G K d (c - 1) (s - N) Q X (pc + 3) L (.ref a :: rest) H1) : V G K d c s Q X pc L (.int n :: rest) H := by
  intro p e R st m args below meth co ls locs ce sl hC hl2 hS hc hs
  subst hN
  obtain ⟨b0, hb0⟩ := hC.ku.1.2.2.2.2.2.2
  have hao : va_AO "java/lang/Object" st := (va_AO.of (hb0 _ hov)).moved hC.ku.2.1.alike
  refine W.anew hC.1 hC.2.1 hC.own (hC.w _ hl) hao.use rfl hd rfl hn (by omega) (by omega) (by omega) fun cA kA comp f1 f2 f3 f4 => ?_
  generalize hH1 : H.push ({ cls := cA, slots := Array.replicate n.toNatClampNeg .null, vm := .none } : Cell) = H1
  have z1 : H1.size = H.size + 1 := by rw [← hH1, Array.size_push]
  have o1 : ∀ q : Nat, q < H.size → H1[q]? = H[q]? := fun q hq => by rw [← hH1, Array.getElem?_push, if_neg (Nat.ne_of_lt hq)]
  have hgf : gF G H.size := Nat.le_trans hC.ku.2.2.1 hS.1
  have hcA : gT G 5 = cA := by
    obtain ⟨kA2, comp2, -, -, -, r4⟩ := (hC.k.2 5 (gT G 5, .object "java/lang/Object") rfl).2
    exact Option.some.inj (r4.symm.trans f1)
  have e1 : H1[H.size]? = some (vp_cell (gT G 5) (oa (List.replicate n.toNatClampNeg none))) := by
    rw [← hH1, Array.getElem?_push_size, hcA]
    unfold oa
    rw [vp_cell_q, List.length_replicate]
    unfold arrV
    congr 2
    apply Array.ext (by simp)
    intro i h1 h2
    have hi : i < n.toNatClampNeg := by simpa using h1
    simp [List.getD_eq_getElem?_getD, List.getElem?_replicate, hi, va_rf]
  exact kk H.size H1 (gset g H.size t) ⟨⟨⟨e1, (hC.ku.1.2.1.2 5 (gT G 5, .object "java/lang/Object") rfl).1⟩, by rw [List.length_replicate]; exact hb⟩, tg_new hgf⟩ (Ext.mk z1 o1) rfl p e R st m args below meth co ls locs (ce + 1) (sl + n.toNatClampNeg) hC hl2 ⟨Nat.le_trans hS.1 (by rw [z1]; omega), fun x g1 g2 => (o1 x (Nat.lt_of_lt_of_le g1 hS.1)).trans (hS.2.1 x g1 g2), hS.2.2⟩ (by omega) (by omega)
theorem V_oasN {t a : Nat} {l : List (Option Nat)} {i : Int32} (hd : decode K.2.1 pc = .ok (.aastore, 1)) (h : Oa G H g t a l) (ht : t ≠ 0) (hi : vp_in i l.length)
    (kk : ∀ H1 : Heap, Oa G H1 g t a (l.set i.toNatClampNeg none) → Ext G [t] H g H1 g → V G K d c s Q X (pc + 1) L rest H1) : V G K d c s Q X pc L (.null :: .int i :: .ref a :: rest) H := by
  intro p e R st m args below meth co ls locs ce sl hC hl hS hc hs
  have hw := tg_pos (h.2 ▸ ht : tg G g a ≠ 0)
  refine va_WaastN hC.1 hC.2.1 h.1.1.1 (State.isArrayOf_alike hC.ku.2.1.alike (h.1.1.2 l.length (fun j => va_rf (l.getD j none)))) (fun q => by cases q) (by show ¬ (i < 0 ∨ (arrV _ _ _).slots.size ≤ _); rw [arrV_size]; exact hi) rfl rfl hd fun H1 e1 z oq => ?_
  refine kk H1 ⟨⟨⟨?_, h.1.1.2⟩, by rw [List.length_set]; exact h.1.2⟩, h.2⟩ (Ext.put z oq (h.2 ▸ List.mem_singleton.mpr rfl)) p e R st m args below meth co ls _ ce sl hC hl (hS.put z oq hw) hc hs
  rw [e1, ← oa_set (x := none) (vp_in_lt hi)]
  show some ((vp_cell _ (_, .inr (.inr (.inr (.inr _))))).setSlot _ _) = _
  rw [vp_cell_q, arrV_store]
  rfl
theorem V_castS {idx a ci : Nat} {fs : List Value} {q : vw_C} (hd : decode K.2.1 pc = .ok (.checkcast idx, 3)) (hq : vwCl[ci]? = some q) (hl : Cond.classLink K.1.cls idx q.1 ∈ Tb) (h : ro G H a ci fs) (k : V G K d c s Q X (pc + 3) L (.ref a :: rest) H) : V G K d c s Q X pc L (.ref a :: rest) H :=
  fun p e R st m args below meth co ls locs ce sl hC hl2 hS hc hs => va_castS hC.1 hC.2.1 hC.own (hC.w _ hl) (hC.k.1 ci _ hq).2 (h.cell hC ⟨q, hq, rfl⟩) hd (k p e R st m args below meth co ls locs ce sl hC hl2 hS hc hs)
theorem V_acmp_ne {x y : Nat} {off : Int} {tgt : Nat} (hd : decode K.2.1 pc = .ok (.if_acmp .ne off, 3)) (ht : (pc : Int) + off = (tgt : Int)) (kt : ¬ x = y → V G K d c s Q X tgt L rest H) (kf : x = y → V G K d c s Q X (pc + 3) L rest H) : V G K d c s Q X pc L (.ref y :: .ref x :: rest) H :=
  fun p e R st m args below meth co ls locs ce sl hC hl hS hc hs => lv_acmp_ne (rx := some x) (ry := some y) hC.1 hC.2.1 hd ht (fun q => kt (fun z => q (congrArg some z)) p e R st m args below meth co ls locs ce sl hC hl hS hc hs) (fun q => kf (Option.some.inj q) p e R st m args below meth co ls locs ce sl hC hl hS hc hs)
theorem V_acmp_eq {x y : Nat} {off : Int} {tgt : Nat} (hd : decode K.2.1 pc = .ok (.if_acmp .eq off, 3)) (ht : (pc : Int) + off = (tgt : Int)) (kt : x = y → V G K d c s Q X tgt L rest H) (kf : ¬ x = y → V G K d c s Q X (pc + 3) L rest H) : V G K d c s Q X pc L (.ref y :: .ref x :: rest) H :=
  fun p e R st m args below meth co ls locs ce sl hC hl hS hc hs => lv_acmp_eq (rx := some x) (ry := some y) hC.1 hC.2.1 hd ht (fun q => kt (Option.some.inj q) p e R st m args below meth co ls locs ce sl hC hl hS hc hs) (fun q => kf (fun z => q (congrArg some z)) p e R st m args below meth co ls locs ce sl hC hl hS hc hs)
theorem V_ldcm {idx : Nat} (hd : decode K.2.1 pc = .ok (.ldc idx, 2)) (hl : Cond.classLink K.1.cls idx "[Ljava/lang/Object;" ∈ Tb) (k : V G K d c s Q X (pc + 2) L (.ref (gA G 1200) :: rest) H) : V G K d c s Q X pc L rest H :=
  fun p e R st m args below meth co ls locs ce sl hC hl2 hS hc hs => va_ldcM hC.1 hC.2.1 hC.own (hC.w _ hl) (va_Mi.moved hC.ku.2.1.alike hC.ku.1.2.2.2.2.1.2.2.2.2.2.2.2.2) hd (k p e R st m args below meth co ls locs ce sl hC hl2 hS hc hs)
abbrev yGetClass : MethodName := ⟨"java/lang/Object", "getClass", "()Ljava/lang/Class;"⟩
theorem V_getc {idx a t : Nat} {l : List (Option Nat)} (hd : decode K.2.1 pc = .ok (.invokevirtual idx, 3)) (hl : Cond.methodLink K.1.cls idx yGetClass ∈ Tb) (w1 : Cond.declares yGetClass ∈ Tc) (w2 : Cond.selects "[Ljava/lang/Object;" yGetClass yGetClass ∈ Tb) (w3 : Cond.instanceMethod yGetClass ∈ Tb) (w4 : Cond.native yGetClass ∈ Tb) (hdd : 1 ≤ d) (h8 : (rest.map fun v => v.category).sum ≤ 8) (h : Oa G H g t a l) (k : V G K d c s Q X (pc + 3) L (.ref (gA G 1200) :: rest) H) : V G K d c s Q X pc L (.ref a :: rest) H := by
  intro p e R st m args below meth co ls locs ce sl hC hl2 hS hc hs
  obtain ⟨kA, comp, -, -, -, r4⟩ := (hC.k.2 5 (gT G 5, .object "java/lang/Object") rfl).2
  exact va_getC hC.1 hC.2.1 (hC.2.2.1.trans (hl2.1.1.trans hl2.2).symm) hC.own (hC.w _ hl) (hC.tc _ w1) (hC.w _ w2) (hC.w _ w3) (hC.w _ w4) (va_Mi.moved hC.ku.2.1.alike hC.ku.1.2.2.2.2.1.2.2.2.2.2.2.2.2) ⟨_, h.1.1.1, rfl, r4⟩ (Nat.le_trans hdd hC.fr) (by have := hC.lo; omega) hd (k p e R st m args below meth co ls locs ce sl hC hl2 hS hc hs)
end RULES6

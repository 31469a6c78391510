section VNTW
variable {p : Program} {l : Launch} {e : Env} {R : Room} {s : State} {m : MethodId} {args : Array Value} {below : List Frame} {meth : Method} {c : Code} {H : Heap} {locs : List Loc} {cells slots : Nat} {Q : State → Prop}
variable {mc ms : Nat} {free : Addr → Prop} {A0 A1 : Nat → Prop} {H0 : Heap} {a : Array Value} {ls : Array Slot} {st0 rest : List Value}
variable {Qc : Array Value → State → Outcome → State → Prop} {XC : String → State → State → Prop}
theorem vn_throwSW {cc : ByteArray} {pc : Nat} (hexec : p.tables.exec = Jvm.exec) (hb : c.code = cc) (hl : l.stackTraces = false) {own cls Y0 text : String} {names : List String} {ik is ic mc ms sa : Nat} {A : Nat → Prop}
    (hown : s.vm.findClass own = some m.cls) (hcls : Bundle.fit cls = true) (hY0 : Bundle.fit Y0 = true) (hnames : ∀ n ∈ names, Bundle.fit n = true)
    (hk : (Cond.classLink own ik cls).before args s = true) (hini : (Cond.initialized cls).before args s = true) (hstr : vk_R own is text sa s) (hat : ∀ w ∈ vn_at own ic cls Y0 names, w.before args s = true)
    (hgood : ∀ w ∈ Cond.classLink own ik cls :: Cond.initialized cls :: vn_at own ic cls Y0 names, vx_ot w = true)
    (hU : vx_Zq Bundle.tN "UNASSIGNED_STACK" Bundle.steD A s s.heap) (hN : vx_Zq Bundle.tN "SUPPRESSED_SENTINEL" Bundle.listD A s s.heap) (hS : va_S A s.heap H locs) (hsize : ls.size = c.maxLocals)
    (d0 : decode cc pc = .ok (.new ik, 3)) (d3 : decode cc (pc + 3) = .ok (.dup, 1)) (d4 : decode cc (pc + 4) = .ok (.ldc_w is, 3)) (d7 : decode cc (pc + 7) = .ok (.invokespecial ic, 3)) (d10 : decode cc (pc + 10) = .ok (.athrow, 1))
    (hout : ∀ x ∈ c.exceptionTable.toList, covers x (pc + 10) = false)
    (hRframes : names.length + 4 < R.frames) (hRlocals : (rest.map fun v => v.category).sum + (13 * (names.length + 2) + 43) ≤ R.locals) (hRcells : cells + 1 ≤ R.cells) (hRslots : slots + 6 ≤ R.slots) (hlocks : meth.locks = false)
    (hx : ∀ t : State, s.vm.Alike t.vm → H.size ≤ t.heap.size → (∀ q : Nat, q < H.size → t.heap[q]? = H[q]?) → XC cls s t)
    (hf : ∀ z ∈ locs, free z.base) (hc : cells + 1 ≤ mc) (hs : slots + 6 ≤ ms) :
    W p l e R s m args below meth c H locs cells slots (vx_MQ below Qc XC args s mc ms free) (F0 m pc ls rest) := by
  intro T hT X
  have htr : e.platform.stackTraces = false := (show e.platform.stackTraces = l.stackTraces by rw [X.admits.platform]).trans hl
  have Y := vx_rebase X (R' := { frames := R.frames, locals := R.locals, cells := 1, slots := 6 }) (Nat.le_refl _) (Nat.le_refl _) hRcells hRslots
  obtain ⟨s', hA⟩ : ∃ z, z = (T.setVm s.vm).setFrames (.invoking m args :: below) := ⟨_, rfl⟩
  rw [← hA] at Y
  have hvm : s'.vm = s.vm := by rw [hA]; rfl
  have hhp : s'.heap = H := by rw [hA]; exact hT
  have hW0 : s.WarmedH s'.vm := by rw [hvm]; exact State.WarmedH.refl s
  have hat' : ∀ w ∈ vn_at own ic cls Y0 names, w.before args s' = true := fun w hw => vx_ot_at hW0 hvm.symm (hgood w (List.mem_cons_of_mem _ (List.mem_cons_of_mem _ hw))) (hat w hw)
  have hk' : (Cond.classLink own ik cls).before args s' = true := vx_ot_at hW0 hvm.symm (hgood _ List.mem_cons_self) hk
  have hini' : (Cond.initialized cls).before args s' = true := vx_ot_at hW0 hvm.symm (hgood _ (List.mem_cons_of_mem _ List.mem_cons_self)) hini
  have hU' : vx_Zq Bundle.tN "UNASSIGNED_STACK" Bundle.steD A s' s'.heap := by rw [hhp]; exact vx_Zq.moved hW0.alike (hU.kept hS.2.1)
  have hN' : vx_Zq Bundle.tN "SUPPRESSED_SENTINEL" Bundle.listD A s' s'.heap := by rw [hhp]; exact vx_Zq.moved hW0.alike (hN.kept hS.2.1)
  have h : ∀ w ∈ vnAtoms own ic cls Y0 names, w.before args s' = true := vx_own hat' (vx_isRefq hU'.1) (vx_isRefq hN'.1) hU'.2.word hN'.2.word
  have hown' : s'.vm.findClass own = some m.cls := by rw [hvm]; exact hown
  have hins : (Cond.instantiable cls 6).before args s' = true := h _ (by simp [vnAtoms, vnTail])
  obtain ⟨vm₁, cX, kX, hfX, hkX, -, -, X₁, st1⟩ := Y.newCold hexec (own := own) (C := cls) (index := ik) (n := 6) hown' hk' hins hini'
    (g := F0 m pc ls rest) rfl (by rw [hb]; exact d0) (Nat.le_refl _) (Nat.le_refl _)
  generalize hT1 : (T.setVm vm₁).pushCell { cls := cX, slots := kX.instanceTypes.map defaultValue, vm := .none } = T1 at X₁ st1
  have hcat : (Value.ref T.heap.size).category = 1 := rfl
  have hcellA : T1.heap[T.heap.size]? = some (freshCell cX kX) := by rw [← hT1]; exact State.heap_pushCell_size _ _
  have d3' : decode c.code (pc + 3) = .ok (.dup, 1) := by rw [hb]; exact d3
  have d4' : decode c.code (pc + 4) = .ok (.ldc_w is, 3) := by rw [hb]; exact d4
  have hstr' : vk_R own is text sa s' := vk_R.warm hW0 hstr
  obtain ⟨V, ce, Lx, Z, hLx, hlt, hcl9, hvm9, st⟩ := vn_ctorMadeS X₁ hexec htr (own := own) (cls := cls) (Y0 := Y0) (names := names) (ic := ic) hown' hcls hY0 hnames h (fun x hx => nomatch hx) hfX hkX hcellA (by rw [hhp, hT]; exact Nat.le_refl _) (msg := .ref sa) rfl
    (g := { method := m, pc := pc + 7, locals := ls, stack := .ref sa :: .ref T.heap.size :: .ref T.heap.size :: rest, locked := none }) rfl hsize (rest := rest) rfl
    (by rw [hb]; exact d7) hRframes (by simp only [List.map_cons, List.sum_cons, hcat]; omega)
  have Z0 := Stand.forget (locs := []) Z (fun y hy => by rw [hLx y hy, hhp, hT]; exact Nat.le_refl _)
  obtain ⟨hwalk, hrun, hend, hW, hsame⟩ := Z0.athrowLeaves hexec (g := { method := m, pc := pc + 10, locals := ls, stack := .ref T.heap.size :: rest, locked := none }) rfl rfl rfl hout (a := T.heap.size) (rest := rest) rfl (by rw [hb]; exact d10)
  have hsteps := st _ hwalk
  have hce : ((V.setCell T.heap.size ce).setFrames (.throwing T.heap.size :: below)).heap[T.heap.size]? = some ce := heapAt_setCell_self (s := V) ce hlt
  obtain ⟨f1, f2⟩ := vx_frame hsame
  rw [hhp] at f1 f2
  have hWs := State.WarmedH.trans hW0 hW
  have hcl : s.vm.findClass cls = some ce.cls := by
    rw [hcl9, ← hvm]
    exact hfX
  generalize hU9 : (V.setCell T.heap.size ce).setFrames (.throwing T.heap.size :: below) = U at *
  have hall : s.sameButNew ({ U with vm := s.vm } : State) locs mc ms := by
    subst hA
    obtain ⟨e1, e2⟩ := hsame
    rw [State.setFrames_setFrames] at e1
    have h2 : (T.setVm s.vm).sameButNew ({ U with vm := s.vm } : State) [] (0 + 1) (0 + 6) := ⟨e1, e2⟩
    have h3 := X.same.trans h2
    rw [List.append_nil] at h3
    exact h3.mono hc hs
  refine ⟨_, ?_, .threw T.heap.size, hrun, hend, Or.inr ⟨T.heap.size, rfl, cls, ce, locs, hx _ hWs.alike f1 (fun q hq => f2 q hq (fun z hz => nomatch hz)), hce, hvm9, hcl, hWs, hall, hf⟩⟩
  refine st1 _ ?_
  show Steps p.tables e below (T1.setTop { method := m, pc := pc + 3, locals := ls, stack := .ref T.heap.size :: rest, locked := none }) _
  jvm_step X₁.here [X₁.here.top, hexec, d3', Value.category]
  exact X₁.ldcStringW hexec (own := own) (text := text) (index := is) (a := sa) hown' hstr'.1 hstr'.2
    (g := { method := m, pc := pc + 4, locals := ls, stack := .ref T.heap.size :: .ref T.heap.size :: rest, locked := none }) rfl d4' _ hsteps
end VNTW
section VTHROW
variable {G : GT} {K : MT} {d c s : Nat} {Q : Option Value → Heap → Prop} {X : String → Heap → Prop} {H : Heap} {L : List (Option Value)} {rest : List Value} {pc : Nat} {g : Nat → Nat}
theorem V_throwSW {cls text : String} {ik is ic i : Nat} (hcls : Bundle.fit cls = true) (hk : Cond.classLink K.1.cls ik cls ∈ Tb) (hini : Cond.initialized cls ∈ Tb) (hat : ∀ w ∈ vx_atS K.1.cls ic cls ["java/lang/RuntimeException", "java/lang/Exception"], w ∈ Tb ∨ w ∈ Tc) (hgood : ∀ w ∈ Cond.classLink K.1.cls ik cls :: Cond.initialized cls :: vx_atS K.1.cls ic cls ["java/lang/RuntimeException", "java/lang/Exception"], vx_ot w = true)
    (hstr : strT[i]? = some (K.1.cls, is, text)) (d0 : decode K.2.1 pc = .ok (.new ik, 3)) (d3 : decode K.2.1 (pc + 3) = .ok (.dup, 1)) (d4 : decode K.2.1 (pc + 4) = .ok (.ldc_w is, 3)) (d7 : decode K.2.1 (pc + 7) = .ok (.invokespecial ic, 3)) (d10 : decode K.2.1 (pc + 10) = .ok (.athrow, 1))
    (hh : K.2.2.2.2 = []) (hd : 6 ≤ d) (h1 : 1 ≤ c) (h2 : 6 ≤ s) (h8 : (rest.map fun v => v.category).sum ≤ 8) (hx : ∀ H1 : Heap, H.size ≤ H1.size → (∀ q : Nat, q < H.size → H1[q]? = H[q]?) → X cls H1) : V G K d c s Q X pc L rest H := by
  intro p e R st m args below meth co ls locs ce sl hC hl hS hc hs
  have hfr := hC.fr
  have hlo := hC.lo
  refine vx_throwSW (A := gF G) hC.1 hC.2.1 hC.ku.1.1 hC.own hcls (by decide) (hC.w _ hk) (hC.w _ hini) (vk_R.warm hC.ku.2.1 (hC.ku.1.2.2.2.2.1.1 i _ hstr).1) (fun w hw => (hat w hw).elim (hC.w w) (hC.tc w)) hgood (hC.ku.zq hC.ku.1.2.2.1) (hC.ku.zq hC.ku.1.2.2.2.1) hS (hl.1.1.trans (hl.2.trans hC.2.2.1.symm)) d0 d3 d4 d7 d10 (fun x hx => by rw [hC.tab, hh] at hx; cases hx) (by show 2 + 3 < _; omega) (by show _ + (13 * (2 + 1) + 43) ≤ _; omega) (by omega) (by omega) hC.locks (fun t _ e1 e2 => ⟨hx t.heap e1 e2, ?_⟩) (fun z hz => hS.2.2 z hz) (by omega) (by omega)
  exact ⟨Nat.le_trans hS.1 e1, fun q hq hn => (e2 q (Nat.lt_of_lt_of_le hq hS.1)).trans (hS.2.1 q hq hn)⟩
theorem V_throwNW {cls text : String} {ik is ic i : Nat} (hcls : Bundle.fit cls = true) (hk : Cond.classLink K.1.cls ik cls ∈ Tb) (hini : Cond.initialized cls ∈ Tb) (hat : ∀ w ∈ vn_at K.1.cls ic cls "java/lang/RuntimeException" ["java/lang/Exception"], w ∈ Tb ∨ w ∈ Tc) (hgood : ∀ w ∈ Cond.classLink K.1.cls ik cls :: Cond.initialized cls :: vn_at K.1.cls ic cls "java/lang/RuntimeException" ["java/lang/Exception"], vx_ot w = true)
    (hstr : strT[i]? = some (K.1.cls, is, text)) (d0 : decode K.2.1 pc = .ok (.new ik, 3)) (d3 : decode K.2.1 (pc + 3) = .ok (.dup, 1)) (d4 : decode K.2.1 (pc + 4) = .ok (.ldc_w is, 3)) (d7 : decode K.2.1 (pc + 7) = .ok (.invokespecial ic, 3)) (d10 : decode K.2.1 (pc + 10) = .ok (.athrow, 1))
    (hh : K.2.2.2.2 = []) (hd : 6 ≤ d) (h1 : 1 ≤ c) (h2 : 6 ≤ s) (h8 : (rest.map fun v => v.category).sum ≤ 8) (hx : ∀ H1 : Heap, H.size ≤ H1.size → (∀ q : Nat, q < H.size → H1[q]? = H[q]?) → X cls H1) : V G K d c s Q X pc L rest H := by
  intro p e R st m args below meth co ls locs ce sl hC hl hS hc hs
  have hfr := hC.fr
  have hlo := hC.lo
  refine vn_throwSW (A := gF G) hC.1 hC.2.1 hC.ku.1.1 hC.own hcls (by decide) (by decide) (hC.w _ hk) (hC.w _ hini) (vk_R.warm hC.ku.2.1 (hC.ku.1.2.2.2.2.1.1 i _ hstr).1) (fun w hw => (hat w hw).elim (hC.w w) (hC.tc w)) hgood (hC.ku.zq hC.ku.1.2.2.1) (hC.ku.zq hC.ku.1.2.2.2.1) hS (hl.1.1.trans (hl.2.trans hC.2.2.1.symm)) d0 d3 d4 d7 d10 (fun x hx => by rw [hC.tab, hh] at hx; cases hx) (by show 1 + 4 < _; omega) (by show _ + (13 * (1 + 2) + 43) ≤ _; omega) (by omega) (by omega) hC.locks (fun t _ e1 e2 => ⟨hx t.heap e1 e2, ?_⟩) (fun z hz => hS.2.2 z hz) (by omega) (by omega)
  exact ⟨Nat.le_trans hS.1 e1, fun q hq hn => (e2 q (Nat.lt_of_lt_of_le hq hS.1)).trans (hS.2.1 q hq hn)⟩
end VTHROW

theorem ti_IllegalState : Cond.initialized "java/lang/IllegalStateException" ∈ Tb := inTb (tb_1 (List.mem_of_getElem? (i := 18) (by decide +kernel))) (by decide +kernel)
theorem tc_IllegalState : Cond.classLink RX12 152 "java/lang/IllegalStateException" ∈ Tb := inTb (tb_4 (List.mem_of_getElem? (i := 51) (by decide +kernel))) (by decide +kernel)
theorem tg_IllegalState : ∀ w ∈ Cond.classLink RX12 152 "java/lang/IllegalStateException" :: Cond.initialized "java/lang/IllegalStateException" :: vx_atS RX12 156 "java/lang/IllegalStateException" ["java/lang/RuntimeException", "java/lang/Exception"], vx_ot w = true := by decide +kernel
theorem ti_IndexOut : Cond.initialized "java/lang/IndexOutOfBoundsException" ∈ Tb := inTb (tb_1 (List.mem_of_getElem? (i := 25) (by decide +kernel))) (by decide +kernel)
theorem tc_IndexOut : Cond.classLink RX12 140 "java/lang/IndexOutOfBoundsException" ∈ Tb := inTb (tb_4 (List.mem_of_getElem? (i := 35) (by decide +kernel))) (by decide +kernel)
theorem tg_IndexOut : ∀ w ∈ Cond.classLink RX12 140 "java/lang/IndexOutOfBoundsException" :: Cond.initialized "java/lang/IndexOutOfBoundsException" :: vx_atS RX12 144 "java/lang/IndexOutOfBoundsException" ["java/lang/RuntimeException", "java/lang/Exception"], vx_ot w = true := by decide +kernel
theorem ti_IllegalArg : Cond.initialized "java/lang/IllegalArgumentException" ∈ Tb := inTb (tb_1 (List.mem_of_getElem? (i := 26) (by decide +kernel))) (by decide +kernel)
theorem tc_IllegalArg : Cond.classLink RX12 147 "java/lang/IllegalArgumentException" ∈ Tb := inTb (tb_4 (List.mem_of_getElem? (i := 48) (by decide +kernel))) (by decide +kernel)
theorem tg_IllegalArg : ∀ w ∈ Cond.classLink RX12 147 "java/lang/IllegalArgumentException" :: Cond.initialized "java/lang/IllegalArgumentException" :: vx_atS RX12 151 "java/lang/IllegalArgumentException" ["java/lang/RuntimeException", "java/lang/Exception"], vx_ot w = true := by decide +kernel
theorem ti_Unsupp : Cond.initialized "java/lang/UnsupportedOperationException" ∈ Tb := inTb (tb_1 (List.mem_of_getElem? (i := 28) (by decide +kernel))) (by decide +kernel)
theorem tc_Unsupp : Cond.classLink RX12 162 "java/lang/UnsupportedOperationException" ∈ Tb := inTb (tb_4 (List.mem_of_getElem? (i := 83) (by decide +kernel))) (by decide +kernel)
theorem tg_Unsupp : ∀ w ∈ Cond.classLink RX12 162 "java/lang/UnsupportedOperationException" :: Cond.initialized "java/lang/UnsupportedOperationException" :: vx_atS RX12 166 "java/lang/UnsupportedOperationException" ["java/lang/RuntimeException", "java/lang/Exception"], vx_ot w = true := by decide +kernel
theorem ti_Arith : Cond.initialized "java/lang/ArithmeticException" ∈ Tb := inTb (tb_1 (List.mem_of_getElem? (i := 39) (by decide +kernel))) (by decide +kernel)
theorem tc_Arith : Cond.classLink RX12 303 "java/lang/ArithmeticException" ∈ Tb := inTb (tb_7 (List.mem_of_getElem? (i := 47) (by decide +kernel))) (by decide +kernel)
theorem tg_Arith : ∀ w ∈ Cond.classLink RX12 303 "java/lang/ArithmeticException" :: Cond.initialized "java/lang/ArithmeticException" :: vx_atS RX12 307 "java/lang/ArithmeticException" ["java/lang/RuntimeException", "java/lang/Exception"], vx_ot w = true := by decide +kernel
theorem ti_NoSuch : Cond.initialized "java/util/NoSuchElementException" ∈ Tb := inTb (tb_1 (List.mem_of_getElem? (i := 27) (by decide +kernel))) (by decide +kernel)
theorem tc_NoSuch : Cond.classLink RX12 157 "java/util/NoSuchElementException" ∈ Tb := inTb (tb_4 (List.mem_of_getElem? (i := 67) (by decide +kernel))) (by decide +kernel)
theorem tg_NoSuch : ∀ w ∈ Cond.classLink RX12 157 "java/util/NoSuchElementException" :: Cond.initialized "java/util/NoSuchElementException" :: vn_at RX12 161 "java/util/NoSuchElementException" "java/lang/RuntimeException" ["java/lang/Exception"], vx_ot w = true := by decide +kernel

/-! Enum.ordinal of a verb: called through the enum's own class, whose superclass is not said to be initialised: its three instructions are walked in place -/
abbrev yVo : MethodName := ⟨"ButtonRegistry$Verb", "ordinal", "()I"⟩
theorem ord_d0 : decode cJx29ce0_ordinal_8abf5 0 = .ok (.aload_n 0, 1) := by decide +kernel
theorem ord_d1 : decode cJx29ce0_ordinal_8abf5 1 = .ok (.getfield 7, 3) := by decide +kernel
theorem ord_d4 : decode cJx29ce0_ordinal_8abf5 4 = .ok (.ireturn, 1) := by decide +kernel
section ORDINAL
variable {p : Program} {l : Launch} {e : Env} {R : Room} {s : State} {m : MethodId} {args : Array Value} {below : List Frame} {meth : Method} {c : Code} {T : State} {locs : List Loc} {cells slots : Nat}
set_option maxHeartbeats 1000000 in
theorem vn_ordinal (X : Stand p l e R s m args below meth c T locs cells slots) (hexec : p.tables.exec = Jvm.exec) {own : String} {index : Nat} (hown : s.vm.findClass own = some m.cls)
    (hlink : (Cond.methodLink own index yVo).before args s = true) (hsame : (Cond.sameMethod "ButtonRegistry$Verb" "java/lang/Enum" "ordinal" "()I").before args s = true) (hsel : (Cond.selects "ButtonRegistry$Verb" yVo yJx29ce0_ordinal_8abf5).before args s = true)
    (hinst : (Cond.instanceMethod yJx29ce0_ordinal_8abf5).before args s = true) (hcode : (Cond.code yJx29ce0_ordinal_8abf5 cJx29ce0_ordinal_8abf5 1 (some .int)).before args s = true) (hfl : (Cond.fieldLink "java/lang/Enum" 7 "java/lang/Enum" "ordinal" "I").before args s = true)
    {a : Addr} {cellB cell : Cell} (hcellB : T.heap[a]? = some cellB) (hobj : cellB.vm.isStatics = false) (hcls : s.vm.findClass "ButtonRegistry$Verb" = some cellB.cls)
    {cf i : Nat} {k : Class} {f : Field} {v : Int32} (hi : s.fieldFound? "java/lang/Enum" "ordinal" "I" = some (cf, k, i, f)) (hst : f.isStatic = false) (hcell : T.heap[a]? = some cell) (hknown : cell.vm ≠ .unknown) (hslot : cell.slots[f.slot]? = some (.int v))
    {g : JFrame} (hg : g.method = m) (hsize : g.locals.size = c.maxLocals) {rest : List Value} (hstack : g.stack = .ref a :: rest) (hdg : decode c.code g.pc = .ok (.invokevirtual index, 3))
    (hframes : 1 ≤ R.frames) (hlocals : 2 * g.monitorRoom + (rest.map fun v => v.category).sum + 12 ≤ R.locals) :
    ∃ vm', Stand p l e R s m args below meth c (T.setVm vm') locs cells slots ∧
      ∀ target, Steps p.tables e below ((T.setVm vm').setTop { g with pc := g.pc + 3, stack := .int v :: rest }) target → Steps p.tables e below (T.setTop g) target := by
  have hpl : e.platform.magicAccessors = ({} : Platform).magicAccessors := by rw [X.admits.platform]
  obtain ⟨r0, r, hn, hrm, hstR, hsigR⟩ := va_Decl.of hinst hcode
  obtain ⟨cn, ck, r1, hcn, hck, hni, hf, hn1⟩ := Cond.sameMethod_found hsame
  have hr01 : r1 = r0 := Option.some.inj (hn1.symm.trans hn)
  subst hr01
  obtain ⟨mk, methM, hnamed, hmethM, -, habM⟩ := Cond.instanceMethod_spec hinst
  obtain ⟨methM', cM, hmethM', hcM, hbM, hlM, hretM, hlockM, -, hsigM⟩ := Cond.code_spec hnamed hcode
  cases hmethM.symm.trans hmethM'
  obtain ⟨c2, r2, m2, q1, q2, q3, q4, kP, hkP, hkPi⟩ := Cond.selects_spec hsel
  cases hcls.symm.trans q1
  cases hf.symm.trans q2
  cases hnamed.symm.trans q3
  have hselP : selectMethod e.platform s.vm cellB.cls r1 = .method mk := by rw [Launch.admits_selectMethod X.admits]; exact q4
  have hsig : parseMethodDescriptor "()I" = some { parameters := [], returnType := some .int } := by decide +kernel
  obtain ⟨vm₁, X₁, hstep₁⟩ := X.invokevirtualUp hexec hown hlink (owner := "java/lang/Enum") hsame (by decide) hn hrm hstR (a := a) (cell := cellB) hcellB
    (fun z h => by rw [h] at hobj; cases hobj) hselP hmethM habM hkP hkPi (g := g) hg (argsL := []) (rest := rest) (by have h := hsigR; rw [show yJx29ce0_ordinal_8abf5.desc = "()I" from rfl, hsig] at h; rw [← Option.some.inj h]; rfl) hstack hdg
  have hW₁ : s.WarmedH vm₁ := X₁.warmed
  have hmT₁ : (T.setVm vm₁).vm.method? mk = some methM := by show vm₁.method? mk = some methM; rw [hW₁.alike.method?]; exact hmethM
  obtain ⟨kT, hkT, hnameT⟩ := className_of_methodNamed hnamed
  have hplainT : (T.setVm vm₁).plainMethod mk := by
    refine State.plainMethod.of_name ?_
    intro k9 hk9
    obtain ⟨k', hk', he'⟩ := hW₁.alike.2.2 _ _ hkT
    cases (show vm₁.classes[mk.cls]? = some k9 from hk9).symm.trans hk'
    rw [he']; show plainName kT.name = true; rw [hnameT]; decide +kernel
  have hAt₁ : At (T.setVm vm₁) ({ g with stack := rest } : JFrame).method c below := by rw [show ({ g with stack := rest } : JFrame).method = m from hg]; exact X₁.here
  have hU := hAt₁.enter #[.ref a] hmT₁ hcM hplainT
  rw [hlM] at hU
  obtain ⟨ci', cfl, k', i', f', hi', hlinks, hright⟩ := Cond.fieldLink_spec (findClass_of_methodNamed hnamed) hfl e.platform hpl
  cases hi.symm.trans hi'
  obtain ⟨hk, hff⟩ := State.fieldFound?_spec hi
  obtain ⟨vm₂, hgives, hW₂, hready, hfi⟩ := State.fieldEntry (e := e) X₁.warmed hlinks hright hk hff
  have X₂ : Stand p l e R s m args below meth c (T.setVm vm₂) locs cells slots := X₁.noted hW₂
  refine ⟨vm₂, X₂, fun target hrest => hstep₁ _ fun acts => ?_⟩
  rw [show (Value.ref a :: ([] : List Value)).toArray = #[Value.ref a] from rfl, doInvoke_enter (g := { g with stack := rest }) X₁.here.top acts hmT₁ hcM hlockM (X₁.notFull (g := { g with stack := rest }) hsize hframes (by rw [hlM]; show 2 * g.monitorRoom + (rest.map fun v => v.category).sum + (1 + 11) ≤ R.locals; omega)), hlM]
  have hfU : (((T.setVm vm₁).setTop { g with stack := rest }).pushFrame (.java (entryFrame mk #[.ref a] 1))).frames = .java (entryFrame mk #[.ref a] 1) :: .java { g with stack := rest } :: below := by
    rw [frames_entered (s := T.setVm vm₁) (g := { g with stack := rest }) X₁.here.top, X₁.tail]
  have hback : ∀ vm, ((((T.setVm vm₁).setTop { g with stack := rest }).pushFrame (.java (entryFrame mk #[.ref a] 1))).setVm vm).setFrames (.java { g with stack := rest } :: below) = (T.setVm vm).setTop { g with stack := rest } := by
    intro vm
    have h := setFrames_entered (s := T.setVm vm) (g := { g with stack := rest }) X.here.top (.java (entryFrame mk #[.ref a] 1))
    rw [show (T.setVm vm).frames.tail = below from X.tail] at h
    exact h
  have hheap : (((T.setVm vm₁).setTop { g with stack := rest }).pushFrame (.java (entryFrame mk #[.ref a] 1))).heap = T.heap := rfl
  have hUvm : (((T.setVm vm₁).setTop { g with stack := rest }).pushFrame (.java (entryFrame mk #[.ref a] 1))).vm = vm₁ := rfl
  have hentry : entryFrame mk #[.ref a] 1 = { method := mk, pc := 0, locals := #[.val (.ref a)], stack := [], locked := none } := rfl
  rw [hentry] at hfU hU hback hheap hUvm ⊢
  generalize (((T.setVm vm₁).setTop { g with stack := rest }).pushFrame (.java { method := mk, pc := 0, locals := #[.val (.ref a)], stack := [], locked := none })) = U at hU hfU hback hheap hUvm ⊢
  have hU₂ : At (U.setVm vm₂) mk cM below := hU.setVm (by rw [hUvm]; exact hW₁.alike.symm.trans hW₂.alike)
  have hfU₂ : (U.setVm vm₂).frames = .java { method := mk, pc := 0, locals := #[.val (.ref a)], stack := [], locked := none } :: .java { g with stack := rest } :: below := hfU
  have hm₂ : (U.setVm vm₂).vm.method? mk = some methM := by show vm₂.method? mk = some methM; rw [hW₂.alike.method?]; exact hmethM
  have hret : methM.sig.returnType = some .int := hretM
  have hgc : (U.setVm vm₂).code? g.method = some c := by
    have h := X₂.here.code
    rw [State.code?_eq] at h ⊢
    rw [hg]; exact h
  have hsz : vm₂.classes.size ≤ U.vm.classes.size := by rw [hUvm]; exact Nat.le_of_eq (hW₂.alike.2.1.trans hW₁.alike.2.1.symm)
  have hgU : (Jvm.resolveField mk.cls 7).Gives e.toSetting U.vm (.ok (cf, i)) vm₂ := by rw [hUvm]; exact hgives
  have hcU : (U.setVm vm₂).heap[a]? = some cell := by show U.heap[a]? = _; rw [hheap]; exact hcell
  have d0 : decode cM.code 0 = .ok (.aload_n 0, 1) := by rw [hbM]; exact ord_d0
  have d1 : decode cM.code 1 = .ok (.getfield 7, 3) := by rw [hbM]; exact ord_d1
  have d4 : decode cM.code 4 = .ok (.ireturn, 1) := by rw [hbM]; exact ord_d4
  refine Steps.instr (c := cM) (f := { method := mk, pc := 0, locals := #[.val (.ref a)], stack := [], locked := none }) hU ?_
  simp [jvm, wpRun, exec, hU.top, hexec, d0, Value.category]
  refine ⟨rfl, ?_⟩
  refine Steps.instr (c := cM) (f := { method := mk, pc := 1, locals := #[.val (.ref a)], stack := [.ref a], locked := none }) hU ?_
  simp [jvm, wpRun, exec, hU.top, hexec, d1, getfield.wp_cold (e := e) (s := U) (f := { method := mk, pc := 1, locals := #[.val (.ref a)], stack := [.ref a], locked := none }) hU.top hgU hready hfi hsz,
    getfield.wp_ready (e := e) (s := U.setVm vm₂) (f := { method := mk, pc := 1, locals := #[.val (.ref a)], stack := [.ref a], locked := none }) (rest := []) hU.top hready hst rfl hcU hknown hslot]
  refine Steps.instr (c := cM) (f := { method := mk, pc := 4, locals := #[.val (.ref a)], stack := [.int v], locked := none }) hU₂ ?_
  simp [jvm, wpRun, exec, hU₂.top, hexec, d4, hm₂, hret, narrow]
  refine ⟨_, State.topJava?_of_frames (State.frames_setTop' _ hU₂.top), v, [], rfl, methM, hm₂, .int, hret, fun acts2 => ?_⟩
  show Steps p.tables e below (doReturn e ((U.setVm vm₂).setTop { method := mk, pc := 4, locals := #[.val (.ref a)], stack := [], locked := none }) acts2 (some (.int v))).1 target
  rw [doReturn_leave (g := { g with stack := rest }) (meth := methM) (cg := c) (ig := .invokevirtual index) (len := 3) acts2 hfU₂ hm₂ hlockM rfl rfl hgc hdg, hback, State.setTop_setTop]
  exact hrest
end ORDINAL
theorem V_ord {G : GT} {K : MT} {d c s : Nat} {Q : Option Value → Heap → Prop} {X : String → Heap → Prop} {H : Heap} {L : List (Option Value)} {rest : List Value} {pc i idx : Nat} (hi : i < 11) (hd : decode K.2.1 pc = .ok (.invokevirtual idx, 3)) (hl : Cond.methodLink K.1.cls idx yVo ∈ Tb) (h1 : Cond.sameMethod "ButtonRegistry$Verb" "java/lang/Enum" "ordinal" "()I" ∈ Tb) (h2 : Cond.selects "ButtonRegistry$Verb" yVo yJx29ce0_ordinal_8abf5 ∈ Tb) (h3 : Cond.instanceMethod yJx29ce0_ordinal_8abf5 ∈ Tb) (h4 : Cond.code yJx29ce0_ordinal_8abf5 cJx29ce0_ordinal_8abf5 1 (some .int) ∈ Tb) (h5 : Cond.fieldLink "java/lang/Enum" 7 "java/lang/Enum" "ordinal" "I" ∈ Tb) (hdd : 1 ≤ d) (h8 : (rest.map fun v => v.category).sum ≤ 8)
    (k : V G K d c s Q X (pc + 3) L (.int (nI i) :: rest) H) : V G K d c s Q X pc L (.ref (gA G (1100 + i)) :: rest) H := by
  intro p e R st m args below meth co ls locs ce sl hC hl2 hS hc hs T hT X0
  have hE := hC.ku.1.2.2.2.2.1.2.2.2.2.2.2.2.1 i hi
  have hkept : ∀ q : Nat, q < (gB G).heap.size → ¬ gF G q → H[q]? = (gB G).heap[q]? := fun q g1 g2 => (hS.2.1 q (Nat.lt_of_lt_of_le g1 hC.ku.2.2.1) g2).trans (hC.ku.2.2.2.1 q g1 g2)
  obtain ⟨cellB, b1, b2, b3, -⟩ := va_O.moved hC.ku.2.1.alike (hE.1.kept hkept)
  obtain ⟨cf, kf, fi, f, cell, f1, f2, f3, f4, f5, -⟩ := va_OF.moved hC.ku.2.1.alike (hE.2.1.kept hkept)
  have hlo := hC.lo
  obtain ⟨vm', X1, st1⟩ := vn_ordinal X0 hC.1 hC.own (hC.w _ hl) (hC.w _ h1) (hC.w _ h2) (hC.w _ h3) (hC.w _ h4) (hC.w _ h5) (a := gA G (1100 + i)) (by rw [hT]; exact b1) b2 b3 f1 f2 (by rw [hT]; exact f3) f4 f5 (g := F0 m pc ls (.ref (gA G (1100 + i)) :: rest)) rfl (hl2.1.1.trans (hl2.2.trans hC.2.2.1.symm)) (rest := rest) rfl (by rw [hC.2.1]; exact hd) (Nat.le_trans hdd hC.fr) (by show 2 * 0 + _ + 12 ≤ _; omega)
  obtain ⟨t, a1, b1⟩ := k p e R st m args below meth co ls locs ce sl hC hl2 hS hc hs (T.setVm vm') hT X1
  exact ⟨t, st1 t a1, b1⟩

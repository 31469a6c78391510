theorem selP {C : String} {y y2 : MethodName} {s : State} {args : Array Value} {n : Nat} (hy : y.cls ≠ "java/lang/invoke/MethodHandle" ∧ y.cls ≠ "java/lang/invoke/VarHandle") (hins : (Cond.instantiable C n).before args s = true) (hpriv : (Cond.privateMethod y).before args s = true) (hinst : (Cond.instanceMethod y).before args s = true) (h2 : y2.cls = y.cls) (hin2 : (Cond.instanceMethod y2).before args s = true) (hse2 : (Cond.selects C y2 y2).before args s = true) : (Cond.selects C y y).before args s = true := by
  obtain ⟨c, k, hc, hk, -, hniab, -, -⟩ := Cond.instantiable_spec hins
  have hni : k.isInterface = false := (Bool.or_eq_false_iff.mp hniab).1
  obtain ⟨mk, methM, hnamed, hmethM, -, -⟩ := Cond.instanceMethod_spec hinst
  obtain ⟨mk2, methM2, hnamed2, hmethM2, -, -⟩ := Cond.instanceMethod_spec hin2
  have hfound : s.methodFound? y.cls y.name y.desc = some mk := State.methodFound?_of_named hnamed hy
  have hfound2 : s.methodFound? y2.cls y2.name y2.desc = some mk2 := State.methodFound?_of_named hnamed2 (h2 ▸ hy)
  have hsel : selectMethod {} s.vm c mk = .method mk := selectMethod_private hmethM (Cond.privateMethod_at hpriv mk methM hnamed hmethM)
  have hcl : mk2.cls = mk.cls := Option.some.inj ((findClass_of_methodNamed hnamed2).symm.trans (h2 ▸ findClass_of_methodNamed hnamed))
  simp only [Cond.before, Cond.holds, Cond.value, hc, hfound2, hnamed2, hcl] at hse2
  simp only [Cond.before, Cond.holds, Cond.value, hc, hfound, hnamed, hsel, hk]
  cases hq : s.vm.classes[mk.cls]? with
  | none =>
    rw [hq] at hse2
    exfalso
    revert hse2
    cases selectMethod {} s.vm c mk2 <;> simp
  | some kk =>
    rw [hq] at hse2
    revert hse2
    cases selectMethod {} s.vm c mk2 <;> simp
section PRIVRUN
variable {G : GT} {K : MT} {H : Heap} {rest : List Value} {pc : Nat}
theorem runP {K2 : MT} {C : String} {y2 : MethodName} {idx n N b ci : Nat} {fs As : List Value} (hd : decode K.2.1 pc = .ok (.invokevirtual idx, 3)) (hce : CE K2 n) (hh : K2.2.2.2.2 = []) (hl : Cond.methodLink K.1.cls idx K2.1 ∈ Tb) (hin : Cond.instanceMethod K2.1 ∈ Tb) (hins : Cond.instantiable C N ∈ Tb) (hpr : Cond.privateMethod K2.1 ∈ lw_tbl) (h2 : y2.cls = K2.1.cls) (hin2 : Cond.instanceMethod y2 ∈ Tb) (hse2 : Cond.selects C y2 y2 ∈ Tb) (hr : ro G H b ci fs) (hci : ∃ q : vw_C, vwCl[ci]? = some q ∧ q.1 = C) (hn : As.length = n) (h8 : (rest.map fun v => v.category).sum ≤ 8) : RunsTo G K pc (As.reverse ++ .ref b :: rest) rest K2 (.ref b :: As) H := by
  intro d c s d2 c2 s2 Q2 X2 hM h1 h2' h3 p e R st m args below meth co ls locs ce sl hC hls hS hc hs
  have hcw : Cond.code K2.1 K2.2.1 K2.2.2.1 K2.2.2.2.1 ∈ Tb := by have := hce.1; unfold hdK at this; rw [hh] at this; exact this
  have hcm : Cond.code K2.1 K2.2.1 K2.2.2.1 K2.2.2.2.1 ∈ hdK K2 :: Tb := List.mem_cons_of_mem _ hcw
  obtain ⟨b0, hb0⟩ := hC.ku.1.2.2.2.2.2.2
  have tb := fun (w : Cond) (hw : w ∈ Tb) => hb0 w (List.mem_filter.mp hw).1
  have hsel0 := selP hce.2.2.1 (tb _ hins) (hb0 _ hpr) (tb _ hin) h2 (tb _ hin2) (tb _ hse2)
  have hsel : (Cond.selects C K2.1 K2.1).before args st = true := word_at hC.ku.2.1 (good_of_word rfl) hsel0
  exact vx_runV (Ts := Tb) (C := C) (As := As) (rest := rest) (g := F0 m pc ls (As.reverse ++ .ref b :: rest)) ⟨hC.1, hC.2.1, hC.2.2.1, hC.own, hC.w⟩ hM ⟨⟨rfl, rfl, Nat.le_trans h1 hC.fr, lo_ok hce h1 hC.lo, okTb hC.w hce.ws, hcm, hC.w _ hcw, hC.w _ hce.2.1, hce.2.2.1, hce.ar, hC.w _ hl⟩, hC.w _ hin, hsel⟩ ⟨KU.blind, hr.cell hC hci, fun U hU hW => ⟨rfl, hU, KU.next hC hS hU hW⟩⟩ rfl hn hls rfl (by show 2 * 0 + _ ≤ 8; omega) hd ⟨Nat.le_trans (Nat.add_le_add_left h2' ce) hc, Nat.le_trans (Nat.add_le_add_left h3 sl) hs⟩
end PRIVRUN

theorem selP {C : String} {y y2 : MethodName} {s : State} {args : Array Value} {n : Nat} (hy : y.cls ≠ "java/lang/invoke/MethodHandle" ∧ y.cls ≠ "java/lang/invoke/VarHandle") (hins : (Cond.instantiable C n).before args s = true) (hpriv : (Cond.privateMethod y).before args s = true) (hinst : (Cond.instanceMethod y).before args s = true) (h2 : y2.cls = y.cls) (hin2 : (Cond.instanceMethod y2).before args s = true) (hse2 : (Cond.selects C y2 y2).before args s = true) : (Cond.selects C y y).before args s = true := by
  obtain ⟨c, k, hc, hk, -, hniab, -, -⟩ := Cond.instantiable_spec hins
  have hni : k.isInterface = false := (Bool.or_eq_false_iff.mp hniab).1
  obtain ⟨mk, methM, hnamed, hmethM, -, -⟩ := Cond.instanceMethod_spec hinst
  obtain ⟨mk2, methM2, hnamed2, hmethM2, -, -⟩ := Cond.instanceMethod_spec hin2
  have hfound : s.methodFound? y.cls y.name y.desc = some mk := State.methodFound?_of_named hnamed hy
  have hfound2 : s.methodFound? y2.cls y2.name y2.desc = some mk2 := State.methodFound?_of_named hnamed2 (h2 ▸ hy)
  have hsel : selectMethod {} s.vm c mk = .method mk := selectMethod_private hmethM (Cond.privateMethod_at hpriv mk methM hnamed hmethM)
  have hcl : mk2.cls = mk.cls := Option.some.inj ((findClass_of_methodNamed hnamed2).symm.trans (h2 ▸ findClass_of_methodNamed hnamed))
  simp only [Cond.before, Cond.holds, Cond.value, hc, hfound2, hnamed2, hcl] at hse2
  simp only [Cond.before, Cond.holds, Cond.value, hc, hfound, hnamed, hsel, hk]
  cases hq : s.vm.classes[mk.cls]? with
  | none =>
    rw [hq] at hse2
    exfalso
    revert hse2
    cases selectMethod {} s.vm c mk2 <;> simp
  | some kk =>
    rw [hq] at hse2
    revert hse2
    cases selectMethod {} s.vm c mk2 <;> simp

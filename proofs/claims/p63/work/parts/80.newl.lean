theorem V_newL {G : GT} {K : MT} {d c s : Nat} {Q : Option Value → Heap → Prop} {X : String → Heap → Prop} {H : Heap} {L : List (Option Value)} {rest : List Value} {pc : Nat} {atype : ArrayType} {kk : Nat} {n : Int32} {N : Nat} (hd : decode K.2.1 pc = .ok (.newarray atype, 2)) (hw : Cond.arrayClass (newarray.typeOf atype) ∈ Tb) (hk : (tyL (gT G))[kk]? = some (gT G kk, newarray.typeOf atype)) (hty : newarray.typeOf atype = tyK kk) (hdv : defaultValue (newarray.typeOf atype) = .long 0) (hp : ∀ C, newarray.typeOf atype ≠ .object C) (hn : ¬ n < 0) (hN : n.toNatClampNeg = N) (hb : N * componentBytes (newarray.typeOf atype) ≤ 536870912) (h1 : 1 ≤ c) (h2 : N ≤ s)
    (kk0 : ∀ H1 : Heap, ar G H1 H.size kk (la (List.replicate N 0)) → gF G H.size → H1.size = H.size + 1 → (∀ q : Nat, q < H.size → H1[q]? = H[q]?) → V G K d (c - 1) (s - N) Q X (pc + 2) L (.ref H.size :: rest) H1) : V G K d c s Q X pc L (.int n :: rest) H := by
  intro p e R st m args below meth co ls locs ce sl hC hl hS hc hs
  refine va_newaK hC.1 hC.2.1 (hC.w _ hw) rfl hd rfl hn hN hb (by omega) (by omega) rfl fun H1 cA e1 z1 o1 ha hf => ?_
  have hra := (hC.k.2 kk _ hk).2
  have hcA : gT G kk = cA := by
    have h3 : st.vm.findClass ("[" ++ (newarray.typeOf atype).toString) = some (gT G kk) := by
      revert hra hp
      generalize newarray.typeOf atype = ty
      intro hp hra
      cases ty with
      | object C => exact absurd rfl (hp C)
      | _ => exact hra
    exact Option.some.inj (h3.symm.trans hf)
  have har : ar G H1 H.size kk (la (List.replicate N 0)) := by
    refine ⟨?_, fun j z => ?_⟩
    · rw [e1, hdv, ← hcA]
      unfold la
      rw [vp_cell_l, List.length_replicate]
      congr 2
      funext j
      congr 1
      simp [List.getD_eq_getElem?_getD, List.getElem?_replicate]
      split <;> rfl
    · have h4 := (hC.ku.1.2.1.2 kk _ hk).1 j z
      rw [← hty]
      exact h4
  exact kk0 H1 har (Nat.le_trans hC.ku.2.2.1 hS.1) z1 o1 p e R st m args below meth co ls locs (ce + 1) (sl + N) hC hl ⟨Nat.le_trans hS.1 (by rw [z1]; omega), fun x g1 g2 => (o1 x (Nat.lt_of_lt_of_le g1 hS.1)).trans (hS.2.1 x g1 g2), hS.2.2⟩ (by omega) (by omega)
theorem V_mkL (t : Nat) {G : GT} {K : MT} {d c s : Nat} {Q : Option Value → Heap → Prop} {X : String → Heap → Prop} {H : Heap} {L : List (Option Value)} {rest : List Value} {pc : Nat} {g : Nat → Nat} {atype : ArrayType} {n : Int32} {N : Nat} (hd : decode K.2.1 pc = .ok (.newarray atype, 2)) (hw : Cond.arrayClass (newarray.typeOf atype) ∈ Tb) (hk : (tyL (gT G))[4]? = some (gT G 4, newarray.typeOf atype)) (hty : newarray.typeOf atype = tyK 4) (hdv : defaultValue (newarray.typeOf atype) = .long 0) (hp : ∀ C, newarray.typeOf atype ≠ .object C) (hn : ¬ n < 0) (hN : n.toNatClampNeg = N) (hb : N < 2 ^ 20) (hb2 : N * componentBytes (newarray.typeOf atype) ≤ 536870912) (h1 : 1 ≤ c) (h2 : N ≤ s)
    (kk0 : ∀ (a : Nat) (H1 : Heap) (g1 : Nat → Nat), La G H1 g1 t a (List.replicate N 0) → Ext G [] H g H1 g1 → a = H.size → V G K d (c - 1) (s - N) Q X (pc + 2) L (.ref a :: rest) H1) : V G K d c s Q X pc L (.int n :: rest) H :=
  V_newL hd hw hk hty hdv hp hn hN hb2 h1 h2 fun H1 h3 hf hz ho => kk0 H.size H1 (gset g H.size t) ⟨⟨h3, by rw [List.length_replicate]; exact hb⟩, tg_new hf⟩ (Ext.mk hz ho) rfl

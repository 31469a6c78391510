/-! the rules of V once more, with tags -/
section RULES2
variable {G : GT} {K : MT} {d c s : Nat} {Q : Option Value → Heap → Prop} {X : String → Heap → Prop} {H : Heap} {L : List (Option Value)} {rest : List Value} {pc : Nat} {g : Nat → Nat}
theorem V_put {idx ci k : Nat} {ty : FieldType} {fin : Bool} {t a : Nat} {fs fs2 : List Value} {v : Value} (hd : decode K.2.1 pc = .ok (.putfield idx, 3)) (hf : FP K.1 idx ci k ty fin) (h : Ob G H g t a ci fs) (ht : t ≠ 0) (hn : narrow ty v = v ∧ fits ty v = true) (hl0 : k < fs.length) (hfs : fs.set k v = fs2)
    (kk : ∀ H1 : Heap, Ob G H1 g t a ci fs2 → Ext G [t] H g H1 g → H1.size = H.size → V G K d c s Q X (pc + 3) L rest H1) : V G K d c s Q X pc L (v :: .ref a :: rest) H :=
  V_putf hd hf h.1 (tg_pos (h.2 ▸ ht)) hn hl0 fun H1 h1 hz ho => kk H1 ⟨hfs ▸ h1, h.2⟩ (Ext.put hz ho (h.2 ▸ List.mem_singleton.mpr rfl)) hz
theorem V_ias {t a : Nat} {l : List Int32} {i x : Int32} (hd : decode K.2.1 pc = .ok (.iastore, 1)) (h : Ia G H g t a 0 l) (ht : t ≠ 0) (hi : vp_in i l.length)
    (kk : ∀ H1 : Heap, Ia G H1 g t a 0 (l.set i.toNatClampNeg x) → Ext G [t] H g H1 g → H1.size = H.size → V G K d c s Q X (pc + 1) L rest H1) : V G K d c s Q X pc L (.int x :: .int i :: .ref a :: rest) H :=
  V_iast hd h.1.1 (tg_pos (h.2 ▸ ht)) hi fun H1 h1 hz ho => kk H1 ⟨⟨h1, by rw [List.length_set]; exact h.1.2⟩, h.2⟩ (Ext.put hz ho (h.2 ▸ List.mem_singleton.mpr rfl)) hz
theorem V_cas {t a : Nat} {l : List Int32} {i x : Int32} (hd : decode K.2.1 pc = .ok (.castore, 1)) (h : Ia G H g t a 1 l) (ht : t ≠ 0) (hi : vp_in i l.length) (hx : narrow .char (.int x) = .int x)
    (kk : ∀ H1 : Heap, Ia G H1 g t a 1 (l.set i.toNatClampNeg x) → Ext G [t] H g H1 g → H1.size = H.size → V G K d c s Q X (pc + 1) L rest H1) : V G K d c s Q X pc L (.int x :: .int i :: .ref a :: rest) H :=
  V_cast hd h.1.1 (tg_pos (h.2 ▸ ht)) hi hx fun H1 h1 hz ho => kk H1 ⟨⟨h1, by rw [List.length_set]; exact h.1.2⟩, h.2⟩ (Ext.put hz ho (h.2 ▸ List.mem_singleton.mpr rfl)) hz
theorem V_bas {t a : Nat} {l : List Int32} {i x : Int32} (hd : decode K.2.1 pc = .ok (.bastore, 1)) (h : Ia G H g t a 2 l) (ht : t ≠ 0) (hi : vp_in i l.length) (hx : narrow .byte (.int x) = .int x)
    (kk : ∀ H1 : Heap, Ia G H1 g t a 2 (l.set i.toNatClampNeg x) → Ext G [t] H g H1 g → H1.size = H.size → V G K d c s Q X (pc + 1) L rest H1) : V G K d c s Q X pc L (.int x :: .int i :: .ref a :: rest) H :=
  V_bast hd h.1.1 (tg_pos (h.2 ▸ ht)) hi hx fun H1 h1 hz ho => kk H1 ⟨⟨h1, by rw [List.length_set]; exact h.1.2⟩, h.2⟩ (Ext.put hz ho (h.2 ▸ List.mem_singleton.mpr rfl)) hz
theorem V_las {t a : Nat} {l : List Int64} {i : Int32} {x : Int64} (hd : decode K.2.1 pc = .ok (.lastore, 1)) (h : La G H g t a l) (ht : t ≠ 0) (hi : vp_in i l.length)
    (kk : ∀ H1 : Heap, La G H1 g t a (l.set i.toNatClampNeg x) → Ext G [t] H g H1 g → H1.size = H.size → V G K d c s Q X (pc + 1) L rest H1) : V G K d c s Q X pc L (.long x :: .int i :: .ref a :: rest) H :=
  V_last hd h.1.1 (tg_pos (h.2 ▸ ht)) hi fun H1 h1 hz ho => kk H1 ⟨⟨h1, by rw [List.length_set]; exact h.1.2⟩, h.2⟩ (Ext.put hz ho (h.2 ▸ List.mem_singleton.mpr rfl)) hz
theorem V_oas {t a y : Nat} {l : List (Option Nat)} {i : Int32} (hd : decode K.2.1 pc = .ok (.aastore, 1)) (h : Oa G H g t a l) (ht : t ≠ 0) (hi : vp_in i l.length) (hy : elO G H y)
    (kk : ∀ H1 : Heap, Oa G H1 g t a (l.set i.toNatClampNeg (some y)) → Ext G [t] H g H1 g → H1.size = H.size → V G K d c s Q X (pc + 1) L rest H1) : V G K d c s Q X pc L (.ref y :: .int i :: .ref a :: rest) H :=
  V_aast hd h.1.1 (tg_pos (h.2 ▸ ht)) hi hy fun H1 h1 hz ho => kk H1 ⟨⟨h1, by rw [List.length_set]; exact h.1.2⟩, h.2⟩ (Ext.put hz ho (h.2 ▸ List.mem_singleton.mpr rfl)) hz
theorem V_mk (t : Nat) {idx ci : Nat} {fs : List Value} (hd : decode K.2.1 pc = .ok (.new idx, 3)) (hw : NW K.1.cls idx ci fs) (h1 : 1 ≤ c) (h2 : fs.length ≤ s)
    (kk : ∀ (a : Nat) (H1 : Heap) (g1 : Nat → Nat), Ob G H1 g1 t a ci fs → Ext G [] H g H1 g1 → a = H.size → V G K d (c - 1) (s - fs.length) Q X (pc + 3) L (.ref a :: rest) H1) : V G K d c s Q X pc L rest H :=
  V_new hd hw h1 h2 fun H1 h3 hf hz ho => kk H.size H1 (gset g H.size t) ⟨h3, tg_new hf⟩ (Ext.mk hz ho) rfl
theorem V_mkI (t : Nat) {atype : ArrayType} {kk : Nat} {n : Int32} {N : Nat} (hd : decode K.2.1 pc = .ok (.newarray atype, 2)) (hw : Cond.arrayClass (newarray.typeOf atype) ∈ Tb) (hk : (tyL (gT G))[kk]? = some (gT G kk, newarray.typeOf atype)) (hty : newarray.typeOf atype = tyK kk) (hdv : defaultValue (newarray.typeOf atype) = .int 0) (hp : ∀ C, newarray.typeOf atype ≠ .object C) (hn : ¬ n < 0) (hN : n.toNatClampNeg = N) (hb : N < 2 ^ 20) (hb2 : N * componentBytes (newarray.typeOf atype) ≤ 536870912) (h1 : 1 ≤ c) (h2 : N ≤ s)
    (kk0 : ∀ (a : Nat) (H1 : Heap) (g1 : Nat → Nat), Ia G H1 g1 t a kk (List.replicate N 0) → Ext G [] H g H1 g1 → a = H.size → V G K d (c - 1) (s - N) Q X (pc + 2) L (.ref a :: rest) H1) : V G K d c s Q X pc L (.int n :: rest) H :=
  V_newI hd hw hk hty hdv hp hn hN hb2 h1 h2 fun H1 h3 hf hz ho => kk0 H.size H1 (gset g H.size t) ⟨⟨h3, by rw [List.length_replicate]; exact hb⟩, tg_new hf⟩ (Ext.mk hz ho) rfl
theorem V_mono {c2 s2 : Nat} (h1 : c2 ≤ c) (h2 : s2 ≤ s) (k : V G K d c2 s2 Q X pc L rest H) : V G K d c s Q X pc L rest H :=
  fun p e R st m args below meth co ls locs ce sl hC hl hS hc hs => k p e R st m args below meth co ls locs ce sl hC hl hS (by omega) (by omega)
theorem V_ko {H2 : Heap} (k : V G K d c s Q X pc L rest H2) (e : H = H2) : V G K d c s Q X pc L rest H := e ▸ k
end RULES2
def b2i (b : Bool) : Int32 := if b then 1 else 0
theorem b2i_z (b : Bool) : narrow .boolean (.int (b2i b)) = .int (b2i b) := by cases b <;> rfl
theorem b2i_0 {b : Bool} : b2i b = 0 ↔ b = false := by cases b <;> decide
theorem b2i_n {b : Bool} : ¬ b2i b = 0 ↔ b = true := by cases b <;> decide
theorem startL {G : GT} {K : MT} {d c s : Nat} {Q : Option Value → Heap → Prop} {X : String → Heap → Prop} {H : Heap} {as : List Value} {L0 : List (Option Value)} (hL : entL K.2.2.1 as = L0) (hh : K.2.2.2.2 = []) (hy : plainName K.1.cls = true) (he : (lg_sl as).length ≤ K.2.2.1) (k : V G K d c s Q X 0 L0 [] H) : Call G K d c s as H Q X := start hh hy he (hL ▸ k)
theorem V_retb {G : GT} {K : MT} {d c s : Nat} {F : Int32 → Heap → Prop} {X : String → Heap → Prop} {H : Heap} {L : List (Option Value)} {pc : Nat} {v : Int32} (b : Bool) (hd : decode K.2.1 pc = .ok (.ireturn, 1)) (hr : K.2.2.2.1 = some .boolean) (hv : v = b2i b) (k : F (b2i b) H) : V G K d c s (qi F) X pc L [.int v] H := by
  subst hv
  exact V_zret hd hr (b2i_z b) ⟨_, rfl, k⟩
theorem V_reti {G : GT} {K : MT} {d c s : Nat} {F : Int32 → Heap → Prop} {X : String → Heap → Prop} {H : Heap} {L : List (Option Value)} {pc : Nat} {v w : Int32} (hd : decode K.2.1 pc = .ok (.ireturn, 1)) (hr : K.2.2.2.1 = some .int) (hv : v = w) (k : F w H) : V G K d c s (qi F) X pc L [.int v] H := by
  subst hv
  exact V_iret hd hr ⟨_, rfl, k⟩
theorem V_retv {G : GT} {K : MT} {d c s : Nat} {F : Heap → Prop} {X : String → Heap → Prop} {H : Heap} {L : List (Option Value)} {pc : Nat} (hd : decode K.2.1 pc = .ok (.return_, 1)) (hr : K.2.2.2.1 = none) (k : F H) : V G K d c s (qv F) X pc L [] H := V_vret hd hr ⟨rfl, k⟩
theorem V_reta {G : GT} {K : MT} {d c s : Nat} {F : Nat → Heap → Prop} {X : String → Heap → Prop} {H : Heap} {L : List (Option Value)} {pc v : Nat} {rt : FieldType} (hd : decode K.2.1 pc = .ok (.areturn, 1)) (hr : K.2.2.2.1 = some rt) (hrt : (∃ n, rt = .object n) ∨ ∃ t, rt = .array t) (k : F v H) : V G K d c s (qa F) X pc L [.ref v] H := V_aret hd hr hrt ⟨_, rfl, k⟩
section RULES3
variable {G : GT} {K : MT} {d c s : Nat} {Q : Option Value → Heap → Prop} {X : String → Heap → Prop} {H : Heap} {L : List (Option Value)} {rest : List Value} {pc : Nat}
theorem V_dup2 {va vb : Value} (hd : decode K.2.1 pc = .ok (.dup2, 1)) (ha : va.category = 1) (hb : vb.category = 1) (k : V G K d c s Q X (pc + 1) L (va :: vb :: va :: vb :: rest) H) : V G K d c s Q X pc L (va :: vb :: rest) H :=
  fun p e R st m args below meth co ls locs ce sl hC hl hS hc hs => lv_dup2_11 hC.1 hC.2.1 hd ha hb (k p e R st m args below meth co ls locs ce sl hC hl hS hc hs)
theorem V_dup_x1 {va vb : Value} (hd : decode K.2.1 pc = .ok (.dup_x1, 1)) (ha : va.category = 1) (hb : vb.category = 1) (k : V G K d c s Q X (pc + 1) L (va :: vb :: va :: rest) H) : V G K d c s Q X pc L (va :: vb :: rest) H :=
  fun p e R st m args below meth co ls locs ce sl hC hl hS hc hs => lv_dup_x1 hC.1 hC.2.1 hd ha hb (k p e R st m args below meth co ls locs ce sl hC hl hS hc hs)
end RULES3

/-- a command of a script with its arguments: the verb's number, the numbers, how many, the matter -/
abbrev OrdC : Type := Nat × List Int32 × Int32 × List Int32
def isOrd (G : GT) (H : Heap) (g : Nat → Nat) (a : Nat) (x : OrdC) : Prop := ∃ nu mo : Nat, Rz G H g a 8 [.ref (gA G (1100 + x.1)), .ref nu, .int x.2.2.1, .ref mo] ∧ (ra G H nu 0 5 (iv x.2.1) ∧ tg G g nu = 0) ∧ x.2.1.length = 5 ∧ Sz G H g mo x.2.2.2 ∧ x.1 < 11
theorem isOrd.fr {G : GT} {H H1 : Heap} {g g1 : Nat → Nat} {ts : List Nat} {a : Nat} {x : OrdC} (h : isOrd G H g a x) (e : Ext G ts H g H1 g1) (ht : 0 ∉ ts) : isOrd G H1 g1 a x := by
  obtain ⟨nu, mo, h1, ⟨h2, h3⟩, h4, h5, h6⟩ := h
  obtain ⟨e1, e2⟩ := e.2 nu h2.lt (by rw [h3]; exact ht)
  exact ⟨nu, mo, h1.fr e ht, ⟨h2.kept e1, e2.trans h3⟩, h4, h5.fr e ht, h6⟩
/-- the list of orders -/
def OL (G : GT) (H : Heap) (g : Nat → Nat) (t a : Nat) (xs : List OrdC) : Prop := ∃ rs : List Nat, AL G H g t a rs ∧ Al2 (isOrd G H g) rs xs
theorem OL.fr {G : GT} {H H1 : Heap} {g g1 : Nat → Nat} {ts : List Nat} {t a : Nat} {xs : List OrdC} (h : OL G H g t a xs) (e : Ext G ts H g H1 g1) (ht : t ∉ ts) (h0 : 0 ∉ ts) : OL G H1 g1 t a xs := by
  obtain ⟨rs, h1, h2⟩ := h
  exact ⟨rs, h1.fr e ht h0, h2.imp fun r x hx => hx.fr e h0⟩
/-- an order that is being read -/
def OrdW (G : GT) (H : Heap) (g : Nat → Nat) (od nu vb : Nat) (c : Int32) (mt : List Int32) : Prop := ∃ mo : Nat, Ob G H g 42 od 8 [.ref vb, .ref nu, .int c, .ref mo] ∧ Sz G H g mo mt ∧ ¬ c < 0
theorem OrdW.fr {G : GT} {H H1 : Heap} {g g1 : Nat → Nat} {ts : List Nat} {od nu vb : Nat} {c : Int32} {mt : List Int32} (h : OrdW G H g od nu vb c mt) (e : Ext G ts H g H1 g1) (ht : 42 ∉ ts) (h0 : 0 ∉ ts) : OrdW G H1 g1 od nu vb c mt := by
  obtain ⟨mo, h1, h2, h3⟩ := h
  exact ⟨mo, h1.fr e ht, h2.fr e h0, h3⟩
/-- a constant's text -/
theorem V_txt {G : GT} {K : MT} {d c s : Nat} {Q : Option Value → Heap → Prop} {X : String → Heap → Prop} {H : Heap} {L : List (Option Value)} {rest : List Value} {pc : Nat} {g : Nat → Nat} (i : Nat) {q : String × Nat × String} {l : List Int32} (hi : strT[i]? = some q) (hl : chars q.2.2 = l) (k : Sz G H g (gA G i) l → V G K d c s Q X pc L rest H) : V G K d c s Q X pc L rest H := by
  refine V_old fun hO hS => k ?_
  obtain ⟨ha, hn, b, x, z, h1, h2⟩ := (hO.2.2.2.2.1.1 i q hi).2
  subst hl
  have t0 : ∀ a, a < (gB G).heap.size → tg G g a = 0 := fun a h => by unfold tg; rw [if_pos h]
  exact ⟨ha, hn, b, x, z, ⟨h1.old hS, t0 _ h1.lt⟩, h2.old hS, t0 _ h2.lt⟩
def isDig (x : Int32) : Int32 := if x < 48 then 0 else if 57 < x then 0 else 1
set_option maxHeartbeats 1000000 in
set_option maxRecDepth 100000 in
theorem c_isDig {G : GT} {H : Heap} {X : String → Heap → Prop} {x : Int32} {F : Int32 → Heap → Prop} (kk : F (isDig x) H) : Call G kX12_isDigit 0 0 0 [.int x] H (qi F) X := by
  refine startL (L0 := [some (.int x)]) rfl rfl pl_X12_isDigit (Nat.le_of_ble_eq_true rfl) ?_
  refine V_iload_0 dX12_isDigit_0 ?_
  refine V_bipush (v := 48) dX12_isDigit_1 (by decide) ?_
  refine V_icmp_lt (tgt := 16) dX12_isDigit_3 (by decide) (fun c_3 => ?_) (fun c_3 => ?_)
  · refine V_iconst (v := 0) dX12_isDigit_16 rfl ?_
    exact V_retz dX12_isDigit_17 rfl rfl rfl (by rw [isDig, if_pos c_3] at kk; exact kk)
  · refine V_iload_0 dX12_isDigit_6 ?_
    refine V_bipush (v := 57) dX12_isDigit_7 (by decide) ?_
    refine V_icmp_gt (tgt := 16) dX12_isDigit_9 (by decide) (fun c_9 => ?_) (fun c_9 => ?_)
    · refine V_iconst (v := 0) dX12_isDigit_16 rfl ?_
      exact V_retz dX12_isDigit_17 rfl rfl rfl (by rw [isDig, if_neg c_3, if_pos c_9] at kk; exact kk)
    · refine V_iconst (v := 1) dX12_isDigit_12 rfl ?_
      refine V_goto (tgt := 17) dX12_isDigit_13 (by decide) ?_
      exact V_retz dX12_isDigit_17 rfl rfl rfl (by rw [isDig, if_neg c_3, if_neg c_9] at kk; exact kk)
def isLet (x : Int32) : Int32 := if x < 97 then 0 else if 122 < x then 0 else 1
set_option maxHeartbeats 1000000 in
set_option maxRecDepth 100000 in
theorem c_isLet {G : GT} {H : Heap} {X : String → Heap → Prop} {x : Int32} {F : Int32 → Heap → Prop} (kk : F (isLet x) H) : Call G kX12_isLetter 0 0 0 [.int x] H (qi F) X := by
  refine startL (L0 := [some (.int x)]) rfl rfl pl_X12_isLetter (Nat.le_of_ble_eq_true rfl) ?_
  refine V_iload_0 dX12_isLetter_0 ?_
  refine V_bipush (v := 97) dX12_isLetter_1 (by decide) ?_
  refine V_icmp_lt (tgt := 16) dX12_isLetter_3 (by decide) (fun c_3 => ?_) (fun c_3 => ?_)
  · refine V_iconst (v := 0) dX12_isLetter_16 rfl ?_
    exact V_retz dX12_isLetter_17 rfl rfl rfl (by rw [isLet, if_pos c_3] at kk; exact kk)
  · refine V_iload_0 dX12_isLetter_6 ?_
    refine V_bipush (v := 122) dX12_isLetter_7 (by decide) ?_
    refine V_icmp_gt (tgt := 16) dX12_isLetter_9 (by decide) (fun c_9 => ?_) (fun c_9 => ?_)
    · refine V_iconst (v := 0) dX12_isLetter_16 rfl ?_
      exact V_retz dX12_isLetter_17 rfl rfl rfl (by rw [isLet, if_neg c_3, if_pos c_9] at kk; exact kk)
    · refine V_iconst (v := 1) dX12_isLetter_12 rfl ?_
      refine V_goto (tgt := 17) dX12_isLetter_13 (by decide) ?_
      exact V_retz dX12_isLetter_17 rfl rfl rfl (by rw [isLet, if_neg c_3, if_neg c_9] at kk; exact kk)
def addNum (x : Int32) (c : Int32) (nm : List Int32) : Int32 × List Int32 := if 5 ≤ c then (c, nm) else (c + 1, sI nm c x)
set_option maxHeartbeats 1000000 in
set_option maxRecDepth 100000 in
theorem c_addNum {G : GT} {X : String → Heap → Prop} {H : Heap} {g : Nat → Nat} {od nu vb mo : Nat} {x : Int32} {c : Int32} {nm : List Int32} (hod : Ob G H g 42 od 8 [.ref vb, .ref nu, .int c, .ref mo]) (hnu : Ja G H g 43 nu 0 5 nm) (hc0 : ¬ c < 0) {F : Heap → Prop} (kk : ∀ (H1 : Heap) (g1 : Nat → Nat), Ob G H1 g1 42 od 8 [.ref vb, .ref nu, .int (addNum x c nm).1, .ref mo] → Ja G H1 g1 43 nu 0 5 (addNum x c nm).2 → Ext G [42, 43] H g H1 g1 → F H1) : Call G kX4_addNumber 0 0 0 [.ref od, .int x] H (qv F) X := by
  have E : Ext G [42, 43] H g H g := Ext.rf
  refine startL (L0 := [some (.ref od), some (.int x)]) rfl rfl pl_X4_addNumber (Nat.le_of_ble_eq_true rfl) ?_
  refine V_aload_0 dX4_addNumber_0 ?_
  refine V_getf dX4_addNumber_1 fl_X4_13 hod.ro rfl ?_
  refine V_aload_0 dX4_addNumber_4 ?_
  refine V_getf dX4_addNumber_5 fl_X4_7 hod.ro rfl ?_
  refine V_alen (v := 5) dX4_addNumber_8 hnu.1.ra (by rw [hnu.2]; rfl) ?_
  refine V_icmp_ge (tgt := 32) dX4_addNumber_9 (by decide) (fun c_9 => ?_) (fun c_9 => ?_)
  · exact V_retv dX4_addNumber_32 rfl (by rw [addNum, if_pos c_9] at kk; exact kk H g hod hnu E)
  · refine V_aload_0 dX4_addNumber_12 ?_
    refine V_getf dX4_addNumber_13 fl_X4_7 hod.ro rfl ?_
    refine V_aload_0 dX4_addNumber_16 ?_
    refine V_getf dX4_addNumber_17 fl_X4_13 hod.ro rfl ?_
    refine V_iload_1 dX4_addNumber_20 ?_
    refine V_ias dX4_addNumber_21 hnu.1 (by decide) (hnu.2 ▸ inR (n := 5) rfl (by decide) hc0 c_9) fun H1 hnew e1 z1 => ?_
    have hj : Ja G H1 g 43 nu 0 5 (sI nm c x) := ⟨hnew, sI_len.trans hnu.2⟩
    replace hod := hod.fr e1 (by decide)
    replace hc0 := hc0
    replace E := E.trans (e1.wide (by decide))
    replace hnu := hj
    clear hj hnew
    refine V_aload_0 dX4_addNumber_22 ?_
    refine V_dup dX4_addNumber_23 rfl ?_
    refine V_getf dX4_addNumber_24 fl_X4_13 hod.ro rfl ?_
    refine V_iconst (v := 1) dX4_addNumber_27 rfl ?_
    refine V_iadd dX4_addNumber_28 ?_
    refine V_put dX4_addNumber_29 fp_X4_addNumber_13 hod (by decide) ⟨rfl, rfl⟩ (Nat.le_of_ble_eq_true rfl) rfl fun H2 hnew e2 z2 => ?_
    replace hnu := hnu.fr e2 (by decide)
    replace hc0 := hc0
    replace E := E.trans (e2.wide (by decide))
    replace hod : Ob G H2 g 42 od 8 [.ref vb, .ref nu, .int (c + 1), .ref mo] := hnew
    clear hnew
    exact V_retv dX4_addNumber_32 rfl (by rw [addNum, if_neg c_9] at kk; exact kk H2 g hod hnu E)
theorem addNum_nn {x c : Int32} {nm : List Int32} (h : ¬ c < 0) : ¬ (addNum x c nm).1 < 0 := by
  unfold addNum
  split
  · exact h
  · rename_i q
    exact nn_step q h
theorem c_addN {G : GT} {X : String → Heap → Prop} {H : Heap} {g : Nat → Nat} {od nu vb : Nat} {x c : Int32} {nm mt : List Int32} (hod : OrdW G H g od nu vb c mt) (hnu : Ja G H g 43 nu 0 5 nm) {F : Heap → Prop} (kk : ∀ (H1 : Heap) (g1 : Nat → Nat), OrdW G H1 g1 od nu vb (addNum x c nm).1 mt → Ja G H1 g1 43 nu 0 5 (addNum x c nm).2 → Ext G [42, 43] H g H1 g1 → F H1) : Call G kX4_addNumber 0 0 0 [.ref od, .int x] H (qv F) X := by
  obtain ⟨mo, h1, h2, hc0⟩ := hod
  exact c_addNum h1 hnu hc0 fun H1 g1 a b e => kk H1 g1 ⟨mo, a, h2.fr e (by decide), addNum_nn hc0⟩ b e
theorem OrdW.o {G : GT} {H : Heap} {g : Nat → Nat} {od nu vb : Nat} {c : Int32} {mt : List Int32} (h : OrdW G H g od nu vb c mt) : ∃ fs, ro G H od 8 fs := by
  obtain ⟨mo, h1, -⟩ := h
  exact ⟨_, h1.ro⟩
set_option maxHeartbeats 1000000 in
set_option maxRecDepth 100000 in
theorem c_setMt {G : GT} {X : String → Heap → Prop} {H : Heap} {g : Nat → Nat} {od nu vb m : Nat} {c : Int32} {mt l : List Int32} (hod : OrdW G H g od nu vb c mt) (hm : Sz G H g m l) {F : Heap → Prop} (kk : ∀ H1 : Heap, OrdW G H1 g od nu vb c l → Ext G [42] H g H1 g → F H1) : Call G kX4_setMatter 0 0 0 [.ref od, .ref m] H (qv F) X := by
  obtain ⟨mo, ho, -, hc0⟩ := hod
  refine startL (L0 := [some (.ref od), some (.ref m)]) rfl rfl pl_X4_setMatter (Nat.le_of_ble_eq_true rfl) ?_
  refine V_aload_0 dX4_setMatter_0 ?_
  refine V_aload_1 dX4_setMatter_1 ?_
  refine V_put dX4_setMatter_2 fp_X4_setMatter_19 ho (by decide) ⟨rfl, rfl⟩ (Nat.le_of_ble_eq_true rfl) rfl fun H1 ho e1 z1 => ?_
  exact V_retv dX4_setMatter_5 rfl (kk H1 ⟨m, ho, hm.fr e1 (by decide), hc0⟩ e1)
set_option maxHeartbeats 1000000 in
set_option maxRecDepth 100000 in
theorem c_odInit {G : GT} {X : String → Heap → Prop} {H : Heap} {g : Nat → Nat} {od vb : Nat} {v0 v1 v2 v3 : Value} (ho : Ob G H g 42 od 8 [v0, v1, v2, v3]) {F : Heap → Prop} (kk : ∀ (H1 : Heap) (g1 : Nat → Nat) (nu : Nat), OrdW G H1 g1 od nu vb 0 [] → Ja G H1 g1 43 nu 0 5 (List.replicate 5 0) → Ext G [42] H g H1 g1 → F H1) : Call G kX4_init 1 1 5 [.ref od, .ref vb] H (qv F) X := by
  refine startL (L0 := [some (.ref od), some (.ref vb)]) rfl rfl pl_X4_init (Nat.le_of_ble_eq_true rfl) ?_
  refine V_aload_0 dX4_init_0 ?_
  refine V_oinit dX4_init_1 ml_X4_1 ex_oiI ex_oiC (Nat.le_of_ble_eq_true rfl) (Nat.le_of_ble_eq_true rfl) ?_
  refine V_aload_0 dX4_init_4 ?_
  refine V_iconst (v := 5) dX4_init_5 rfl ?_
  refine V_mkI (g := g) 43 (kk := 0) dX4_init_6 ac_int rfl rfl rfl (fun C h => by cases h) (by decide) (N := 5) rfl (by decide) (by decide) (by omega) (by omega) fun nu H1 g1 hnu e1 z1 => ?_
  replace ho := ho.fr e1 (by simp)
  have E : Ext G [42] H g H1 g1 := e1.wide (by simp)
  refine V_put dX4_init_8 fp_X4_init_7 ho (by decide) ⟨rfl, rfl⟩ (Nat.le_of_ble_eq_true rfl) rfl fun H2 ho e2 z2 => ?_
  replace hnu := hnu.fr e2 (by decide)
  replace E := E.trans e2
  refine V_aload_0 dX4_init_11 ?_
  refine V_iconst (v := 0) dX4_init_12 rfl ?_
  refine V_put dX4_init_13 fp_X4_init_13 ho (by decide) ⟨rfl, rfl⟩ (Nat.le_of_ble_eq_true rfl) rfl fun H3 ho e3 z3 => ?_
  replace hnu := hnu.fr e3 (by decide)
  replace E := E.trans e3
  refine V_aload_0 dX4_init_16 ?_
  refine V_ldcs (i := 17) dX4_init_17 rfl ?_
  refine V_put dX4_init_19 fp_X4_init_19 ho (by decide) ⟨rfl, rfl⟩ (Nat.le_of_ble_eq_true rfl) rfl fun H4 ho e4 z4 => ?_
  replace hnu := hnu.fr e4 (by decide)
  replace E := E.trans e4
  refine V_aload_0 dX4_init_22 ?_
  refine V_aload_1 dX4_init_23 ?_
  refine V_put dX4_init_24 fp_X4_init_23 ho (by decide) ⟨rfl, rfl⟩ (Nat.le_of_ble_eq_true rfl) rfl fun H5 ho e5 z5 => ?_
  replace hnu := hnu.fr e5 (by decide)
  replace E := E.trans e5
  refine V_txt (g := g1) 17 rfl (l := []) rfl fun hmt => ?_
  exact V_retv dX4_init_27 rfl (kk H5 g1 nu ⟨_, ho, hmt, by decide⟩ ⟨hnu, rfl⟩ E)
def ordN (o : OrdC) (x : Int32) : Int32 := if x < 0 then 0 else if 5 ≤ x then 0 else gI o.2.1 x
set_option maxHeartbeats 1000000 in
set_option maxRecDepth 100000 in
theorem c_ordN {G : GT} {X : String → Heap → Prop} {H : Heap} {g : Nat → Nat} {a : Nat} {x0 : OrdC} (h : isOrd G H g a x0) {x : Int32} {F : Int32 → Heap → Prop} (kk : F (ordN x0 x) H) : Call G kX4_number 0 0 0 [.ref a, .int x] H (qi F) X := by
  obtain ⟨nu, mo, h1, ⟨h2, -⟩, h4, -, -⟩ := h
  refine startL (L0 := [some (.ref a), some (.int x)]) rfl rfl pl_X4_number (Nat.le_of_ble_eq_true rfl) ?_
  refine V_iload_1 dX4_number_0 ?_
  refine V_if_lt (tgt := 22) dX4_number_1 (by decide) (fun c_1 => ?_) (fun c_1 => ?_)
  · refine V_iconst (v := 0) dX4_number_22 rfl ?_
    exact V_reti dX4_number_23 rfl rfl (by rw [ordN, if_pos c_1] at kk; exact kk)
  · refine V_iload_1 dX4_number_4 ?_
    refine V_aload_0 dX4_number_5 ?_
    refine V_getf dX4_number_6 fl_X4_7 h1.1 rfl ?_
    refine V_alen (v := 5) dX4_number_9 h2 rfl ?_
    refine V_icmp_ge (tgt := 22) dX4_number_10 (by decide) (fun c_10 => ?_) (fun c_10 => ?_)
    · refine V_iconst (v := 0) dX4_number_22 rfl ?_
      exact V_reti dX4_number_23 rfl rfl (by rw [ordN, if_neg c_1, if_pos c_10] at kk; exact kk)
    · refine V_aload_0 dX4_number_13 ?_
      refine V_getf dX4_number_14 fl_X4_7 h1.1 rfl ?_
      refine V_iload_1 dX4_number_17 ?_
      refine V_iald (v := .int (gI x0.2.1 x)) dX4_number_18 h2 (inR (n := 5) rfl (by decide) c_1 c_10) rfl ?_
      refine V_goto (tgt := 23) dX4_number_19 (by decide) ?_
      exact V_reti dX4_number_23 rfl rfl (by rw [ordN, if_neg c_1, if_neg c_10] at kk; exact kk)

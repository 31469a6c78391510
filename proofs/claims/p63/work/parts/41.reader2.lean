theorem fk_X7_67 : Cond.fieldLink "ButtonRegistry$ScriptReader" 67 "ButtonRegistry$Verb" "form" "Ljava/lang/String;" ∈ Tb := inTb (tb_8 (List.mem_of_getElem? (i := 230) (by decide +kernel))) (by decide +kernel)
/-- the forms of the commands -/
def frm : Nat → List Int32
  | 0 => [98, 117, 116, 116, 111, 110]
  | 1 => [98, 111, 110, 100, 32, 68, 45, 68, 32, 78]
  | 2 => [99, 117, 116, 32, 68, 45, 68]
  | 3 => [102, 105, 108, 101, 32, 68, 62, 68, 32, 78, 32, 68, 32, 78, 58, 77]
  | 4 => [114, 117, 108, 101, 32, 78, 58, 77]
  | 5 => [104, 101, 97, 114, 32, 78]
  | 6 => [97, 112, 112, 101, 97, 108, 32, 78]
  | 7 => [100, 114, 111, 112, 32, 78]
  | 8 => [99, 108, 111, 115, 101, 32, 78]
  | 9 => [103, 105, 118, 101, 32, 68, 62, 68, 32, 78]
  | _ => [119, 97, 105, 116, 32, 78]
theorem nb01 {v : Int32} (h : v = 0 ∨ v = 1) : narrow .boolean (.int v) = .int v := by
  rcases h with rfl | rfl <;> rfl
theorem rNum_01 (tx : List Int32) (y p c : Int32) (nm : List Int32) : (rNum tx y p c nm).1 = 0 ∨ (rNum tx y p c nm).1 = 1 := by
  unfold rNum
  split
  · exact Or.inl rfl
  · exact Or.inr rfl
theorem rMat_01 (tx : List Int32) (p c : Int32) (mt : List Int32) : (rMat tx p c mt).1 = 0 ∨ (rMat tx p c mt).1 = 1 := by
  unfold rMat
  split
  · exact Or.inl rfl
  · split
    · exact Or.inr rfl
    · exact Or.inl rfl
theorem rSign_01 (tx : List Int32) (x p : Int32) : (rSign tx x p).1 = 0 ∨ (rSign tx x p).1 = 1 := by
  unfold rSign
  split
  · exact Or.inl rfl
  · split
    · exact Or.inl rfl
    · split
      · exact Or.inr rfl
      · exact Or.inl rfl
/-- answer, position, count, matter, numbers -/
def rPart (tx : List Int32) (x p c : Int32) (mt nm : List Int32) : Int32 × Int32 × Int32 × List Int32 × List Int32 :=
  if x = 68 then ((rNum tx 1 p c nm).1, (rNum tx 1 p c nm).2.1, (rNum tx 1 p c nm).2.2.1, mt, (rNum tx 1 p c nm).2.2.2)
  else if x = 77 then ((rMat tx p c mt).1, (rMat tx p c mt).2.1, (rMat tx p c mt).2.2.1, (rMat tx p c mt).2.2.2, nm)
  else if x = 78 then ((rNum tx 3 p c nm).1, (rNum tx 3 p c nm).2.1, (rNum tx 3 p c nm).2.2.1, mt, (rNum tx 3 p c nm).2.2.2)
  else ((rSign tx x p).1, (rSign tx x p).2, c, mt, nm)
theorem rPart_01 (tx : List Int32) (x p c : Int32) (mt nm : List Int32) : (rPart tx x p c mt nm).1 = 0 ∨ (rPart tx x p c mt nm).1 = 1 := by
  unfold rPart
  split
  · exact rNum_01 _ _ _ _ _
  · split
    · exact rMat_01 _ _ _ _
    · split
      · exact rNum_01 _ _ _ _ _
      · exact rSign_01 _ _ _
theorem look3 {x : Int32} (h1 : ¬ x = 68) (h2 : ¬ x = 77) (h3 : ¬ x = 78) : Op.lookupswitch.offset [(68, 35), (77, 49), (78, 42)] 55 x.toInt = 55 := by
  have k1 : ¬ x.toInt = 68 := fun e => h1 (Int32.toInt_inj.mp e)
  have k2 : ¬ x.toInt = 77 := fun e => h2 (Int32.toInt_inj.mp e)
  have k3 : ¬ x.toInt = 78 := fun e => h3 (Int32.toInt_inj.mp e)
  have j1 : ¬ (68 : Int) = x.toInt := fun e => k1 e.symm
  have j2 : ¬ (77 : Int) = x.toInt := fun e => k2 e.symm
  have j3 : ¬ (78 : Int) = x.toInt := fun e => k3 e.symm
  simp [Op.lookupswitch.offset, k1, k2, k3, j1, j2, j3]
theorem V_getF {G : GT} {K : MT} {d c s : Nat} {Q : Option Value → Heap → Prop} {X : String → Heap → Prop} {H : Heap} {L : List (Option Value)} {rest : List Value} {pc i idx : Nat} (hi : i < 11) (hd : decode K.2.1 pc = .ok (.getfield idx, 3)) (hl : Cond.fieldLink K.1.cls idx "ButtonRegistry$Verb" "form" "Ljava/lang/String;" ∈ Tb) (k : V G K d c s Q X (pc + 3) L (.ref (gA G (45 + i)) :: rest) H) : V G K d c s Q X pc L (.ref (gA G (1100 + i)) :: rest) H := by
  intro p e R st m args below meth co ls locs ce sl hC hl2 hS hc hs
  exact vk_getf hC.1 hC.2.1 (va_OF.moved hC.ku.2.1.alike ((hC.ku.1.2.2.2.2.1.2.2.2.2.2.2.2.1 i hi).2.2.kept hC.ku.2.2.2.1)) hS hC.own (hC.w _ hl) (fun _ h => h) hd (k p e R st m args below meth co ls locs ce sl hC hl2 hS hc hs)
theorem V_verbs {G : GT} {K : MT} {d c s : Nat} {Q : Option Value → Heap → Prop} {X : String → Heap → Prop} {H : Heap} {L : List (Option Value)} {rest : List Value} {pc : Nat} (k : ra G H (gA G 1004) 6 11 (fun j => .ref (gA G (1100 + j))) → V G K d c s Q X pc L rest H) : V G K d c s Q X pc L rest H :=
  V_old fun hO hS => k (hO.2.2.2.2.1.2.2.2.2.2.1.old hS)
theorem V_frm {G : GT} {K : MT} {d c s : Nat} {Q : Option Value → Heap → Prop} {X : String → Heap → Prop} {H : Heap} {L : List (Option Value)} {rest : List Value} {pc : Nat} {g : Nat → Nat} {i : Nat} (hi : i < 11) (k : Sz G H g (gA G (45 + i)) (frm i) → V G K d c s Q X pc L rest H) : V G K d c s Q X pc L rest H := by
  have h : i = 0 ∨ i = 1 ∨ i = 2 ∨ i = 3 ∨ i = 4 ∨ i = 5 ∨ i = 6 ∨ i = 7 ∨ i = 8 ∨ i = 9 ∨ i = 10 := by omega
  rcases h with rfl | rfl | rfl | rfl | rfl | rfl | rfl | rfl | rfl | rfl | rfl
  · exact V_txt (g := g) 45 rfl (by decide +kernel) k
  · exact V_txt (g := g) 46 rfl (by decide +kernel) k
  · exact V_txt (g := g) 47 rfl (by decide +kernel) k
  · exact V_txt (g := g) 48 rfl (by decide +kernel) k
  · exact V_txt (g := g) 49 rfl (by decide +kernel) k
  · exact V_txt (g := g) 50 rfl (by decide +kernel) k
  · exact V_txt (g := g) 51 rfl (by decide +kernel) k
  · exact V_txt (g := g) 52 rfl (by decide +kernel) k
  · exact V_txt (g := g) 53 rfl (by decide +kernel) k
  · exact V_txt (g := g) 54 rfl (by decide +kernel) k
  · exact V_txt (g := g) 55 rfl (by decide +kernel) k
set_option maxHeartbeats 1000000 in
set_option maxRecDepth 100000 in
theorem c_rPart {G : GT} {X : String → Heap → Prop} {H : Heap} {g : Nat → Nat} {rd ol tr : Nat} {tx : List Int32} {od nu vb : Nat} {x p c : Int32} {mt nm : List Int32} (hrd : Ob G H g 40 rd 11 [.ref ol, .int p, .ref tr]) (hod : OrdW G H g od nu vb c mt) (hnu : Ja G H g 43 nu 0 5 nm) (htx : Sz G H g tr tx) {F : Int32 → Heap → Prop} (kk : ∀ (H1 : Heap) (g1 : Nat → Nat), Ob G H1 g1 40 rd 11 [.ref ol, .int (rPart tx x p c mt nm).2.1, .ref tr] → OrdW G H1 g1 od nu vb (rPart tx x p c mt nm).2.2.1 (rPart tx x p c mt nm).2.2.2.1 → Ja G H1 g1 43 nu 0 5 (rPart tx x p c mt nm).2.2.2.2 → Ext G [33, 40, 42, 43] H g H1 g1 → F (rPart tx x p c mt nm).1 H1) : Call G kX7_readPart 6 2 12 [.ref rd, .ref od, .int x] H (qi F) X := by
  refine startL (L0 := [some (.ref rd), some (.ref od), some (.int x)]) rfl rfl pl_X7_readPart (Nat.le_of_ble_eq_true rfl) ?_
  refine V_iload_2 dX7_readPart_0 ?_
  by_cases h1 : x = 68
  · subst h1
    refine V_look (off := 35) (tgt := 36) dX7_readPart_1 (by decide) rfl (by decide) ?_
    refine V_aload_0 dX7_readPart_36 ?_
    refine V_aload_1 dX7_readPart_37 ?_
    refine V_iconst (v := 1) dX7_readPart_38 rfl ?_
    rw [rPart, if_pos rfl] at kk
    refine V_call_i (runV2 dX7_readPart_39 ce_X7_readNumber rfl ml_X7_80 im_X7_readNumber se_X7_readNumber hrd.ro ⟨_, rfl, rfl⟩ (Nat.le_of_ble_eq_true rfl)) (by omega) (by omega) (by omega) (c_rNum (y := 1) hrd hod hnu htx fun H1 g1 a1 a2 a3 e => ?_)
    exact V_retz dX7_readPart_42 rfl (nb01 (rNum_01 _ _ _ _ _)) rfl (kk H1 g1 a1 a2 a3 (e.wide (by decide)))
  · by_cases h2 : x = 77
    · subst h2
      refine V_look (off := 49) (tgt := 50) dX7_readPart_1 (by decide) rfl (by decide) ?_
      refine V_aload_0 dX7_readPart_50 ?_
      refine V_aload_1 dX7_readPart_51 ?_
      rw [rPart, if_neg (show ¬ (77 : Int32) = 68 by decide), if_pos rfl] at kk
      refine V_call_i (runV1 dX7_readPart_52 ce_X7_readMatter rfl ml_X7_84 im_X7_readMatter se_X7_readMatter hrd.ro ⟨_, rfl, rfl⟩ (Nat.le_of_ble_eq_true rfl)) (by omega) (by omega) (by omega) (c_rMat hrd hod htx fun H1 g1 a1 a2 e => ?_)
      exact V_retz dX7_readPart_55 rfl (nb01 (rMat_01 _ _ _ _)) rfl (kk H1 g1 a1 a2 (hnu.fr e (by decide)) (e.wide (by decide)))
    · by_cases h3 : x = 78
      · subst h3
        refine V_look (off := 42) (tgt := 43) dX7_readPart_1 (by decide) rfl (by decide) ?_
        refine V_aload_0 dX7_readPart_43 ?_
        refine V_aload_1 dX7_readPart_44 ?_
        refine V_iconst (v := 3) dX7_readPart_45 rfl ?_
        rw [rPart, if_neg (show ¬ (78 : Int32) = 68 by decide), if_neg (show ¬ (78 : Int32) = 77 by decide), if_pos rfl] at kk
        refine V_call_i (runV2 dX7_readPart_46 ce_X7_readNumber rfl ml_X7_80 im_X7_readNumber se_X7_readNumber hrd.ro ⟨_, rfl, rfl⟩ (Nat.le_of_ble_eq_true rfl)) (by omega) (by omega) (by omega) (c_rNum (y := 3) hrd hod hnu htx fun H1 g1 a1 a2 a3 e => ?_)
        exact V_retz dX7_readPart_49 rfl (nb01 (rNum_01 _ _ _ _ _)) rfl (kk H1 g1 a1 a2 a3 (e.wide (by decide)))
      · refine V_look (off := 55) (tgt := 56) dX7_readPart_1 (by decide) (look3 h1 h2 h3) (by decide) ?_
        refine V_aload_0 dX7_readPart_56 ?_
        refine V_iload_2 dX7_readPart_57 ?_
        rw [rPart, if_neg h1, if_neg h2, if_neg h3] at kk
        refine V_call_i (runV1 dX7_readPart_58 ce_X7_readSign rfl ml_X7_36 im_X7_readSign se_X7_readSign hrd.ro ⟨_, rfl, rfl⟩ (Nat.le_of_ble_eq_true rfl)) (by omega) (by omega) (by omega) (c_rSign (x := x) hrd htx fun H1 g1 a1 e => ?_)
        exact V_retz dX7_readPart_61 rfl (nb01 (rSign_01 _ _ _)) rfl (kk H1 g1 a1 (hod.fr e (by decide) (by decide)) (hnu.fr e (by decide)) (e.wide (by decide)))
theorem rf_init (i : Nat) : (nI (frm i).length).toInt ≤ (0 : Int32).toInt + ((20 : Nat) : Int) := by
  unfold frm
  split <;> decide
def rFormL (tx : List Int32) (vi : Nat) : Nat → Int32 → Int32 → Int32 → List Int32 → List Int32 → Int32 × Int32 × Int32 × List Int32 × List Int32
  | 0, i, p, c, mt, nm => (1, p, c, mt, nm)
  | k + 1, i, p, c, mt, nm => if (nI (frm vi).length) ≤ i then (1, p, c, mt, nm) else (if ((rPart tx (gI (frm vi) i) p c mt nm).1) = 0 then (0, (rPart tx (gI (frm vi) i) p c mt nm).2.1, (rPart tx (gI (frm vi) i) p c mt nm).2.2.1, (rPart tx (gI (frm vi) i) p c mt nm).2.2.2.1, (rPart tx (gI (frm vi) i) p c mt nm).2.2.2.2) else (rFormL tx vi k (i + 1) ((rPart tx (gI (frm vi) i) p c mt nm).2.1) ((rPart tx (gI (frm vi) i) p c mt nm).2.2.1) ((rPart tx (gI (frm vi) i) p c mt nm).2.2.2.1) ((rPart tx (gI (frm vi) i) p c mt nm).2.2.2.2)))
def rForm (tx : List Int32) (vi : Nat) (p : Int32) (c : Int32) (mt : List Int32) (nm : List Int32) : Int32 × Int32 × Int32 × List Int32 × List Int32 := rFormL tx vi 20 0 p c mt nm
set_option maxHeartbeats 1000000 in
set_option maxRecDepth 100000 in
theorem c_rFormL {G : GT} {X : String → Heap → Prop} {H0 : Heap} {g0 : Nat → Nat} {rd ol tr : Nat} {tx : List Int32} {od nu vi : Nat} (hvi : vi < 11) {F : Int32 → Heap → Prop} {c2 s2 : Nat} : ∀ (k : Nat) (i : Int32) (p : Int32) (c : Int32) (mt : List Int32) (nm : List Int32) (H : Heap) (g : Nat → Nat) (cc ss : Nat), Ob G H g 40 rd 11 [.ref ol, .int p, .ref tr] → OrdW G H g od nu (gA G (1100 + vi)) c mt → Ja G H g 43 nu 0 5 nm → Sz G H g tr tx → Sz G H g (gA G (45 + vi)) (frm vi) → Ext G [33, 40, 42, 43] H0 g0 H g → (nI (frm vi).length).toInt ≤ i.toInt + ((k : Nat) : Int) → ¬ i < 0 → c2 + 2 * k ≤ cc → s2 + 12 * k ≤ ss → (∀ (H1 : Heap) (g1 : Nat → Nat), Ob G H1 g1 40 rd 11 [.ref ol, .int (rFormL tx vi k i p c mt nm).2.1, .ref tr] → OrdW G H1 g1 od nu (gA G (1100 + vi)) (rFormL tx vi k i p c mt nm).2.2.1 (rFormL tx vi k i p c mt nm).2.2.2.1 → Ja G H1 g1 43 nu 0 5 (rFormL tx vi k i p c mt nm).2.2.2.2 → Ext G [33, 40, 42, 43] H0 g0 H1 g1 → F ((rFormL tx vi k i p c mt nm).1) H1) → V G kX7_readForm 7 cc ss (qi F) X 10 [some (.ref rd), some (.ref od), some (.ref (gA G (45 + vi))), some (.int i)] [] H := by
  intro k
  induction k with
  | zero =>
    intro i p c mt nm H g cc ss hrd hod hnu htx hfm E hm hi0 hcc hss kk
    refine V_iload_3 dX7_readForm_10 ?_
    refine V_aload_2 dX7_readForm_11 ?_
    obtain ⟨fst, hst⟩ := hfm.str.o
    refine V_call_i (runV0 dX7_readForm_12 ce_J0_length_8abf5 rfl ml_X7_26 im_J0_length_8abf5 se_J0_length_8abf5 hst ⟨_, rfl, rfl⟩ (Nat.le_of_ble_eq_true rfl)) (by omega) (by omega) (by omega) (c_slen hfm.str ?_)
    refine V_icmp_ge (tgt := 39) dX7_readForm_15 (by decide) (fun c_15 => ?_) (fun c_15 => ?_)
    · refine V_iconst (v := 1) dX7_readForm_39 rfl ?_
      exact V_retz dX7_readForm_40 rfl rfl rfl (by rw [rFormL] at kk; exact kk H g hrd hod hnu E)
    · exact absurd (loop_end hm) c_15
  | succ k ih =>
    intro i p c mt nm H g cc ss hrd hod hnu htx hfm E hm hi0 hcc hss kk
    refine V_iload_3 dX7_readForm_10 ?_
    refine V_aload_2 dX7_readForm_11 ?_
    obtain ⟨fst, hst⟩ := hfm.str.o
    refine V_call_i (runV0 dX7_readForm_12 ce_J0_length_8abf5 rfl ml_X7_26 im_J0_length_8abf5 se_J0_length_8abf5 hst ⟨_, rfl, rfl⟩ (Nat.le_of_ble_eq_true rfl)) (by omega) (by omega) (by omega) (c_slen hfm.str ?_)
    refine V_icmp_ge (tgt := 39) dX7_readForm_15 (by decide) (fun c_15 => ?_) (fun c_15 => ?_)
    · refine V_iconst (v := 1) dX7_readForm_39 rfl ?_
      exact V_retz dX7_readForm_40 rfl rfl rfl (by rw [rFormL, if_pos c_15] at kk; exact kk H g hrd hod hnu E)
    · refine V_aload_0 dX7_readForm_18 ?_
      refine V_aload_1 dX7_readForm_19 ?_
      refine V_aload_2 dX7_readForm_20 ?_
      refine V_iload_3 dX7_readForm_21 ?_
      obtain ⟨fst, hst⟩ := hfm.str.o
      refine V_call_i (runV1 dX7_readForm_22 ce_J0_charAt_5068e rfl ml_X7_72 im_J0_charAt_5068e se_J0_charAt_5068e hst ⟨_, rfl, rfl⟩ (Nat.le_of_ble_eq_true rfl)) (by omega) (by omega) (by omega) (c_schar hfm.str hi0 c_15 ?_)
      refine V_call_i (runV2 dX7_readForm_25 ce_X7_readPart rfl ml_X7_76 im_X7_readPart se_X7_readPart hrd.ro ⟨_, rfl, rfl⟩ (Nat.le_of_ble_eq_true rfl)) (by omega) (by omega) (by omega) (c_rPart (x := (gI (frm vi) i)) hrd hod hnu htx fun H1 g1 hrd_ hod_ hnu_ e1 => ?_)
      replace htx := htx.fr e1 (by decide)
      replace hfm := hfm.fr e1 (by decide)
      replace E := E.trans (e1.wide (by decide))
      replace hrd : Ob G H1 g1 40 rd 11 [.ref ol, .int ((rPart tx (gI (frm vi) i) p c mt nm).2.1), .ref tr] := hrd_
      clear hrd_
      replace hod : OrdW G H1 g1 od nu (gA G (1100 + vi)) ((rPart tx (gI (frm vi) i) p c mt nm).2.2.1) ((rPart tx (gI (frm vi) i) p c mt nm).2.2.2.1) := hod_
      clear hod_
      replace hnu : Ja G H1 g1 43 nu 0 5 ((rPart tx (gI (frm vi) i) p c mt nm).2.2.2.2) := hnu_
      clear hnu_
      refine V_if_ne (tgt := 33) dX7_readForm_28 (by decide) (fun c_28 => ?_) (fun c_28 => ?_)
      · refine V_iinc_3 (v := 1) dX7_readForm_33 rfl rfl ?_
        refine V_goto (tgt := 10) dX7_readForm_36 (by decide) ?_
        exact ih _ _ _ _ _ H1 g1 _ _ hrd hod hnu htx hfm E (loop_step c_15 hm) (nn_step c_15 hi0) (by omega) (by omega) (by rw [rFormL, if_neg c_15, if_neg c_28] at kk; exact kk)
      · refine V_iconst (v := 0) dX7_readForm_31 rfl ?_
        exact V_retz dX7_readForm_32 rfl rfl rfl (by rw [rFormL, if_neg c_15, if_pos c_28] at kk; exact kk H1 g1 hrd hod hnu E)
set_option maxHeartbeats 1000000 in
set_option maxRecDepth 100000 in
theorem c_rForm {G : GT} {X : String → Heap → Prop} {H : Heap} {g : Nat → Nat} {rd ol tr : Nat} {tx : List Int32} {od nu vi : Nat} (hvi : vi < 11) {p : Int32} {c : Int32} {mt : List Int32} {nm : List Int32} (hrd : Ob G H g 40 rd 11 [.ref ol, .int p, .ref tr]) (hod : OrdW G H g od nu (gA G (1100 + vi)) c mt) (hnu : Ja G H g 43 nu 0 5 nm) (htx : Sz G H g tr tx) (hfm : Sz G H g (gA G (45 + vi)) (frm vi)) {F : Int32 → Heap → Prop} (kk : ∀ (H1 : Heap) (g1 : Nat → Nat), Ob G H1 g1 40 rd 11 [.ref ol, .int (rForm tx vi p c mt nm).2.1, .ref tr] → OrdW G H1 g1 od nu (gA G (1100 + vi)) (rForm tx vi p c mt nm).2.2.1 (rForm tx vi p c mt nm).2.2.2.1 → Ja G H1 g1 43 nu 0 5 (rForm tx vi p c mt nm).2.2.2.2 → Ext G [33, 40, 42, 43] H g H1 g1 → F ((rForm tx vi p c mt nm).1) H1) : Call G kX7_readForm 7 40 240 [.ref rd, .ref od] H (qi F) X := by
  have E : Ext G [33, 40, 42, 43] H g H g := Ext.rf
  refine startL (L0 := [some (.ref rd), some (.ref od), none, none]) rfl rfl pl_X7_readForm (Nat.le_of_ble_eq_true rfl) ?_
  refine V_aload_1 dX7_readForm_0 ?_
  obtain ⟨mo0, hod0, -⟩ := id hod
  refine V_getf dX7_readForm_1 fl_X7_63 hod0.ro rfl ?_
  clear hod0
  refine V_getF hvi dX7_readForm_4 fk_X7_67 ?_
  refine V_astore_2 dX7_readForm_7 rfl ?_
  refine V_iconst (v := 0) dX7_readForm_8 rfl ?_
  refine V_istore_3 dX7_readForm_9 rfl ?_
  exact c_rFormL (c2 := 0) (s2 := 0) hvi  20 0 _ _ _ _ H g _ _ hrd hod hnu htx hfm (Ext.rf (ts := [33, 40, 42, 43])) (rf_init _) (by decide) (Nat.le_trans (Nat.add_le_add_left (Nat.mul_le_mul_left _ (Nat.le_refl _)) _) (by omega)) (Nat.le_trans (Nat.add_le_add_left (Nat.mul_le_mul_left _ (Nat.le_refl _)) _) (by omega)) (by rw [rForm] at kk; exact fun Hz gz hrd_ hod_ hnu_ ez => kk Hz gz hrd_ hod_ hnu_ (E.trans ez))

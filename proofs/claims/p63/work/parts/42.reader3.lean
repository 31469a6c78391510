/-- a command's verb is read: answer, position, count, matter, numbers -/
def rF (tx : List Int32) (i p : Int32) : Int32 × Int32 × Int32 × List Int32 × List Int32 := rForm tx i.toNatClampNeg p 0 [] (List.replicate 5 0)
def rOrd (tx : List Int32) (i p : Int32) : OrdC := (i.toNatClampNeg, (rF tx i p).2.2.2.2, (rF tx i p).2.2.1, (rF tx i p).2.2.2.1)
theorem ext_frz2 {G : GT} {H : Heap} {g : Nat → Nat} {t u : Nat} : Ext G [t, u] H g H (gall G g [t, u] 0) := Ext.gall (Or.inl rfl)
theorem ord_of {G : GT} {H : Heap} {g : Nat → Nat} {od nu i : Nat} {c : Int32} {mt nm : List Int32} (h : OrdW G H g od nu (gA G (1100 + i)) c mt) (hn : Ja G H g 43 nu 0 5 nm) (hi : i < 11) : isOrd G H (gall G g [42, 43] 0) od (i, nm, c, mt) := by
  obtain ⟨mo, h1, h2, -⟩ := h
  refine ⟨nu, mo, ⟨h1.ro, ?_⟩, ⟨hn.2 ▸ hn.1.ra, ?_⟩, hn.2, h2.fr (ext_frz2 (H := H) (t := 42) (u := 43)) (by decide), hi⟩
  · rw [tg_gall (Or.inl rfl), if_pos (by rw [h1.2]; decide)]
  · rw [tg_gall (Or.inl rfl), if_pos (by rw [hn.1.2]; decide)]
theorem i11 {i : Int32} (h0 : ¬ i < 0) (h1 : ¬ 11 ≤ i) : i.toNatClampNeg < 11 := by
  have := inR (n := 11) rfl (by decide) h0 h1
  rw [vp_in_iff] at this
  show i.toInt.toNat < 11
  omega
def rCmdL (tx : List Int32) (s0 : Int32) : Nat → Int32 → Int32 → Int32 → List OrdC → Int32 × Int32 × List OrdC
  | 0, fu, i, p, os => (0, fu, os)
  | k + 1, fu, i, p, os => if 11 ≤ i then (0, fu, os) else (if ((rF tx i s0).1) = 0 then (rCmdL tx s0 k (imax fu ((rF tx i s0).2.1)) (i + 1) ((rF tx i s0).2.1) os) else (1, (rF tx i s0).2.1, os ++ [(rOrd tx i s0)]))
def rCmd (tx : List Int32) (p : Int32) (os : List OrdC) : Int32 × Int32 × List OrdC := rCmdL tx p 11 p 0 p os
set_option maxHeartbeats 1000000 in
set_option maxRecDepth 100000 in
theorem c_rCmdL {G : GT} {X : String → Heap → Prop} {H0 : Heap} {g0 : Nat → Nat} {rd ol tr : Nat} {tx : List Int32}  {s0 : Int32} {F : Int32 → Heap → Prop} {c2 s2 : Nat} : ∀ (k : Nat) (fu : Int32) (i : Int32) (p : Int32) (os : List OrdC) (H : Heap) (g : Nat → Nat) (cc ss : Nat), Ob G H g 40 rd 11 [.ref ol, .int p, .ref tr] → GL G (isOrd G) H g 41 ol os → Sz G H g tr tx → Ext G [33, 40, 41, 42, 43] H0 g0 H g → (11 : Int32).toInt ≤ i.toInt + ((k : Nat) : Int) → ¬ i < 0 → ¬ 39 < os.length → c2 + 43 * k ≤ cc → s2 + 310 * k ≤ ss → (∀ (H1 : Heap) (g1 : Nat → Nat), Ob G H1 g1 40 rd 11 [.ref ol, .int (rCmdL tx s0 k fu i p os).2.1, .ref tr] → GL G (isOrd G) H1 g1 41 ol (rCmdL tx s0 k fu i p os).2.2 → Ext G [33, 40, 41, 42, 43] H0 g0 H1 g1 → F ((rCmdL tx s0 k fu i p os).1) H1) → V G kX7_readCommand 8 cc ss (qi F) X 9 [some (.ref rd), some (.int s0), some (.int fu), some (.int i), none] [] H := by
  intro k
  induction k with
  | zero =>
    intro fu i p os H g cc ss hrd hol htx E hm hi0 hi1 hcc hss kk
    refine V_iload_3 dX7_readCommand_9 ?_
    refine V_gets (i := 4) (v := .ref (gA G 1004)) dX7_readCommand_10 rfl fs_X7_40 rfl ?_
    refine V_verbs fun hvb => ?_
    refine V_alen (v := 11) dX7_readCommand_13 hvb rfl ?_
    clear hvb
    refine V_icmp_ge (tgt := 72) dX7_readCommand_14 (by decide) (fun c_14 => ?_) (fun c_14 => ?_)
    · refine V_aload_0 dX7_readCommand_72 ?_
      refine V_iload_2 dX7_readCommand_73 ?_
      refine V_put dX7_readCommand_74 fp_X7_readCommand_18 hrd (by decide) ⟨rfl, rfl⟩ (Nat.le_of_ble_eq_true rfl) rfl fun H1 hnew e1 z1 => ?_
      replace hol := GL.fr FRo hol e1 (by decide) (by decide)
      replace htx := htx.fr e1 (by decide)
      replace E := E.trans (e1.wide (by decide))
      replace hrd : Ob G H1 g 40 rd 11 [.ref ol, .int fu, .ref tr] := hnew
      clear hnew
      refine V_iconst (v := 0) dX7_readCommand_77 rfl ?_
      exact V_retz dX7_readCommand_78 rfl rfl rfl (by rw [rCmdL] at kk; exact kk H1 g hrd hol E)
    · exact absurd (loop_end hm) c_14
  | succ k ih =>
    intro fu i p os H g cc ss hrd hol htx E hm hi0 hi1 hcc hss kk
    refine V_iload_3 dX7_readCommand_9 ?_
    refine V_gets (i := 4) (v := .ref (gA G 1004)) dX7_readCommand_10 rfl fs_X7_40 rfl ?_
    refine V_verbs fun hvb => ?_
    refine V_alen (v := 11) dX7_readCommand_13 hvb rfl ?_
    clear hvb
    refine V_icmp_ge (tgt := 72) dX7_readCommand_14 (by decide) (fun c_14 => ?_) (fun c_14 => ?_)
    · refine V_aload_0 dX7_readCommand_72 ?_
      refine V_iload_2 dX7_readCommand_73 ?_
      refine V_put dX7_readCommand_74 fp_X7_readCommand_18 hrd (by decide) ⟨rfl, rfl⟩ (Nat.le_of_ble_eq_true rfl) rfl fun H1 hnew e1 z1 => ?_
      replace hol := GL.fr FRo hol e1 (by decide) (by decide)
      replace htx := htx.fr e1 (by decide)
      replace E := E.trans (e1.wide (by decide))
      replace hrd : Ob G H1 g 40 rd 11 [.ref ol, .int fu, .ref tr] := hnew
      clear hnew
      refine V_iconst (v := 0) dX7_readCommand_77 rfl ?_
      exact V_retz dX7_readCommand_78 rfl rfl rfl (by rw [rCmdL, if_pos c_14] at kk; exact kk H1 g hrd hol E)
    · refine V_aload_0 dX7_readCommand_17 ?_
      refine V_iload_1 dX7_readCommand_18 ?_
      refine V_put dX7_readCommand_19 fp_X7_readCommand_18 hrd (by decide) ⟨rfl, rfl⟩ (Nat.le_of_ble_eq_true rfl) rfl fun H1 hnew e1 z1 => ?_
      replace hol := GL.fr FRo hol e1 (by decide) (by decide)
      replace htx := htx.fr e1 (by decide)
      replace E := E.trans (e1.wide (by decide))
      replace hrd : Ob G H1 g 40 rd 11 [.ref ol, .int s0, .ref tr] := hnew
      clear hnew
      refine V_mk2 (g := g) 42 4 dX7_readCommand_22 nw_X7_44 rfl (by omega) (by omega) fun od H2 g2 ho e2 z2 => ?_
      replace hrd := hrd.fr e2 (by decide)
      replace hol := GL.fr FRo hol e2 (by decide) (by decide)
      replace htx := htx.fr e2 (by decide)
      replace E := E.trans (e2.wide (by simp))
      refine V_dup dX7_readCommand_25 rfl ?_
      refine V_gets (i := 4) (v := .ref (gA G 1004)) dX7_readCommand_26 rfl fs_X7_40 rfl ?_
      refine V_iload_3 dX7_readCommand_29 ?_
      have hi11 := i11 hi0 c_14
      refine V_verbs fun hvb => ?_
      refine V_aald (v := .ref (gA G (1100 + i.toNatClampNeg))) dX7_readCommand_30 hvb (by decide) (inR (n := 11) rfl (by decide) hi0 c_14) rfl ?_
      clear hvb
      refine V_call_v (runI1 dX7_readCommand_31 ce_X4_init rfl rfl rfl ml_X7_46 im_X4_init (Nat.le_of_ble_eq_true rfl)) (by omega) (by omega) (by omega) (c_odInit ho fun H3 g3 nu hod hnu e3 => ?_)
      replace hrd := hrd.fr e3 (by decide)
      replace hol := GL.fr FRo hol e3 (by decide) (by decide)
      replace htx := htx.fr e3 (by decide)
      replace E := E.trans (e3.wide (by decide))
      clear ho
      refine V_astore_4 dX7_readCommand_34 rfl ?_
      refine V_aload_0 dX7_readCommand_36 ?_
      refine V_aload_4 dX7_readCommand_37 ?_
      refine V_frm (g := g3) hi11 fun hfm => ?_
      refine V_call_i (runV1 dX7_readCommand_39 ce_X7_readForm rfl ml_X7_49 im_X7_readForm se_X7_readForm hrd.ro ⟨_, rfl, rfl⟩ (Nat.le_of_ble_eq_true rfl)) (by omega) (by omega) (by omega) (c_rForm hi11 hrd hod hnu htx hfm fun H4 g4 hrd_ hod_ hnu_ e4 => ?_)
      refine V_int (y := (rF tx i s0).1) rfl ?_
      replace hol := GL.fr FRo hol e4 (by decide) (by decide)
      replace htx := htx.fr e4 (by decide)
      replace E := E.trans (e4.wide (by decide))
      clear hrd hod hnu hfm
      have hrd := hrd_
      have hod := hod_
      have hnu := hnu_
      clear hrd_ hod_ hnu_
      replace hrd : Ob G H4 g4 40 rd 11 [.ref ol, .int ((rF tx i s0).2.1), .ref tr] := hrd
      refine V_if_eq (tgt := 57) dX7_readCommand_42 (by decide) (fun c_42 => ?_) (fun c_42 => ?_)
      · refine V_iload_2 dX7_readCommand_57 ?_
        refine V_aload_0 dX7_readCommand_58 ?_
        refine V_getf dX7_readCommand_59 fl_X7_18 hrd.ro rfl ?_
        refine V_mmax dX7_readCommand_62 ml_X7_57 ex_maxS ex_mth ex_maxC (Nat.le_of_ble_eq_true rfl) (Nat.le_of_ble_eq_true rfl) ?_
        refine V_istore_2 dX7_readCommand_65 rfl ?_
        refine V_iinc_3 (v := 1) dX7_readCommand_66 rfl rfl ?_
        refine V_goto (tgt := 9) dX7_readCommand_69 (by decide) ?_
        refine V_drop 4 rfl ?_
        exact ih _ _ _ _ H4 g4 _ _ hrd hol htx E (loop_step c_14 hm) (nn_step c_14 hi0) hi1 (by omega) (by omega) (by rw [rCmdL, if_neg c_14, if_pos c_42] at kk; exact kk)
      · refine V_aload_0 dX7_readCommand_45 ?_
        refine V_getf dX7_readCommand_46 fl_X7_12 hrd.ro rfl ?_
        refine V_aload_4 dX7_readCommand_49 ?_
        have ho := ord_of hod hnu hi11
        have e5 := ext_frz2 (G := G) (H := H4) (g := g4) (t := 42) (u := 43)
        clear hod hnu
        replace hrd := hrd.fr e5 (by decide)
        replace hol := GL.fr FRo hol e5 (by decide) (by decide)
        replace htx := htx.fr e5 (by decide)
        replace E := E.trans (e5.wide (by decide))
        obtain ⟨fol, hfo⟩ := hol.ro
        refine V_call_i (runV1 dX7_readCommand_51 ce_Jx4a65c_add_9ea2d rfl ml_X7_53 im_Jx4a65c_add_9ea2d se_Jx4a65c_add_9ea2d hfo ⟨_, rfl, rfl⟩ (Nat.le_of_ble_eq_true rfl)) (by omega) (by omega) (by omega) (c_gladd (x := (rOrd tx i s0)) FRo ELo hol (by omega) ho (by decide) fun H6 g6 hol_ e6 => ?_)
        replace hrd := hrd.fr e6 (by decide)
        replace htx := htx.fr e6 (by decide)
        replace E := E.trans (e6.wide (by decide))
        replace hol := hol_
        clear hol_ ho
        refine V_pop dX7_readCommand_54 rfl ?_
        refine V_iconst (v := 1) dX7_readCommand_55 rfl ?_
        exact V_retz dX7_readCommand_56 rfl rfl rfl (by rw [rCmdL, if_neg c_14, if_neg c_42] at kk; exact kk H6 g6 hrd hol E)
set_option maxHeartbeats 1000000 in
set_option maxRecDepth 100000 in
theorem c_rCmd {G : GT} {X : String → Heap → Prop} {H : Heap} {g : Nat → Nat} {rd ol tr : Nat} {tx : List Int32}  {p : Int32} {os : List OrdC} (hrd : Ob G H g 40 rd 11 [.ref ol, .int p, .ref tr]) (hol : GL G (isOrd G) H g 41 ol os) (htx : Sz G H g tr tx) (hos : ¬ 39 < os.length) {F : Int32 → Heap → Prop} (kk : ∀ (H1 : Heap) (g1 : Nat → Nat), Ob G H1 g1 40 rd 11 [.ref ol, .int (rCmd tx p os).2.1, .ref tr] → GL G (isOrd G) H1 g1 41 ol (rCmd tx p os).2.2 → Ext G [33, 40, 41, 42, 43] H g H1 g1 → F ((rCmd tx p os).1) H1) : Call G kX7_readCommand 8 473 3410 [.ref rd] H (qi F) X := by
  have E : Ext G [33, 40, 41, 42, 43] H g H g := Ext.rf
  refine startL (L0 := [some (.ref rd), none, none, none, none]) rfl rfl pl_X7_readCommand (Nat.le_of_ble_eq_true rfl) ?_
  refine V_aload_0 dX7_readCommand_0 ?_
  refine V_getf dX7_readCommand_1 fl_X7_18 hrd.ro rfl ?_
  refine V_istore_1 dX7_readCommand_4 rfl ?_
  refine V_iload_1 dX7_readCommand_5 ?_
  refine V_istore_2 dX7_readCommand_6 rfl ?_
  refine V_iconst (v := 0) dX7_readCommand_7 rfl ?_
  refine V_istore_3 dX7_readCommand_8 rfl ?_
  exact c_rCmdL (c2 := 0) (s2 := 0) (s0 := p)   11 p 0 _ _ H g _ _ hrd hol htx (Ext.rf (ts := [33, 40, 41, 42, 43])) (by decide) (by decide) hos (Nat.le_trans (Nat.add_le_add_left (Nat.mul_le_mul_left _ (Nat.le_refl _)) _) (by omega)) (Nat.le_trans (Nat.add_le_add_left (Nat.mul_le_mul_left _ (Nat.le_refl _)) _) (by omega)) (by rw [rCmd] at kk; exact fun Hz gz hrd_ hol_ ez => kk Hz gz hrd_ hol_ (E.trans ez))
theorem rCmdL_len {tx : List Int32} {s0 : Int32} : ∀ (k : Nat) (fu i p : Int32) (os : List OrdC), (rCmdL tx s0 k fu i p os).2.2.length ≤ os.length + 1 := by
  intro k
  induction k with
  | zero => intro fu i p os; rw [rCmdL]; exact Nat.le_succ _
  | succ k ih =>
    intro fu i p os
    rw [rCmdL]
    split
    · exact Nat.le_succ _
    · split
      · exact ih _ _ _ _
      · rw [List.length_append]; exact Nat.le_refl _
theorem rCmd_len (tx : List Int32) (p : Int32) (os : List OrdC) : (rCmd tx p os).2.2.length ≤ os.length + 1 := rCmdL_len _ _ _ _ _
theorem rs_hos {tx : List Int32} {i : Int32} {os : List OrdC} (ht : tx.length ≤ 22) (h1 : os.length ≤ i.toNatClampNeg) (h : ¬ nI tx.length < i) : ¬ 39 < os.length := by
  have h2 := Int32.le_iff_toInt_le.mp (Int32.not_lt.mp h)
  rw [nI_toInt (by omega)] at h2
  have : i.toNatClampNeg = i.toInt.toNat := rfl
  omega
theorem rs_step {tx : List Int32} {i : Int32} {os os2 : List OrdC} (ht : tx.length ≤ 22) (h0 : ¬ i < 0) (h1 : os.length ≤ i.toNatClampNeg) (h : ¬ nI tx.length < i) (h2 : os2.length ≤ os.length + 1) : os2.length ≤ (i + 1).toNatClampNeg := by
  have h3 := Int32.le_iff_toInt_le.mp (Int32.not_lt.mp h)
  rw [nI_toInt (by omega)] at h3
  have h4 := mt Int32.lt_iff_toInt_lt.mpr h0
  have e0 : (0 : Int32).toInt = 0 := rfl
  have e1 : (1 : Int32).toInt = 1 := rfl
  have h5 : (i + 1).toInt = i.toInt + 1 := by
    rw [Int32.toInt_add, e1, Int.bmod_eq_of_le (by omega) (by omega)]
  have : i.toNatClampNeg = i.toInt.toNat := rfl
  have : (i + 1).toNatClampNeg = (i + 1).toInt.toNat := rfl
  omega
theorem rs_nn {tx : List Int32} {i : Int32} (ht : tx.length ≤ 22) (h0 : ¬ i < 0) (h : ¬ nI tx.length < i) : ¬ i + 1 < 0 := by
  have h3 := Int32.le_iff_toInt_le.mp (Int32.not_lt.mp h)
  rw [nI_toInt (by omega)] at h3
  have h4 := mt Int32.lt_iff_toInt_lt.mpr h0
  have e0 : (0 : Int32).toInt = 0 := rfl
  have e1 : (1 : Int32).toInt = 1 := rfl
  have h5 : (i + 1).toInt = i.toInt + 1 := by
    rw [Int32.toInt_add, e1, Int.bmod_eq_of_le (by omega) (by omega)]
  intro z
  have := Int32.lt_iff_toInt_lt.mp z
  omega
theorem stepT {tx : List Int32} {i : Int32} {k : Nat} (ht : tx.length ≤ 22) (h : ¬ nI tx.length < i) (hm : (nI tx.length).toInt < i.toInt + ((k + 1 : Nat) : Int)) : (nI tx.length).toInt < (i + 1).toInt + (k : Int) :=
  loop_stepL h hm (by rw [nI_toInt (by omega)]; omega)
theorem initT {tx : List Int32} (ht : tx.length ≤ 22) : (nI tx.length).toInt < (0 : Int32).toInt + ((tx.length + 1 : Nat) : Int) := by
  rw [nI_toInt (by omega)]
  show (tx.length : Int) < 0 + ((tx.length + 1 : Nat) : Int)
  omega
def rScrL (tx : List Int32) : Nat → Int32 → Int32 → List OrdC → Int32 × Int32 × List OrdC
  | 0, i, p, os => (0, p, os)
  | k + 1, i, p, os => if (nI tx.length) < i then (0, p, os) else (if ((rCmd tx p os).1) = 0 then (0, (rCmd tx p os).2.1, (rCmd tx p os).2.2) else (if ((rCmd tx p os).2.1) = (nI tx.length) then (1, (rCmd tx p os).2.1, (rCmd tx p os).2.2) else (if ((rSign tx 59 ((rCmd tx p os).2.1)).1) = 0 then (0, (rSign tx 59 ((rCmd tx p os).2.1)).2, (rCmd tx p os).2.2) else (rScrL tx k (i + 1) ((rSign tx 59 ((rCmd tx p os).2.1)).2) ((rCmd tx p os).2.2)))))
def rScr (tx : List Int32) (p : Int32) (os : List OrdC) : Int32 × Int32 × List OrdC := rScrL tx (tx.length + 1) 0 p os
set_option maxHeartbeats 1000000 in
set_option maxRecDepth 100000 in
theorem c_rScrL {G : GT} {X : String → Heap → Prop} {H0 : Heap} {g0 : Nat → Nat} {rd ol tr : Nat} {tx : List Int32} (htl : tx.length ≤ 22) {F : Int32 → Heap → Prop} {c2 s2 : Nat} : ∀ (k : Nat) (i : Int32) (p : Int32) (os : List OrdC) (H : Heap) (g : Nat → Nat) (cc ss : Nat), Ob G H g 40 rd 11 [.ref ol, .int p, .ref tr] → GL G (isOrd G) H g 41 ol os → Sz G H g tr tx → Ext G [33, 40, 41, 42, 43] H0 g0 H g → (nI tx.length).toInt < i.toInt + ((k : Nat) : Int) → ¬ i < 0 → os.length ≤ i.toNatClampNeg → c2 + 473 * k ≤ cc → s2 + 3410 * k ≤ ss → (∀ (H1 : Heap) (g1 : Nat → Nat), Ob G H1 g1 40 rd 11 [.ref ol, .int (rScrL tx k i p os).2.1, .ref tr] → GL G (isOrd G) H1 g1 41 ol (rScrL tx k i p os).2.2 → Ext G [33, 40, 41, 42, 43] H0 g0 H1 g1 → F ((rScrL tx k i p os).1) H1) → V G kX7_readScript 9 cc ss (qi F) X 2 [some (.ref rd), some (.int i)] [] H := by
  intro k
  induction k with
  | zero =>
    intro i p os H g cc ss hrd hol htx E hm hi0 hi1 hcc hss kk
    refine V_iload_1 dX7_readScript_2 ?_
    refine V_aload_0 dX7_readScript_3 ?_
    refine V_getf dX7_readScript_4 fl_X7_22 hrd.ro rfl ?_
    obtain ⟨fst, hst⟩ := htx.str.o
    refine V_call_i (runV0 dX7_readScript_7 ce_J0_length_8abf5 rfl ml_X7_26 im_J0_length_8abf5 se_J0_length_8abf5 hst ⟨_, rfl, rfl⟩ (Nat.le_of_ble_eq_true rfl)) (by omega) (by omega) (by omega) (c_slen htx.str ?_)
    refine V_icmp_gt (tgt := 55) dX7_readScript_10 (by decide) (fun c_10 => ?_) (fun c_10 => ?_)
    · refine V_iconst (v := 0) dX7_readScript_55 rfl ?_
      exact V_retz dX7_readScript_56 rfl rfl rfl (by rw [rScrL] at kk; exact kk H g hrd hol E)
    · exact absurd (loop_endL hm) c_10
  | succ k ih =>
    intro i p os H g cc ss hrd hol htx E hm hi0 hi1 hcc hss kk
    refine V_iload_1 dX7_readScript_2 ?_
    refine V_aload_0 dX7_readScript_3 ?_
    refine V_getf dX7_readScript_4 fl_X7_22 hrd.ro rfl ?_
    obtain ⟨fst, hst⟩ := htx.str.o
    refine V_call_i (runV0 dX7_readScript_7 ce_J0_length_8abf5 rfl ml_X7_26 im_J0_length_8abf5 se_J0_length_8abf5 hst ⟨_, rfl, rfl⟩ (Nat.le_of_ble_eq_true rfl)) (by omega) (by omega) (by omega) (c_slen htx.str ?_)
    refine V_icmp_gt (tgt := 55) dX7_readScript_10 (by decide) (fun c_10 => ?_) (fun c_10 => ?_)
    · refine V_iconst (v := 0) dX7_readScript_55 rfl ?_
      exact V_retz dX7_readScript_56 rfl rfl rfl (by rw [rScrL, if_pos c_10] at kk; exact kk H g hrd hol E)
    · refine V_aload_0 dX7_readScript_13 ?_
      refine V_call_i (runV0 dX7_readScript_14 ce_X7_readCommand rfl ml_X7_32 im_X7_readCommand se_X7_readCommand hrd.ro ⟨_, rfl, rfl⟩ (Nat.le_of_ble_eq_true rfl)) (by omega) (by omega) (by omega) (c_rCmd hrd hol htx (rs_hos htl hi1 c_10) fun H1 g1 hrd_ hol_ e1 => ?_)
      replace htx := htx.fr e1 (by decide)
      replace E := E.trans (e1.wide (by decide))
      replace hrd := hrd_
      replace hol := hol_
      clear hrd_ hol_
      refine V_if_ne (tgt := 22) dX7_readScript_17 (by decide) (fun c_17 => ?_) (fun c_17 => ?_)
      · refine V_aload_0 dX7_readScript_22 ?_
        refine V_getf dX7_readScript_23 fl_X7_18 hrd.ro rfl ?_
        refine V_aload_0 dX7_readScript_26 ?_
        refine V_getf dX7_readScript_27 fl_X7_22 hrd.ro rfl ?_
        obtain ⟨fst, hst⟩ := htx.str.o
        refine V_call_i (runV0 dX7_readScript_30 ce_J0_length_8abf5 rfl ml_X7_26 im_J0_length_8abf5 se_J0_length_8abf5 hst ⟨_, rfl, rfl⟩ (Nat.le_of_ble_eq_true rfl)) (by omega) (by omega) (by omega) (c_slen htx.str ?_)
        refine V_icmp_ne (tgt := 38) dX7_readScript_33 (by decide) (fun c_33 => ?_) (fun c_33 => ?_)
        · refine V_aload_0 dX7_readScript_38 ?_
          refine V_bipush (v := 59) dX7_readScript_39 (by decide) ?_
          refine V_call_i (runV1 dX7_readScript_41 ce_X7_readSign rfl ml_X7_36 im_X7_readSign se_X7_readSign hrd.ro ⟨_, rfl, rfl⟩ (Nat.le_of_ble_eq_true rfl)) (by omega) (by omega) (by omega) (c_rSign (x := 59) hrd htx fun H2 g2 hrd_ e2 => ?_)
          replace hol := GL.fr FRo hol e2 (by decide) (by decide)
          replace htx := htx.fr e2 (by decide)
          replace E := E.trans (e2.wide (by decide))
          replace hrd : Ob G H2 g2 40 rd 11 [.ref ol, .int ((rSign tx 59 ((rCmd tx p os).2.1)).2), .ref tr] := hrd_
          clear hrd_
          refine V_if_ne (tgt := 49) dX7_readScript_44 (by decide) (fun c_44 => ?_) (fun c_44 => ?_)
          · refine V_iinc_1 (v := 1) dX7_readScript_49 rfl rfl ?_
            refine V_goto (tgt := 2) dX7_readScript_52 (by decide) ?_
            exact ih _ _ _ H2 g2 _ _ hrd hol htx E (stepT htl c_10 hm) (rs_nn htl hi0 c_10) (rs_step htl hi0 hi1 c_10 (rCmd_len _ _ _)) (by omega) (by omega) (by rw [rScrL, if_neg c_10, if_neg c_17, if_neg c_33, if_neg c_44] at kk; exact kk)
          · refine V_iconst (v := 0) dX7_readScript_47 rfl ?_
            exact V_retz dX7_readScript_48 rfl rfl rfl (by rw [rScrL, if_neg c_10, if_neg c_17, if_neg c_33, if_pos c_44] at kk; exact kk H2 g2 hrd hol E)
        · refine V_iconst (v := 1) dX7_readScript_36 rfl ?_
          exact V_retz dX7_readScript_37 rfl rfl rfl (by rw [rScrL, if_neg c_10, if_neg c_17, if_pos c_33] at kk; exact kk H1 g1 hrd hol E)
      · refine V_iconst (v := 0) dX7_readScript_20 rfl ?_
        exact V_retz dX7_readScript_21 rfl rfl rfl (by rw [rScrL, if_neg c_10, if_pos c_17] at kk; exact kk H1 g1 hrd hol E)
set_option maxHeartbeats 1000000 in
set_option maxRecDepth 100000 in
theorem c_rScr {G : GT} {X : String → Heap → Prop} {H : Heap} {g : Nat → Nat} {rd ol tr : Nat} {tx : List Int32} (htl : tx.length ≤ 22) {p : Int32} {os : List OrdC} (hrd : Ob G H g 40 rd 11 [.ref ol, .int p, .ref tr]) (hol : GL G (isOrd G) H g 41 ol os) (htx : Sz G H g tr tx) (hos0 : os.length = 0) {F : Int32 → Heap → Prop} (kk : ∀ (H1 : Heap) (g1 : Nat → Nat), Ob G H1 g1 40 rd 11 [.ref ol, .int (rScr tx p os).2.1, .ref tr] → GL G (isOrd G) H1 g1 41 ol (rScr tx p os).2.2 → Ext G [33, 40, 41, 42, 43] H g H1 g1 → F ((rScr tx p os).1) H1) : Call G kX7_readScript 9 10879 78430 [.ref rd] H (qi F) X := by
  have E : Ext G [33, 40, 41, 42, 43] H g H g := Ext.rf
  refine startL (L0 := [some (.ref rd), none]) rfl rfl pl_X7_readScript (Nat.le_of_ble_eq_true rfl) ?_
  refine V_iconst (v := 0) dX7_readScript_0 rfl ?_
  refine V_istore_1 dX7_readScript_1 rfl ?_
  exact c_rScrL (c2 := 0) (s2 := 0) htl  (tx.length + 1) 0 _ _ H g _ _ hrd hol htx (Ext.rf (ts := [33, 40, 41, 42, 43])) (initT htl) (by decide) (by rw [hos0]; exact Nat.le_refl _) (Nat.le_trans (Nat.add_le_add_left (Nat.mul_le_mul_left _ (show tx.length + 1 ≤ 23 by omega)) _) (by omega)) (Nat.le_trans (Nat.add_le_add_left (Nat.mul_le_mul_left _ (show tx.length + 1 ≤ 23 by omega)) _) (by omega)) (by rw [rScr] at kk; exact fun Hz gz hrd_ hol_ ez => kk Hz gz hrd_ hol_ (E.trans ez))
set_option maxHeartbeats 1000000 in
set_option maxRecDepth 100000 in
theorem c_rScrF {G : GT} {X : String → Heap → Prop} {H : Heap} {g : Nat → Nat} {rd ol tr : Nat} {tx : List Int32} {p : Int32} {os : List OrdC} (hrd : Ob G H g 40 rd 11 [.ref ol, .int p, .ref tr]) (hol : GL G (isOrd G) H g 41 ol os) (htx : Sz G H g tr tx) (hos : os.length = 0) (hfail : (rCmd tx p os).1 = 0) {F : Int32 → Heap → Prop} (kk : ∀ (H1 : Heap) (g1 : Nat → Nat), Ob G H1 g1 40 rd 11 [.ref ol, .int (rCmd tx p os).2.1, .ref tr] → GL G (isOrd G) H1 g1 41 ol (rCmd tx p os).2.2 → Ext G [33, 40, 41, 42, 43] H g H1 g1 → F 0 H1) : Call G kX7_readScript 9 473 3410 [.ref rd] H (qi F) X := by
  refine startL (L0 := [some (.ref rd), none]) rfl rfl pl_X7_readScript (Nat.le_of_ble_eq_true rfl) ?_
  refine V_iconst (v := 0) dX7_readScript_0 rfl ?_
  refine V_istore_1 dX7_readScript_1 rfl ?_
  refine V_iload_1 dX7_readScript_2 ?_
  refine V_aload_0 dX7_readScript_3 ?_
  refine V_getf dX7_readScript_4 fl_X7_22 hrd.ro rfl ?_
  obtain ⟨fst, hst⟩ := htx.str.o
  refine V_call_i (runV0 dX7_readScript_7 ce_J0_length_8abf5 rfl ml_X7_26 im_J0_length_8abf5 se_J0_length_8abf5 hst ⟨_, rfl, rfl⟩ (Nat.le_of_ble_eq_true rfl)) (by omega) (by omega) (by omega) (c_slen htx.str ?_)
  refine V_icmp_gt (tgt := 55) dX7_readScript_10 (by decide) (fun c_10 => ?_) (fun c_10 => ?_)
  · exact absurd c_10 (by rw [Int32.lt_iff_toInt_lt, nI_toInt (by have := htx.2.1; omega)]; show ¬ (tx.length : Int) < 0; omega)
  · refine V_aload_0 dX7_readScript_13 ?_
    refine V_call_i (runV0 dX7_readScript_14 ce_X7_readCommand rfl ml_X7_32 im_X7_readCommand se_X7_readCommand hrd.ro ⟨_, rfl, rfl⟩ (Nat.le_of_ble_eq_true rfl)) (by omega) (by omega) (by omega) (c_rCmd hrd hol htx (by omega) fun H1 g1 hrd hol e => ?_)
    refine V_if_ne (tgt := 22) dX7_readScript_17 (by decide) (fun c_17 => ?_) (fun c_17 => ?_)
    · exact absurd hfail c_17
    · refine V_iconst (v := 0) dX7_readScript_20 rfl ?_
      exact V_retz dX7_readScript_21 rfl rfl rfl (kk H1 g1 hrd hol e)
set_option maxHeartbeats 1000000 in
set_option maxRecDepth 100000 in
theorem c_rdInit {G : GT} {X : String → Heap → Prop} {H : Heap} {g : Nat → Nat} {rd tr : Nat} {tx : List Int32} {v0 v1 v2 : Value} (ho : Ob G H g 40 rd 11 [v0, v1, v2]) (htx : Sz G H g tr tx) {F : Heap → Prop} (kk : ∀ (H1 : Heap) (g1 : Nat → Nat) (ol : Nat), Ob G H1 g1 40 rd 11 [.ref ol, .int 0, .ref tr] → GL G (isOrd G) H1 g1 41 ol [] → Sz G H1 g1 tr tx → Ext G [40, 41] H g H1 g1 → F H1) : Call G kX7_init 4 1 3 [.ref rd, .ref tr] H (qv F) X := by
  refine startL (L0 := [some (.ref rd), some (.ref tr)]) rfl rfl pl_X7_init (Nat.le_of_ble_eq_true rfl) ?_
  refine V_aload_0 dX7_init_0 ?_
  refine V_oinit dX7_init_1 ml_X7_3 ex_oiI ex_oiC (Nat.le_of_ble_eq_true rfl) (Nat.le_of_ble_eq_true rfl) ?_
  refine V_aload_0 dX7_init_4 ?_
  refine V_mk2 (g := g) 41 3 dX7_init_5 nw_X7_9 rfl (by omega) (by omega) fun ol H1 g1 hol e1 z1 => ?_
  replace ho := ho.fr e1 (by simp)
  replace htx := htx.fr e1 (by simp)
  have E : Ext G [40, 41] H g H1 g1 := e1.wide (by simp)
  refine V_dup dX7_init_8 rfl ?_
  refine V_call_v (runI0 dX7_init_9 ce_Jx4a65c_init_da8c8 rfl rfl rfl ml_X7_11 im_Jx4a65c_init_da8c8 (Nat.le_of_ble_eq_true rfl)) (by omega) (by omega) (by omega) (c_alinit hol (by decide) fun H2 hol e2 => ?_)
  replace ho := ho.fr e2 (by decide)
  replace htx := htx.fr e2 (by decide)
  replace E := E.trans (e2.wide (by decide))
  refine V_put dX7_init_12 fp_X7_init_12 ho (by decide) ⟨rfl, rfl⟩ (Nat.le_of_ble_eq_true rfl) rfl fun H3 ho e3 z3 => ?_
  replace hol := hol.fr e3 (by decide) (by decide)
  replace htx := htx.fr e3 (by decide)
  replace E := E.trans (e3.wide (by decide))
  refine V_aload_0 dX7_init_15 ?_
  refine V_iconst (v := 0) dX7_init_16 rfl ?_
  refine V_put dX7_init_17 fp_X7_init_18 ho (by decide) ⟨rfl, rfl⟩ (Nat.le_of_ble_eq_true rfl) rfl fun H4 ho e4 z4 => ?_
  replace hol := hol.fr e4 (by decide) (by decide)
  replace htx := htx.fr e4 (by decide)
  replace E := E.trans (e4.wide (by decide))
  refine V_aload_0 dX7_init_20 ?_
  refine V_aload_1 dX7_init_21 ?_
  refine V_put dX7_init_22 fp_X7_init_22 ho (by decide) ⟨rfl, rfl⟩ (Nat.le_of_ble_eq_true rfl) rfl fun H5 ho e5 z5 => ?_
  replace hol := hol.fr e5 (by decide) (by decide)
  replace htx := htx.fr e5 (by decide)
  replace E := E.trans (e5.wide (by decide))
  exact V_retv dX7_init_25 rfl (kk H5 g1 ol ho hol.GL htx E)

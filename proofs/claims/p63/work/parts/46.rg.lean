/-! the registry: what its cells hold, as a value -/
def okc (cp : Nat) : Prop := cp = 16 ∨ cp = 34 ∨ cp = 70 ∨ cp = 142
/-- a builder whose row has grown by the usual steps -/
def SO (G : GT) (H : Heap) (g : Nat → Nat) (t a : Nat) (l : List Int32) : Prop := ∃ cp : Nat, SB G H g t a l cp ∧ okc cp
/-- the docket's and the settlement's rows -/
def DkO (G : GT) (H : Heap) (g : Nat → Nat) (dk : Nat) : Prop := ∃ (fl ba : Nat) (fd : List CaseC) (bf : List Int32), Rz G H g dk 7 [.ref fl, .ref ba] ∧ CL G H g 27 fl fd ∧ Ja G H g 28 ba 0 61 bf
def SeO (G : GT) (H : Heap) (g : Nat → Nat) (se : Nat) : Prop := ∃ (ac mp : Nat) (cnt : Int32) (al pl : List Int32), Se G H g se ac mp cnt ∧ Ja G H g 30 ac 0 9 al ∧ Ja G H g 31 mp 0 512 pl ∧ gI pl 0 = 0
/-- now, snapshot, taken, earlier, word, script, output, latest error position, latest failed command, the court's rows -/
abbrev RgC : Type := StC × StC × Int32 × List StC × List Int32 × List Int32 × List Int32 × Int32 × Int32 × ScC
def RG (G : GT) (H : Heap) (g : Nat → Nat) (o : Nat) (R : RgC) : Prop := match R with
  | (S, sn, tk, ea, wd, sc, ou, le, lf, K) => ∃ nw sp el w s u co dk se : Nat, Ob G H g 1 o 15 [.ref nw, .ref sp, .int tk, .ref el, .ref w, .ref s, .ref u, .int le, .int lf, .ref co, .ref dk, .ref se] ∧ (tk = 0 ∨ tk = 1) ∧ MS G H g 0 nw S ∧ MS G H g 0 sp sn ∧ GL G (isSt G) H g 2 el ea ∧ SO G H g 3 w wd ∧ SO G H g 4 s sc ∧ SO G H g 5 u ou ∧ Crt G H g co K ∧ DkO G H g dk ∧ SeO G H g se
/-- the tags of the registry's own cells -/
def rgT : List Nat := [0, 1, 2, 3, 4, 5, 21, 24, 25, 26, 27, 28, 29, 30, 31]
section RGS
variable {G : GT} {H H1 : Heap} {g g1 : Nat → Nat} {ts : List Nat}
theorem SO.fr {t a : Nat} {l : List Int32} (h : SO G H g t a l) (e : Ext G ts H g H1 g1) (ht : t ∉ ts) : SO G H1 g1 t a l := by
  obtain ⟨cp, h1, h2⟩ := h
  exact ⟨cp, h1.fr e ht, h2⟩
theorem SO.o {t a : Nat} {l : List Int32} (h : SO G H g t a l) : ∃ fs, ro G H a 1 fs := by
  obtain ⟨cp, h1, h2⟩ := h
  exact h1.o
theorem SO.asc {t a : Nat} {l : List Int32} (h : SO G H g t a l) : asc l := by
  obtain ⟨cp, h1, h2⟩ := h
  exact h1.asc
theorem SO.len {t a : Nat} {l : List Int32} (h : SO G H g t a l) : l.length ≤ 142 := by
  obtain ⟨cp, ⟨b, mb, row, h1, h2, h3, h4, h5, h6, h7⟩, h8⟩ := h
  unfold okc at h8
  omega
theorem DkO.fr {dk : Nat} (h : DkO G H g dk) (e : Ext G ts H g H1 g1) (ht : 0 ∉ ts ∧ 27 ∉ ts ∧ 28 ∉ ts) : DkO G H1 g1 dk := by
  obtain ⟨fl, ba, fd, bf, h1, h2, h3⟩ := h
  exact ⟨fl, ba, fd, bf, h1.fr e ht.1, h2.fr e ht.2.1 ht.1, h3.fr e ht.2.2⟩
theorem SeO.fr {se : Nat} (h : SeO G H g se) (e : Ext G ts H g H1 g1) (ht : 29 ∉ ts ∧ 30 ∉ ts ∧ 31 ∉ ts) : SeO G H1 g1 se := by
  obtain ⟨ac, mp, cnt, al, pl, ⟨h1, h0⟩, h2, h3, h4⟩ := h
  exact ⟨ac, mp, cnt, al, pl, ⟨h1.fr e ht.1, h0⟩, h2.fr e ht.2.1, h3.fr e ht.2.2, h4⟩
theorem RG.fr {o : Nat} {R : RgC} (h : RG G H g o R) (e : Ext G ts H g H1 g1) (ht : ∀ t ∈ rgT, t ∉ ts) : RG G H1 g1 o R := by
  obtain ⟨S, sn, tk, ea, wd, sc, ou, le, lf, K⟩ := R
  obtain ⟨nw, sp, el, w, s, u, co, dk, se, a1, a2, a3, a4, a5, a6, a7, a8, a9, a10, a11⟩ := h
  have n : ∀ t, t ∈ rgT → t ∉ ts := ht
  have n0 := n 0 (by decide)
  exact ⟨nw, sp, el, w, s, u, co, dk, se, a1.fr e (n 1 (by decide)), a2, a3.fr e (tkn0 n0), a4.fr e (tkn0 n0), a5.fr FRs e (n 2 (by decide)) n0, a6.fr e (n 3 (by decide)), a7.fr e (n 4 (by decide)), a8.fr e (n 5 (by decide)), a9.fr e ⟨n0, n 21 (by decide), n 24 (by decide), n 25 (by decide), n 26 (by decide)⟩, a10.fr e ⟨n0, n 27 (by decide), n 28 (by decide)⟩, a11.fr e ⟨n 29 (by decide), n 30 (by decide), n 31 (by decide)⟩⟩
theorem RG.keep {o : Nat} {R : RgC} (h : RG G H g o R) (hz : H.size ≤ H1.size) (ho : ∀ q : Nat, q < H.size → H1[q]? = H[q]?) : RG G H1 g o R := h.fr (Ext.keep (ts := []) hz ho) (fun _ _ q => by cases q)
theorem RG.o {o : Nat} {R : RgC} (h : RG G H g o R) : ∃ fs, ro G H o 15 fs := by
  obtain ⟨S, sn, tk, ea, wd, sc, ou, le, lf, K⟩ := R
  obtain ⟨nw, sp, el, w, s, u, co, dk, se, a1, -⟩ := h
  exact ⟨_, a1.ro⟩
/-- a state under work is done: it never changes again -/
theorem MS.frz {a : Nat} {S : StC} (h : MS G H g 10 a S) : MS G H (gall G g [10, 11, 12, 13, 14] 0) 0 a S := by
  obtain ⟨bal, ten, cs, ps, n, ch, td, nx⟩ := S
  obtain ⟨h1, h2, b, k, u, v, h3, h4, h5, h6, h7⟩ := h
  have z : ∀ q, tg G g q ∈ [10, 11, 12, 13, 14] → tg G (gall G g [10, 11, 12, 13, 14] 0) q = 0 := fun q hq => by rw [tg_gall (Or.inl rfl), if_pos hq]
  have z0 : ∀ q, tg G g q = 0 → tg G (gall G g [10, 11, 12, 13, 14] 0) q = 0 := fun q hq => by rw [tg_gall (Or.inl rfl), hq]; rfl
  have e : Ext G [10, 11, 12, 13, 14] H g H (gall G g [10, 11, 12, 13, 14] 0) := Ext.gall (Or.inl rfl)
  have al : ∀ {t q : Nat} {rs : List Nat}, t ∈ [10, 11, 12, 13, 14] → AL G H g t q rs → AL G H (gall G g [10, 11, 12, 13, 14] 0) 0 q rs := by
    intro t q rs ht ha
    obtain ⟨bb, mc, q1, q2, q3, q4⟩ := ha
    refine ⟨bb, mc, ⟨q1.1, z _ (q1.2 ▸ ht)⟩, ?_, q3, fun r hr => ⟨(q4 r hr).1, z0 r (q4 r hr).2⟩⟩
    rcases q2 with q2 | ⟨arr, q5, q6⟩
    · exact Or.inl q2
    · exact Or.inr ⟨arr, ⟨q5.1, z _ (q5.2 ▸ ht)⟩, q6⟩
  obtain ⟨r6, c6, d6⟩ := h6
  obtain ⟨r7, c7, d7⟩ := h7
  exact ⟨h1, h2, b, k, u, v, ⟨h3.1, z _ (h3.2.symm ▸ (by decide : tk 10 0 ∈ [10, 11, 12, 13, 14]))⟩, ⟨h4.1, z _ (h4.2.symm ▸ (by decide : tk 10 1 ∈ [10, 11, 12, 13, 14]))⟩, ⟨h5.1, z _ (h5.2.symm ▸ (by decide : tk 10 2 ∈ [10, 11, 12, 13, 14]))⟩, ⟨r6, al (by decide) c6, d6.imp fun r x hx => hx.fr e (by decide)⟩, ⟨r7, al (by decide) c7, d7.imp fun r x hx => hx.fr e (by decide)⟩⟩
end RGS
/-- which exception an answer below zero stands for -/
def flt (a : Int32) : Option String :=
  if a = -1 then some "java/lang/IndexOutOfBoundsException" else if a = -2 then some "java/lang/IllegalArgumentException" else if a = -3 then some "java/lang/IllegalStateException" else if a = -4 then some "java/util/NoSuchElementException" else if a = -5 then some "java/lang/UnsupportedOperationException" else none
/-- the list of earlier states, with one more -/
def pushE (ea : List StC) (S : StC) : List StC := if nI ea.length < 8 then ea ++ [S] else ea.eraseIdx 0 ++ [S]
theorem rf_out {a : Int32} (h1 : ¬ a = -1) (h2 : ¬ a = -2) (h3 : ¬ a = -3) (h4 : ¬ a = -4) (h5 : ¬ a = -5) : a.toInt < -5 ∨ -1 < a.toInt := by
  have k : ∀ v : Int32, ¬ a = v → ¬ a.toInt = v.toInt := fun v h e => h (Int32.toInt_inj.mp e)
  have k1 : ¬ a.toInt = -1 := k _ h1
  have k2 : ¬ a.toInt = -2 := k _ h2
  have k3 : ¬ a.toInt = -3 := k _ h3
  have k4 : ¬ a.toInt = -4 := k _ h4
  have k5 : ¬ a.toInt = -5 := k _ h5
  omega
set_option maxHeartbeats 1000000 in
set_option maxRecDepth 100000 in
theorem c_refuse {G : GT} {X : String → Heap → Prop} {H : Heap} {a : Int32} {F : Heap → Prop} (kk : flt a = none → F H) (kx : ∀ E : String, flt a = some E → ∀ H1 : Heap, H.size ≤ H1.size → (∀ q : Nat, q < H.size → H1[q]? = H[q]?) → X E H1) : Call G kX12_refuseFault 6 1 6 [.int a] H (qv F) X := by
  refine startL (L0 := [some (.int a)]) rfl rfl pl_X12_refuseFault (Nat.le_of_ble_eq_true rfl) ?_
  refine V_iload_0 dX12_refuseFault_0 ?_
  by_cases h1 : a = -1
  · subst h1
    refine V_tabI (off := 35) (tgt := 36) dX12_refuseFault_1 (by decide) (by decide) rfl (by decide) ?_
    exact V_throwS (i := 6) (by decide +kernel) tc_IndexOut ti_IndexOut tw_IndexOut tg_IndexOut rfl dX12_refuseFault_36 dX12_refuseFault_39 dX12_refuseFault_40 dX12_refuseFault_42 dX12_refuseFault_45 rfl (by omega) (by omega) (by omega) (Nat.le_of_ble_eq_true rfl) (fun H1 hz ho => kx _ (by decide +kernel) H1 hz ho)
  · by_cases h2 : a = -2
    · subst h2
      refine V_tabI (off := 45) (tgt := 46) dX12_refuseFault_1 (by decide) (by decide) rfl (by decide) ?_
      exact V_throwS (i := 7) (by decide +kernel) tc_IllegalArg ti_IllegalArg tw_IllegalArg tg_IllegalArg rfl dX12_refuseFault_46 dX12_refuseFault_49 dX12_refuseFault_50 dX12_refuseFault_52 dX12_refuseFault_55 rfl (by omega) (by omega) (by omega) (Nat.le_of_ble_eq_true rfl) (fun H1 hz ho => kx _ (by decide +kernel) H1 hz ho)
    · by_cases h3 : a = -3
      · subst h3
        refine V_tabI (off := 55) (tgt := 56) dX12_refuseFault_1 (by decide) (by decide) rfl (by decide) ?_
        exact V_throwS (i := 8) (by decide +kernel) tc_IllegalState ti_IllegalState tw_IllegalState tg_IllegalState rfl dX12_refuseFault_56 dX12_refuseFault_59 dX12_refuseFault_60 dX12_refuseFault_62 dX12_refuseFault_65 rfl (by omega) (by omega) (by omega) (Nat.le_of_ble_eq_true rfl) (fun H1 hz ho => kx _ (by decide +kernel) H1 hz ho)
      · by_cases h4 : a = -4
        · subst h4
          refine V_tabI (off := 65) (tgt := 66) dX12_refuseFault_1 (by decide) (by decide) rfl (by decide) ?_
          exact V_throwN (i := 9) (by decide +kernel) tc_NoSuch ti_NoSuch tw_NoSuch tg_NoSuch rfl dX12_refuseFault_66 dX12_refuseFault_69 dX12_refuseFault_70 dX12_refuseFault_72 dX12_refuseFault_75 rfl (by omega) (by omega) (by omega) (Nat.le_of_ble_eq_true rfl) (fun H1 hz ho => kx _ (by decide +kernel) H1 hz ho)
        · by_cases h5 : a = -5
          · subst h5
            refine V_tabI (off := 75) (tgt := 76) dX12_refuseFault_1 (by decide) (by decide) rfl (by decide) ?_
            exact V_throwS (i := 10) (by decide +kernel) tc_Unsupp ti_Unsupp tw_Unsupp tg_Unsupp rfl dX12_refuseFault_76 dX12_refuseFault_79 dX12_refuseFault_80 dX12_refuseFault_82 dX12_refuseFault_85 rfl (by omega) (by omega) (by omega) (Nat.le_of_ble_eq_true rfl) (fun H1 hz ho => kx _ (by decide +kernel) H1 hz ho)
          · refine V_tabO (tgt := 86) dX12_refuseFault_1 (rf_out h1 h2 h3 h4 h5) (by decide) ?_
            exact V_retv dX12_refuseFault_86 rfl (kk (by unfold flt; rw [if_neg h1, if_neg h2, if_neg h3, if_neg h4, if_neg h5]))
theorem nI_lt8 {n : Nat} (h : nI n < 8) : n < 8 ∨ 2 ^ 31 ≤ n := by
  rcases Nat.lt_or_ge n (2 ^ 31) with q | q
  · exact Or.inl ((nI_ltI (b := 8) q (by decide)).mp h)
  · exact Or.inr q
theorem nI_ge8 {n : Nat} (h : ¬ nI n < 8) : 8 ≤ n := by
  rcases Nat.lt_or_ge n 8 with q | q
  · exact absurd (nI_lt (b := 8) q (by decide)) h
  · exact q
set_option maxHeartbeats 1000000 in
set_option maxRecDepth 100000 in
theorem c_accept {G : GT} {X : String → Heap → Prop} {H : Heap} {g : Nat → Nat} {o nx : Nat} {R : RgC} {S2 : StC} {a : Int32} (hR : RG G H g o R) (h10 : MS G H g 10 nx S2) (hea : R.2.2.2.1.length ≤ 8) {F : Int32 → Heap → Prop} (kk : flt a = none → ∀ (H1 : Heap) (g1 : Nat → Nat), RG G H1 g1 o (S2, R.2.1, R.2.2.1, pushE R.2.2.2.1 R.1, R.2.2.2.2) → Ext G [1, 2, 10, 11, 12, 13, 14] H g H1 g1 → F a H1) (kx : ∀ E : String, flt a = some E → ∀ H1 : Heap, H.size ≤ H1.size → (∀ q : Nat, q < H.size → H1[q]? = H[q]?) → X E H1) : Call G kX12_accept 8 2 67 [.ref o, .ref nx, .int a] H (qi F) X := by
  obtain ⟨S, sn, tk, ea, wd, sc, ou, le, lf, K⟩ := R
  have hea8 : ea.length ≤ 8 := hea
  obtain ⟨nw, sp, el, w, s, u, co, dk, se, ho, htk, hnw, hsp, hel, hw, hs, hu, hco, hdk, hse⟩ := hR
  refine startL (L0 := [some (.ref o), some (.ref nx), some (.int a)]) rfl rfl pl_X12_accept (Nat.le_of_ble_eq_true rfl) ?_
  refine V_iload_2 dX12_accept_0 ?_
  refine V_call_v (runS1 dX12_accept_1 ce_X12_refuseFault rfl ml_X12_125 st_X12_refuseFault (Nat.le_of_ble_eq_true rfl)) (by omega) (by omega) (by omega) (c_refuse (fun hf => ?_) (fun E hE H1 hz hq => VX_out rfl (kx E hE H1 hz hq)))
  refine V_aload_0 dX12_accept_4 ?_
  refine V_getf dX12_accept_5 fl_X12_26 ho.ro rfl ?_
  obtain ⟨fel, hfe⟩ := hel.ro
  refine V_call_i (runV0 dX12_accept_8 ce_Jx4a65c_size_8abf5 rfl ml_X12_128 im_Jx4a65c_size_8abf5 se_Jx4a65c_size_8abf5 hfe ⟨_, rfl, rfl⟩ (Nat.le_of_ble_eq_true rfl)) (by omega) (by omega) (by omega) (c_glsize hel ?_)
  refine V_bipush (v := 8) dX12_accept_11 (by decide) ?_
  have E : Ext G [1, 2, 10, 11, 12, 13, 14] H g H g := Ext.rf
  refine V_icmp_lt (tgt := 25) dX12_accept_13 (by decide) (fun c_13 => ?_) (fun c_13 => ?_)
  · refine V_aload_0 dX12_accept_25 ?_
    refine V_getf dX12_accept_26 fl_X12_26 ho.ro rfl ?_
    refine V_aload_0 dX12_accept_29 ?_
    refine V_getf dX12_accept_30 fl_X12_10 ho.ro rfl ?_
    obtain ⟨fel, hfe⟩ := hel.ro
    refine V_call_i (runV1 dX12_accept_33 ce_Jx4a65c_add_9ea2d rfl ml_X12_136 im_Jx4a65c_add_9ea2d se_Jx4a65c_add_9ea2d hfe ⟨_, rfl, rfl⟩ (Nat.le_of_ble_eq_true rfl)) (by omega) (by omega) (by omega) (c_gladd (x := S) FRs ELs hel (by have := nI_lt8 c_13; have := hel.len; omega) hnw (by decide) fun H1 g1 hel e1 => ?_)
    replace ho := ho.fr e1 (by decide)
    replace h10 := h10.fr e1 (tk_of (Or.inr rfl) (by decide))
    replace hnw := hnw.fr e1 (tkn0 (by decide))
    replace hsp := hsp.fr e1 (tkn0 (by decide))
    replace hw := hw.fr e1 (by decide)
    replace hs := hs.fr e1 (by decide)
    replace hu := hu.fr e1 (by decide)
    replace hco := hco.fr e1 (by decide)
    replace hdk := hdk.fr e1 (by decide)
    replace hse := hse.fr e1 (by decide)
    replace E := E.trans (e1.wide (by decide))
    refine V_pop dX12_accept_36 rfl ?_
    refine V_aload_0 dX12_accept_37 ?_
    refine V_aload_1 dX12_accept_38 ?_
    refine V_put dX12_accept_39 fp_X12_accept_10 ho (by decide) ⟨rfl, rfl⟩ (Nat.le_of_ble_eq_true rfl) rfl fun H2 ho e2 z => ?_
    replace hel := hel.fr FRs e2 (by decide) (by decide)
    replace h10 := h10.fr e2 (tk_of (Or.inr rfl) (by decide))
    replace hsp := hsp.fr e2 (tkn0 (by decide))
    replace hw := hw.fr e2 (by decide)
    replace hs := hs.fr e2 (by decide)
    replace hu := hu.fr e2 (by decide)
    replace hco := hco.fr e2 (by decide)
    replace hdk := hdk.fr e2 (by decide)
    replace hse := hse.fr e2 (by decide)
    replace E := E.trans (e2.wide (by decide))
    refine V_iload_2 dX12_accept_42 ?_
    have ef : Ext G [10, 11, 12, 13, 14] H2 g1 H2 (gall G g1 [10, 11, 12, 13, 14] 0) := Ext.gall (Or.inl rfl)
    exact V_reti dX12_accept_43 rfl rfl (kk hf H2 _ ⟨nx, sp, el, w, s, u, co, dk, se, ho.fr ef (by decide), htk, h10.frz, hsp.fr ef (tkn0 (by decide)), (by rw [pushE, if_pos c_13]; exact hel.fr FRs ef (by decide) (by decide)), hw.fr ef (by decide), hs.fr ef (by decide), hu.fr ef (by decide), hco.fr ef (by decide), hdk.fr ef (by decide), hse.fr ef (by decide)⟩ (E.trans (ef.wide (by decide))))
  · have h8 : 8 ≤ ea.length := nI_ge8 c_13
    have hl := hel.len
    refine V_aload_0 dX12_accept_16 ?_
    refine V_getf dX12_accept_17 fl_X12_26 ho.ro rfl ?_
    refine V_iconst (v := 0) dX12_accept_20 rfl ?_
    refine V_int (y := nI 0) rfl ?_
    obtain ⟨fel, hfe⟩ := hel.ro
    refine V_call_a (runV1 dX12_accept_21 ce_Jx4a65c_remove_915e3 rfl ml_X12_132 im_Jx4a65c_remove_915e3 se_Jx4a65c_remove_915e3 hfe ⟨_, rfl, rfl⟩ (Nat.le_of_ble_eq_true rfl)) (by omega) (by omega) (by omega) (c_glrem (j := 0) FRs hel (List.getElem?_eq_getElem (by omega)) (by decide) fun r H1 hr hel e1 => ?_)
    replace ho := ho.fr e1 (by decide)
    replace h10 := h10.fr e1 (tk_of (Or.inr rfl) (by decide))
    replace hnw := hnw.fr e1 (tkn0 (by decide))
    replace hsp := hsp.fr e1 (tkn0 (by decide))
    replace hw := hw.fr e1 (by decide)
    replace hs := hs.fr e1 (by decide)
    replace hu := hu.fr e1 (by decide)
    replace hco := hco.fr e1 (by decide)
    replace hdk := hdk.fr e1 (by decide)
    replace hse := hse.fr e1 (by decide)
    replace E := E.trans (e1.wide (by decide))
    refine V_pop dX12_accept_24 rfl ?_
    refine V_aload_0 dX12_accept_25 ?_
    refine V_getf dX12_accept_26 fl_X12_26 ho.ro rfl ?_
    refine V_aload_0 dX12_accept_29 ?_
    refine V_getf dX12_accept_30 fl_X12_10 ho.ro rfl ?_
    obtain ⟨fel, hfe⟩ := hel.ro
    refine V_call_i (runV1 dX12_accept_33 ce_Jx4a65c_add_9ea2d rfl ml_X12_136 im_Jx4a65c_add_9ea2d se_Jx4a65c_add_9ea2d hfe ⟨_, rfl, rfl⟩ (Nat.le_of_ble_eq_true rfl)) (by omega) (by omega) (by omega) (c_gladd (x := S) FRs ELs hel (by rw [List.length_eraseIdx]; split <;> omega) hnw (by decide) fun H2 g2 hel e2 => ?_)
    replace ho := ho.fr e2 (by decide)
    replace h10 := h10.fr e2 (tk_of (Or.inr rfl) (by decide))
    replace hnw := hnw.fr e2 (tkn0 (by decide))
    replace hsp := hsp.fr e2 (tkn0 (by decide))
    replace hw := hw.fr e2 (by decide)
    replace hs := hs.fr e2 (by decide)
    replace hu := hu.fr e2 (by decide)
    replace hco := hco.fr e2 (by decide)
    replace hdk := hdk.fr e2 (by decide)
    replace hse := hse.fr e2 (by decide)
    replace E := E.trans (e2.wide (by decide))
    refine V_pop dX12_accept_36 rfl ?_
    refine V_aload_0 dX12_accept_37 ?_
    refine V_aload_1 dX12_accept_38 ?_
    refine V_put dX12_accept_39 fp_X12_accept_10 ho (by decide) ⟨rfl, rfl⟩ (Nat.le_of_ble_eq_true rfl) rfl fun H3 ho e3 z => ?_
    replace hel := hel.fr FRs e3 (by decide) (by decide)
    replace h10 := h10.fr e3 (tk_of (Or.inr rfl) (by decide))
    replace hsp := hsp.fr e3 (tkn0 (by decide))
    replace hw := hw.fr e3 (by decide)
    replace hs := hs.fr e3 (by decide)
    replace hu := hu.fr e3 (by decide)
    replace hco := hco.fr e3 (by decide)
    replace hdk := hdk.fr e3 (by decide)
    replace hse := hse.fr e3 (by decide)
    replace E := E.trans (e3.wide (by decide))
    refine V_iload_2 dX12_accept_42 ?_
    have ef : Ext G [10, 11, 12, 13, 14] H3 g2 H3 (gall G g2 [10, 11, 12, 13, 14] 0) := Ext.gall (Or.inl rfl)
    exact V_reti dX12_accept_43 rfl rfl (kk hf H3 _ ⟨nx, sp, el, w, s, u, co, dk, se, ho.fr ef (by decide), htk, h10.frz, hsp.fr ef (tkn0 (by decide)), (by rw [pushE, if_neg c_13]; exact hel.fr FRs ef (by decide) (by decide)), hw.fr ef (by decide), hs.fr ef (by decide), hu.fr ef (by decide), hco.fr ef (by decide), hdk.fr ef (by decide), hse.fr ef (by decide)⟩ (E.trans (ef.wide (by decide))))

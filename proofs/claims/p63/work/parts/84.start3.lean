section START
variable {args : Array Value} {s : State}
theorem st_go {k n : Nat} {C : String} {T : u_T} {N : Nat} (hts : ∀ w ∈ lw_tbl, w.before args s = true) (hin : ∀ w ∈ u_ws C T N, w ∈ lw_tbl) (hi : Cond.instantiable C n ∈ lw_tbl) (hk : vwCl[k]? = some (C, T, N)) : ∃ p : ClassId × (Nat → Nat), ∀ q : vw_C, vwCl[k]? = some q → u_Kn s q.1 q.2.1 q.2.2 p.1 p.2 := by
  obtain ⟨c, i, h⟩ := u_known hts hin (hts _ hi)
  refine ⟨(c, i), fun q hq => ?_⟩
  obtain rfl : (C, T, N) = q := Option.some.inj (hk.symm.trans hq)
  exact h
theorem st_cl (hts : ∀ w ∈ lw_tbl, w.before args s = true) : ∀ k : Nat, ∃ p : ClassId × (Nat → Nat), ∀ q : vw_C, vwCl[k]? = some q → u_Kn s q.1 q.2.1 q.2.2 p.1 p.2 := by
  intro k
  match k with
  | 0 => exact st_go (n := 4) hts inJ0 (by decide +kernel) rfl
  | 1 => exact st_go (n := 4) hts inJ4 (by decide +kernel) rfl
  | 2 => exact st_go (n := 6) hts inJx00060 (by decide +kernel) rfl
  | 3 => exact st_go (n := 6) hts inJx7c733 (by decide +kernel) rfl
  | 4 => exact st_go (n := 3) hts inJx4a65c (by decide +kernel) rfl
  | 5 => exact st_go (n := 14) hts inX1 (by decide +kernel) rfl
  | 6 => exact st_go (n := 2) hts inX2 (by decide +kernel) rfl
  | 7 => exact st_go (n := 2) hts inX3 (by decide +kernel) rfl
  | 8 => exact st_go (n := 4) hts inX4 (by decide +kernel) rfl
  | 9 => exact st_go (n := 2) hts inX5 (by decide +kernel) rfl
  | 10 => exact st_go (n := 3) hts inX6 (by decide +kernel) rfl
  | 11 => exact st_go (n := 3) hts inX7 (by decide +kernel) rfl
  | 12 => exact st_go (n := 3) hts inX8 (by decide +kernel) rfl
  | 13 => exact st_go (n := 8) hts inX9 (by decide +kernel) rfl
  | 14 => exact st_go (n := 3) hts inX10 (by decide +kernel) rfl
  | 15 => exact st_go (n := 12) hts inX12 (by decide +kernel) rfl
  | k + 16 => exact ⟨(0, fun _ => 0), fun q hq => by simp [vwCl] at hq⟩
theorem st_at {c k : Nat} {kA : Class} {ty : FieldType} {comp : ClassId} (h2 : s.vm.classes[c]? = some kA) (h3 : kA.kind = .array comp ty) : ArrOfT s c ty := fun n z => ⟨(fun k h => by cases h), kA, h2, comp, h3⟩
theorem st_ty (hts : ∀ w ∈ lw_tbl, w.before args s = true) : ∃ t : Nat → ClassId, ∀ (k : Nat) (q : ClassId × FieldType), (tyL t)[k]? = some q → ArrOfT s q.1 q.2 ∧ va_RA s q.1 q.2 := by
  obtain ⟨r0, r1, r2, r3, r4, r5⟩ := st_rows
  obtain ⟨c0, k0, m0, a0, b0, d0⟩ := Cond.arrayClass_spec (hts _ r0)
  obtain ⟨c1, k1, m1, a1, b1, d1⟩ := Cond.arrayClass_spec (hts _ r1)
  obtain ⟨c2, k2, m2, a2, b2, d2⟩ := Cond.arrayClass_spec (hts _ r2)
  obtain ⟨c3, k3, m3, a3, b3, d3⟩ := Cond.arrayClass_spec (hts _ r3)
  obtain ⟨c4, k4, m4, a4, b4, d4⟩ := Cond.arrayClass_spec (hts _ r4)
  obtain ⟨m5, c5, k5, e5, -, b5, d5, a5⟩ := Cond.arrayOver_spec (n := "java/lang/Object") (hts _ r5)
  refine ⟨fun i => if i = 0 then c0 else if i = 1 then c1 else if i = 2 then c2 else if i = 3 then c3 else if i = 4 then c4 else c5, fun k q hq => ?_⟩
  match k, hq with
  | 0, hq => cases hq; exact ⟨st_at (k := 0) b0 d0, a0⟩
  | 1, hq => cases hq; exact ⟨st_at (k := 0) b1 d1, a1⟩
  | 2, hq => cases hq; exact ⟨st_at (k := 0) b2 d2, a2⟩
  | 3, hq => cases hq; exact ⟨st_at (k := 0) b3 d3, a3⟩
  | 4, hq => cases hq; exact ⟨st_at (k := 0) b4 d4, a4⟩
  | 5, hq => cases hq; exact ⟨st_at (k := 0) b5 d5, k5, m5, b5, d5, e5, a5⟩
  | k + 6, hq => simp [tyL] at hq
theorem st_K (hts : ∀ w ∈ lw_tbl, w.before args s = true) : ∃ (D : va_G) (t : Nat → ClassId), va_K D vwCl (tyL t) s := by
  obtain ⟨f, hf⟩ := Classical.axiomOfChoice (st_cl hts)
  obtain ⟨t, ht⟩ := st_ty hts
  exact ⟨(fun k => (f k).1, fun k => (f k).2), t, fun k q hq => hf k q hq, ht⟩
end START
/-- the address that a term names at the start -/
def st_ev (args : Array Value) (s : State) (t : Term) : Nat := match t.eval args s none [] s with
  | some (.ref a) => a
  | _ => 0
theorem st_evr {args : Array Value} {s : State} {t : Term} {a : Nat} (h : t.eval args s none [] s = some (.ref a)) : t.eval args s none [] s = some (.ref (st_ev args s t)) := by
  have e : st_ev args s t = a := by unfold st_ev; rw [h]
  rw [e]; exact h
def st_tm (i : Nat) : Term := if i < 56 then .string (strT.getD i ("", 0, "")).1 (strT.getD i ("", 0, "")).2.1 else if i < 1100 then .static (stT.getD (i - 1000) ("", "", "")).1 (stT.getD (i - 1000) ("", "", "")).2.1 (stT.getD (i - 1000) ("", "", "")).2.2 else st_V (i - 1100)
def st_fo (args : Array Value) (s : State) : Nat := match st_FO.eval args s none [] s with
  | some .null => 0
  | _ => 1
def st_A (args : Array Value) (s : State) (mi : Nat) (i : Nat) : Nat := if i = 1200 then mi else if i = 1007 then st_fo args s else st_ev args s (st_tm i)
theorem st_A0 {args : Array Value} {s : State} {mi i : Nat} (h : i < 1000) : st_A args s mi i = st_ev args s (st_tm i) := by
  unfold st_A
  rw [if_neg (by omega), if_neg (by omega)]
section OLDS
variable {args : Array Value} {G : GT}
theorem st_gF : ∀ a : Nat, a < (gB G).heap.size → ¬ gF G a := fun a h z => absurd h (Nat.not_lt.mpr z)
theorem st_ra {tm : Term} {k n : Nat} {f : Nat → Value} (hn : n < 2 ^ 31) (harr : (Cond.arrayOf tm (tyK k)).before args (gB G) = true) (hl : (Cond.eq (.length tm) (.int (Int32.ofNat n))).before args (gB G) = true) (hel : ∀ j : Nat, j < n → (Term.elem tm (.int (Int32.ofNat j))).eval args (gB G) none [] (gB G) = some (f j)) : tm.eval args (gB G) none [] (gB G) = some (.ref (st_ev args (gB G) tm)) ∧ ra G (gB G).heap (st_ev args (gB G) tm) k n f := by
  have hlen := va_eqt hl
  obtain ⟨t, cell, ht, hat, hv⟩ := Term.length_spec hlen
  obtain ⟨hcell, hkn, hst, -⟩ := State.arrayAt?_spec hat
  obtain ⟨hof, -⟩ := Cond.arrayOf_spec harr ht hcell
  have key : ∀ j : Nat, j < n → j < cell.slots.size ∧ cell.slots[j]? = some (f j) := by
    intro j hj
    obtain ⟨a, i, cell2, h1, h2, h3, h4, h5⟩ := Term.elem_spec (hel j hj)
    cases ht.symm.trans h1
    cases hat.symm.trans h3
    have hi : i = Int32.ofNat j := by
      have e : (Term.int (Int32.ofNat j)).eval args (gB G) none [] (gB G) = some (.int (Int32.ofNat j)) := rfl
      cases h2.symm.trans e
      rfl
    have hc : i.toNatClampNeg = j := by rw [hi]; exact Int32.toNatClampNeg_ofNat_of_lt (Nat.lt_trans hj hn)
    rw [hc] at h4 h5
    exact ⟨Nat.not_le.mp fun q => h4 (Or.inr q), h5⟩
  have h9 := st_evr ht
  refine ⟨h9, ?_⟩
  cases ht.symm.trans h9
  refine ⟨cell, hcell, hof, hkn, hst, ?_, (Value.int.inj hv).symm, fun j hj => (key j hj).2⟩
  cases n with
  | zero => exact Nat.zero_le _
  | succ k => exact (key k (Nat.lt_succ_self k)).1
theorem st_slot (hts : ∀ w ∈ lw_tbl, w.before args (gB G) = true) {C : String} {T : u_T} {N k : Nat} (hin : ∀ w ∈ u_ws C T N, w ∈ lw_tbl) (hk : k < N) {cC : ClassId} {iS : Nat → Nat} (hKn : u_Kn (gB G) C T N cC iS) {cell : Cell} (hsz : ∀ kA : Class, (gB G).vm.classes[cC]? = some kA → kA.kind = .ordinary → cell.slots.size = kA.instanceTypes.size) : ∃ v : Value, cell.slots[iS k]? = some v := by
  obtain ⟨cf, kf, fi, fd, e1, e2⟩ := hKn.1 k hk
  obtain ⟨hc, kC, hkC, hord⟩ := hKn.2
  have hz := hsz kC hkC hord
  have key : ∀ {c : ClassId} {k2 : Class} {fd2 : Field} {x y z}, (gB G).vm.findClass C = some c → (gB G).vm.classes[c]? = some k2 → (gB G).fieldFound? (T k).1 (T k).2.1 (T k).2.2.1 = some (x, y, z, fd2) → ∀ {ty : FieldType}, k2.instanceTypes[fd2.slot]? = some ty → iS k < cell.slots.size := by
    intro c k2 fd2 x y z r1 r2 r3 ty r7
    cases hc.symm.trans r1
    cases hkC.symm.trans r2
    cases e1.symm.trans r3
    rw [hz, ← e2]
    exact (Array.getElem?_eq_some_iff.mp r7).1
  have hlt : iS k < cell.slots.size := by
    rcases u_lays hts hin hk with h | h
    · obtain ⟨c, k2, x, y, z, f, r1, r2, r3, -, -, -, r7, -⟩ := Cond.lays_spec h
      exact key r1 r2 r3 r7
    · obtain ⟨c, k2, x, y, z, f, r1, r2, r3, -, -, -, -, r7, -⟩ := Cond.laysFinal_spec h
      exact key r1 r2 r3 r7
  exact ⟨_, Array.getElem?_eq_getElem hlt⟩
theorem st_str (hts : ∀ w ∈ lw_tbl, w.before args (gB G) = true) (hN : ∀ w ∈ st_F, w.before args (gB G) = true) (hK : va_K (gD G) vwCl (tyL (gT G)) (gB G)) {i : Nat} (hi : i < 56) : (st_tm i).eval args (gB G) none [] (gB G) = some (.ref (st_ev args (gB G) (st_tm i))) ∧ vk_R (strT.getD i ("", 0, "")).1 (strT.getD i ("", 0, "")).2.1 (strT.getD i ("", 0, "")).2.2 (st_ev args (gB G) (st_tm i)) (gB G) ∧ isStr G (gB G).heap (st_ev args (gB G) (st_tm i)) (chars (strT.getD i ("", 0, "")).2.2) := by
  have hm := st_mem hi
  have hq : strT.getD i ("", 0, "") ∈ strT := by
    rw [List.getD_eq_getElem?_getD, List.getElem?_eq_getElem (show i < strT.length from hi)]
    exact List.getElem_mem _
  have htm : st_tm i = .string (strT.getD i ("", 0, "")).1 (strT.getD i ("", 0, "")).2.1 := by unfold st_tm; rw [if_pos hi]
  rw [htm]
  generalize strT.getD i ("", 0, "") = q at *
  obtain ⟨own, kk, tx⟩ := q
  dsimp only at *
  have ha := st_asc _ hq
  have m0 : Cond.exactly (.string own kk) "java/lang/String" ∈ st_F := hm _ (List.mem_append_left _ List.mem_cons_self)
  have m1 : Cond.eq (.field (.string own kk) "java/lang/String" "coder" "B") (.int 0) ∈ st_F := hm _ (List.mem_append_left _ (List.mem_cons_of_mem _ List.mem_cons_self))
  have m2 : Cond.arrayOf (.field (.string own kk) "java/lang/String" "value" "[B") (tyK 2) ∈ st_F := hm _ (List.mem_append_left _ (List.mem_cons_of_mem _ (List.mem_cons_of_mem _ List.mem_cons_self)))
  have m3 : Cond.eq (.length (.field (.string own kk) "java/lang/String" "value" "[B")) (.int (Int32.ofNat (chars tx).length)) ∈ st_F := hm _ (List.mem_append_left _ (List.mem_cons_of_mem _ (List.mem_cons_of_mem _ (List.mem_cons_of_mem _ List.mem_cons_self))))
  have m4 : ∀ j : Nat, j < (chars tx).length → Cond.eq (.elem (.field (.string own kk) "java/lang/String" "value" "[B") (.int (Int32.ofNat j))) (.int ((chars tx).getD j 0)) ∈ st_F := fun j hj => hm _ (List.mem_append_right _ (List.mem_map.mpr ⟨j, List.mem_range.mpr hj, rfl⟩))
  obtain ⟨a, c, cell, kA, q1, q2, q3, q4, q5, q6, q7⟩ := Cond.exactly_spec (hN _ m0)
  have q8 := st_evr q1
  obtain ⟨hv, hra⟩ := st_ra (G := G) (k := 2) (n := (chars tx).length) (f := iv (chars tx)) (Nat.lt_of_lt_of_le ha.2 (by decide)) (hN _ m2) (hN _ m3) (fun j hj => va_eqt (hN _ (m4 j hj)))
  have hco := va_eqt (hN _ m1)
  refine ⟨q8, vk_R.of (hts _ (st_ref _ hq)) q8, ha.1, ha.2, ?_⟩
  cases q1.symm.trans q8
  generalize st_ev args (gB G) (.string own kk) = a at *
  generalize st_ev args (gB G) (.field (.string own kk) "java/lang/String" "value" "[B") = b at *
  have hKn : u_Kn (gB G) RJ0 TJ0 4 ((gD G).1 0) ((gD G).2 0) := hK.1 0 _ rfl
  have hc0 : (gD G).1 0 = c := Option.some.inj (hKn.2.1.symm.trans q2)
  have hsz : ∀ kB : Class, (gB G).vm.classes[(gD G).1 0]? = some kB → kB.kind = .ordinary → cell.slots.size = kB.instanceTypes.size := fun kB h1 h2 => by
    rw [hc0] at h1
    cases q4.symm.trans h1
    exact q7 h2
  obtain ⟨h, hh⟩ := st_slot hts inJ0 (k := 2) (by decide) hKn hsz
  obtain ⟨z, hz⟩ := st_slot hts inJ0 (k := 3) (by decide) hKn hsz
  obtain ⟨cf, kf, fi, fd, e1, e2⟩ := hKn.1 0 (by decide)
  obtain ⟨cf1, kf1, fi1, fd1, f1, f2⟩ := hKn.1 1 (by decide)
  obtain ⟨-, cl0, w1, w2, w3, -, w5⟩ := Term.field_spec (owner := "java/lang/String") (name := "value") (desc := "[B") e1 q8 hv
  obtain ⟨-, cl1, x1, x2, x3, -, x5⟩ := Term.field_spec (owner := "java/lang/String") (name := "coder") (desc := "B") f1 q8 hco
  cases q3.symm.trans w1
  cases q3.symm.trans x1
  refine ⟨b, h, z, ⟨_, cell, rfl, q3, ?_, w2, w3, fun k hk => ?_⟩, hra⟩
  · rw [q6]; exact hc0.symm
  · match k, hk with
    | 0, _ => rw [← e2] ; exact w5
    | 1, _ => rw [← f2] ; exact x5
    | 2, _ => exact hh
    | 3, _ => exact hz
    | k + 4, hk => exact absurd hk (by show ¬ k + 4 < 4; omega)
theorem st_old (hts : ∀ w ∈ lw_tbl, w.before args (gB G) = true) (hN : ∀ w ∈ st_F, w.before args (gB G) = true) (hK : va_K (gD G) vwCl (tyL (gT G)) (gB G)) {mi : Nat} (hmi : va_Mi "[Ljava/lang/Object;" mi (gB G)) (hA : gA G = st_A args (gB G) mi) : OLD G := by
  obtain ⟨a1, a2, a3, a4, a5, a6, a7, a8, a9, a10⟩ := st_ar
  obtain ⟨o1, o2, o3, o4, o5⟩ := st_ot
  have gS : ∀ i : Nat, i < 56 → gA G i = st_ev args (gB G) (st_tm i) := fun i hi => by rw [hA]; exact st_A0 (by omega)
  have e1 : gA G 1001 = st_ev args (gB G) st_DE := by rw [hA]; rfl
  have e2 : gA G 1002 = st_ev args (gB G) st_DT := by rw [hA]; rfl
  have e3 : gA G 1003 = st_ev args (gB G) st_DO := by rw [hA]; rfl
  have e4 : gA G 1004 = st_ev args (gB G) st_VS := by rw [hA]; rfl
  have e5 : gA G 1005 = st_ev args (gB G) st_SM := by rw [hA]; rfl
  have e6 : gA G 1006 = st_ev args (gB G) st_FO := by rw [hA]; rfl
  have e7 : gA G 1007 = st_fo args (gB G) := by rw [hA]; rfl
  have eM : gA G 1200 = mi := by rw [hA]; rfl
  have eV : ∀ i : Nat, i < 11 → gA G (1100 + i) = st_ev args (gB G) (st_V i) := fun i hi => by
    rw [hA]; unfold st_A; rw [if_neg (by omega), if_neg (by omega)]; unfold st_tm; rw [if_neg (by omega), if_neg (by omega), show 1100 + i - 1100 = i by omega]
  have hV : ∀ i : Nat, i < 11 → (st_V i).eval args (gB G) none [] (gB G) = some (.ref (gA G (1100 + i))) := fun i hi => by
    obtain ⟨a, c, cell, kA, q1, -⟩ := Cond.exactly_spec (hN _ (st_v i hi).1)
    rw [eV i hi]; exact st_evr q1
  obtain ⟨h1, r1⟩ := st_ra (G := G) (k := 5) (n := 0) (f := fun _ => .null) (by decide) (hN _ a1) (hN _ a2) (fun j hj => absurd hj (Nat.not_lt_zero j))
  obtain ⟨h2, r2⟩ := st_ra (G := G) (k := 2) (n := 100) (f := iv digT) (by decide) (hN _ a3) (hN _ a4) (fun j hj => va_eqt (hN _ (st_dT j hj)))
  obtain ⟨h3, r3⟩ := st_ra (G := G) (k := 2) (n := 100) (f := iv digO) (by decide) (hN _ a5) (hN _ a6) (fun j hj => va_eqt (hN _ (st_dO j hj)))
  obtain ⟨h4, r4⟩ := st_ra (G := G) (k := 6) (n := 11) (f := fun j => .ref (gA G (1100 + j))) (by decide) (hN _ a7) (hN _ a8) (fun j hj => va_eqv (hN _ (st_v j hj).2.2.2.1) (hV j hj))
  obtain ⟨h5, r5⟩ := st_ra (G := G) (k := 0) (n := 11) (f := fun j => .int (nI (j + 1))) (by decide) (hN _ a9) (hN _ a10) (fun j hj => va_eqt (hN _ (st_v j hj).2.2.2.2))
  refine ⟨fun i q hq => ?_, fun i q hq => ?_, by rw [e1]; exact r1, by rw [e2]; exact r2, by rw [e3]; exact r3, by rw [e4]; exact r4, by rw [e5]; exact r5, fun i hi => ?_, by rw [eM]; exact hmi⟩
  · have hi : i < 56 := (List.getElem?_eq_some_iff.mp hq).1
    obtain ⟨-, y1, y2⟩ := st_str hts hN hK hi
    have hg : strT.getD i ("", 0, "") = q := by rw [List.getD_eq_getElem?_getD, hq]; rfl
    rw [hg] at y1 y2
    rw [gS i hi]
    exact ⟨y1, y2⟩
  · have hl := st_ly q (List.mem_of_getElem? hq)
    match i, hq with
    | 0, hq => cases hq; exact va_Zof (hts _ hl.1) (hts _ hl.2) (va_eqi (hN _ o1)) st_gF
    | 1, hq => cases hq; exact va_Zof (hts _ hl.1) (hts _ hl.2) (by rw [show stV G 1 = .ref (gA G 1001) from rfl, e1]; exact h1) st_gF
    | 2, hq => cases hq; exact va_Zof (hts _ hl.1) (hts _ hl.2) (by rw [show stV G 2 = .ref (gA G 1002) from rfl, e2]; exact h2) st_gF
    | 3, hq => cases hq; exact va_Zof (hts _ hl.1) (hts _ hl.2) (by rw [show stV G 3 = .ref (gA G 1003) from rfl, e3]; exact h3) st_gF
    | 4, hq => cases hq; exact va_Zof (hts _ hl.1) (hts _ hl.2) (by rw [show stV G 4 = .ref (gA G 1004) from rfl, e4]; exact h4) st_gF
    | 5, hq => cases hq; exact va_Zof (hts _ hl.1) (hts _ hl.2) (by rw [show stV G 5 = .ref (gA G 1005) from rfl, e5]; exact h5) st_gF
    | 6, hq =>
      cases hq
      refine va_Zof (hts _ hl.1) (hts _ hl.2) ?_ st_gF
      show st_FO.eval args (gB G) none [] (gB G) = some (v6 G)
      unfold v6
      rw [e7, e6]
      cases hv : st_FO.eval args (gB G) none [] (gB G) with
      | none =>
        have h := hN _ o2
        simp [Cond.before, Cond.holds, Cond.value, hv] at h
      | some w =>
        have h := hN _ o2
        simp only [Cond.before, Cond.holds, Cond.value, hv] at h
        cases w with
        | null => rw [if_pos (by unfold st_fo; rw [hv])]
        | ref t => rw [if_neg (by unfold st_fo; rw [hv]; exact Nat.one_ne_zero), show st_ev args (gB G) st_FO = t from by unfold st_ev; rw [hv]]
        | _ => simp at h
    | i + 7, hq => simp [stT] at hq
  · obtain ⟨v1, v2, v3, -, -⟩ := st_v i hi
    have ht := hV i hi
    refine ⟨va_Oof (hN _ v1) ht st_gF, vk_OFof ht (va_eqt (hN _ v2)) st_gF, vk_OFof ht ?_ st_gF⟩
    obtain ⟨s1, -, -⟩ := st_str hts hN hK (i := 45 + i) (by omega)
    rw [gS (45 + i) (by omega)]
    have htm : st_tm (45 + i) = .string (strT.getD (45 + i) ("", 0, "")).1 (strT.getD (45 + i) ("", 0, "")).2.1 := by unfold st_tm; rw [if_pos (by omega)]
    exact va_eqv (hN _ v3) (by rw [← htm]; exact s1)
theorem st_ok (hl : (gL G).stackTraces = false) (hts : ∀ w ∈ lw_tbl, w.before args (gB G) = true) (hN : ∀ w ∈ st_F, w.before args (gB G) = true) (hK : va_K (gD G) vwCl (tyL (gT G)) (gB G)) {mi : Nat} (hmi : va_Mi "[Ljava/lang/Object;" mi (gB G)) (hA : gA G = st_A args (gB G) mi) : OK G := by
  obtain ⟨o1, o2, o3, o4, o5⟩ := st_ot
  obtain ⟨l1, l2, l3⟩ := st_lt
  exact ⟨hl, hK, vx_Zqof (hts _ l1) (hts _ l3) (hN _ o4) st_gF, vx_Zqof (hts _ l2) (hts _ l3) (hN _ o5) st_gF, st_old hts hN hK hmi hA, fun q hq => va_Nc.of (hN _ (st_nc q hq)), args, hts⟩
end OLDS

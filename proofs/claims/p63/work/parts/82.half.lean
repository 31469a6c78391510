/-! the law's first registry: the states that it goes through, the answers on the way -/
def ab : List Int32 := [97, 98]
def hB (k : Nat) : StC := (List.replicate 8 0, List.replicate 64 0, [], [], nI k, 0, 99, 0)
def hPs (k : Nat) : List PrecC := (List.range k).map fun j => (ab, nI (5 * j))
def hP (k : Nat) : StC := (List.replicate 8 0, List.replicate 64 0, [], hPs k, 8, 0, 99, 0)
def hCs (k : Nat) : List CaseC := (List.range k).map fun j => (nI j, nI (j % 8), nI ((j + 1) % 8), 10, 1, 999, ab, 102, 0, 0, 0, -1, -1, 0)
def hC (k : Nat) : StC := (List.replicate 8 0, List.replicate 64 0, hCs k, hPs 20, 8, 0, 99, nI k)
def cH (p a : Int32) : CaseC := (0, 0, 1, 10, 1, 999, ab, 114, p, 9, 29, 19, -1, a)
def h42 : StC := ([8, -37, 0, 0, 0, 0, 0, 0], List.replicate 64 0, (hCs 12).set 0 (cH 95 0), hPs 20, 8, 29, 100, 12)
def h43 : StC := ([5, -40, 0, 0, 0, 0, 0, 0], List.replicate 64 0, (hCs 12).set 0 (cH 90 1), hPs 20, 8, 35, 100, 12)
def h44 : StC := ([5, -40, 0, 0, 0, 0, 0, 0], List.replicate 64 0, ((hCs 12).set 0 (cH 90 1)).eraseIdx 11, hPs 20, 8, 35, 100, 12)
/-- the state after the first t accepted changes -/
def hs (t : Nat) : StC := if t = 0 then S0 else if t ≤ 9 then hB (t - 1) else if t ≤ 29 then hP (t - 9) else if t ≤ 41 then hC (t - 29) else if t = 42 then h42 else if t = 43 then h43 else h44
/-- the states from a on, ahead of b -/
def eaD (a b : Nat) : List StC := ((List.range b).map hs).drop a
theorem eaD_s {a b : Nat} (h : a ≤ b) : eaD a (b + 1) = eaD a b ++ [hs b] := by
  unfold eaD
  rw [List.range_succ, List.map_append, List.drop_append_of_le_length (by rw [List.length_map, List.length_range]; exact h)]
  rfl
theorem eaD_len {a b : Nat} : (eaD a b).length = b - a := by
  unfold eaD
  rw [List.length_drop, List.length_map, List.length_range]
theorem pushE_h {t : Nat} : pushE (eaD (t - 8) t) (hs t) = eaD (t + 1 - 8) (t + 1) := by
  unfold pushE
  have hl : (eaD (t - 8) t).length = t - (t - 8) := eaD_len
  rw [hl]
  by_cases h : t < 8
  · rw [if_pos (show nI (t - (t - 8)) < 8 from nI_lt (b := 8) (by omega) (by decide)), show t + 1 - 8 = t - 8 by omega, eaD_s (by omega)]
  · rw [if_neg (fun z : nI (t - (t - 8)) < 8 => absurd ((nI_ltI (b := 8) (by omega) (by decide)).mp z) (by omega)), eaD_s (by omega)]
    congr 1
    rw [List.eraseIdx_zero]
    unfold eaD
    rw [List.tail_drop, show t - 8 + 1 = t + 1 - 8 by omega]
theorem ea8 {t : Nat} : (eaD (t - 8) t).length ≤ 8 := by rw [eaD_len]; omega
/-- the letters of the first script -/
def scr (k : Nat) : List Int32 := (List.range k).map fun j => nI (65 + j % 26)
theorem scr_s {k : Nat} : scr k ++ [nI (65 + k % 26)] = scr (k + 1) := by
  unfold scr
  rw [List.range_succ, List.map_append]
  rfl
theorem scr_len {k : Nat} : (scr k).length = k := by
  unfold scr
  rw [List.length_map, List.length_range]
theorem d_ch : ∀ k, k < 60 → 65 + (nI k - nI k / 26 * 26) = nI (65 + k % 26) ∧ ((nI (65 + k % 26)).toUInt32 % 65536).toInt32 = nI (65 + k % 26) ∧ isChr (nI (65 + k % 26)) = 1 := by decide +kernel
theorem d_p8 : ∀ k, k < 12 → nI k - nI k / 8 * 8 = nI (k % 8) ∧ nI k + 1 - (nI k + 1) / 8 * 8 = nI ((k + 1) % 8) := by decide +kernel
theorem d_r60 : (rCmd (scr 60) 0 []).1 = 0 ∧ (rCmd (scr 60) 0 []).2.1 = 0 := by decide +kernel
theorem d_r1 : (rCmd [100] 0 []).1 = 0 ∧ (rCmd [100] 0 []).2.1 = 1 := by decide +kernel
theorem d_ok : ∀ t, t < 45 → (hs t).2.2.1.length ≤ 12 ∧ (hs t).2.2.2.1.length ≤ 20 := by decide +kernel
def dqA {A B : Type} (a : DecidableEq A) (b : DecidableEq B) : DecidableEq (A × B) := by
  haveI := a
  haveI := b
  exact inferInstance
def dqM {A : Type} (a : DecidableEq A) : DecidableEq (List A) := by
  haveI := a
  exact inferInstance
def dqI : DecidableEq Int32 := inferInstance
def dqL : DecidableEq (List Int32) := inferInstance
def dqC : DecidableEq CaseC := dqA dqI (dqA dqI (dqA dqI (dqA dqI (dqA dqI (dqA dqI (dqA dqL (dqA dqI (dqA dqI (dqA dqI (dqA dqI (dqA dqI (dqA dqI (dqI)))))))))))))
def dqP : DecidableEq PrecC := dqA dqL dqI
def dqS : DecidableEq StC := dqA dqL (dqA dqL (dqA (dqM dqC) (dqA (dqM dqP) (dqA dqI (dqA dqI (dqA dqI dqI))))))
def eqS (a b : StC) : Bool := @decide (a = b) (dqS a b)
theorem eqS_s {a b : StC} (h : eqS a b = true) : a = b := @of_decide_eq_true _ (dqS a b) h
def eqR (a b : Int32 × StC) : Bool := decide (a.1 = b.1) && eqS a.2 b.2
theorem eqR_s {a b : Int32 × StC} (h : eqR a b = true) : a = b := by
  rw [eqR, Bool.and_eq_true] at h
  exact Prod.ext (of_decide_eq_true h.1) (eqS_s h.2)
theorem d_days : qDays 99 S0 = (nI 99, hs 1) := eqR_s (by decide +kernel)
theorem d_ent : ∀ k, k < 8 → qEnt (hs (1 + k)) = (nI k, hs (1 + k + 1)) := fun k hk => eqR_s ((show ∀ k, k < 8 → eqR (qEnt (hs (1 + k))) (nI k, hs (1 + k + 1)) = true from by decide +kernel) k hk)
theorem d_entx : flt (qEnt (hs 9)).1 = some IS := by decide +kernel
theorem d_rule : ∀ k, k < 20 → qRule (5 * nI k) ab (hs (9 + k)) = (nI k, hs (9 + k + 1)) := fun k hk => eqR_s ((show ∀ k, k < 20 → eqR (qRule (5 * nI k) ab (hs (9 + k))) (nI k, hs (9 + k + 1)) = true from by decide +kernel) k hk)
theorem d_file : ∀ k, k < 12 → qFile (nI (k % 8)) (nI ((k + 1) % 8)) 10 1 999 ab (hs (29 + k)) = (nI k, hs (29 + k + 1)) := fun k hk => eqR_s ((show ∀ k, k < 12 → eqR (qFile (nI (k % 8)) (nI ((k + 1) % 8)) 10 1 999 ab (hs (29 + k))) (nI k, hs (29 + k + 1)) = true from by decide +kernel) k hk)
theorem d_filex : flt (qFile 0 1 1 1 1 [97] (hs 41)).1 = some IS := by decide +kernel
theorem d_rulex : flt (qRule 50 [97] (hs 41)).1 = some IS := by decide +kernel
theorem d_hear : (qHear 0 (hs 41) K0).1 = nI 9 ∧ (qHear 0 (hs 41) K0).2.1 = hs 42 := ⟨by decide +kernel, eqS_s (by decide +kernel)⟩
theorem d_app : (qApp 0 (hs 42) (qHear 0 (hs 41) K0).2.2).1 = nI 9 ∧ (qApp 0 (hs 42) (qHear 0 (hs 41) K0).2.2).2.1 = hs 43 := ⟨by decide +kernel, eqS_s (by decide +kernel)⟩
theorem d_with : qWith 11 (hs 43) = (nI 10, hs 44) := eqR_s (by decide +kernel)
theorem d_f45 : (qFile 1 2 7 1 5 [98] (hs 44)).1 = nI 12 := by decide +kernel
theorem d_f8 : (qFile 0 1 1 1 1 [97] (hs 37)).1 = nI 8 := by decide +kernel
theorem d_q42 : nI (hs 42).2.2.2.1.length = 20 ∧ vDf cCo (hs 42) 0 = 29 ∧ vBal (hs 42) 0 = 8 ∧ vBal (hs 42) 1 = -37 ∧ (hs 42).2.2.2.2.2.1 = 29 := by decide +kernel
theorem d_q43 : vDf cPc (hs 43) 0 = 90 ∧ vBal (hs 43) 0 = 5 ∧ vBal (hs 43) 1 = -40 ∧ (hs 43).2.2.2.2.2.1 = 35 ∧ vCf cCl (hs 43) 11 = 10 := by decide +kernel
theorem d_qs : nI (hs 44).2.2.1.length = 11 ∧ vCf cSd (hs 41) 0 = 102 ∧ (hs 41).2.2.2.2.2.2.1 = 99 ∧ (hs 41).2.2.2.2.2.1 = 0 ∧ nI (hs 40).2.2.1.length = 11 ∧ nI (hs 37).2.2.1.length = 8 := by decide +kernel
theorem fltN {a : Int32} {v : Nat} (hv : v < 2 ^ 31) (e : a = nI v) : flt a = none := by rw [e]; exact flt_nI hv
theorem fltE {a : Int32} {v : Nat} (hv : v < 2 ^ 31) (e : a = nI v) {E : String} {P : Prop} (h : flt a = some E) : P := absurd (h.symm.trans (fltN hv e)) (fun z => nomatch z)
theorem fltX {a : Int32} {E : String} {P : Prop} (e : flt a = some E) (h : flt a = none) : P := absurd (h.symm.trans e) (fun z => nomatch z)
section HALF
variable {G : GT} {X : String → Heap → Prop} {H : Heap} {g : Nat → Nat} {o : Nat} {S sn : StC} {tk : Int32} {ea : List StC} {wd sc u : List Int32} {le lf : Int32} {K : ScC} {F : Int32 → Heap → Prop}
theorem w_Days {x : Int32} {v : Nat} {S2 : StC} (hR : RG G H g o (S, sn, tk, ea, wd, sc, u, le, lf, K)) (hok : S.2.2.1.length ≤ 12 ∧ S.2.2.2.1.length ≤ 20) (hea : ea.length ≤ 8) (hv : v < 2 ^ 31) (e : qDays x S = (nI v, S2)) (kk : ∀ (H1 : Heap) (g1 : Nat → Nat), RG G H1 g1 o (S2, sn, tk, pushE ea S, wd, sc, u, le, lf, K) → Ext G tsA H g H1 g1 → F (nI v) H1) : Call G kL_passDays 12 39 2105 [.ref o, .int x] H (qi F) X := by
  have e1 : (qDays x S).1 = nI v := congrArg Prod.fst e
  have e2 : (qDays x S).2 = S2 := congrArg Prod.snd e
  subst e2
  exact c_lDays hR hok hea (fun E hE => fltE hv e1 hE) (fun _ H1 g1 hR1 e3 => by have h := kk H1 g1 hR1 e3; rw [← e1] at h; exact h) (fun E w hE _ => fltE hv e1 hE)
theorem w_Add {v : Nat} {S2 : StC} (hR : RG G H g o (S, sn, tk, ea, wd, sc, u, le, lf, K)) (hok : S.2.2.1.length ≤ 12 ∧ S.2.2.2.1.length ≤ 20) (hea : ea.length ≤ 8) (hv : v < 2 ^ 31) (e : qEnt S = (nI v, S2)) (kk : ∀ (H1 : Heap) (g1 : Nat → Nat), RG G H1 g1 o (S2, sn, tk, pushE ea S, wd, sc, u, le, lf, K) → Ext G tsA H g H1 g1 → F (nI v) H1) : Call G kL_addButton 12 39 2105 [.ref o] H (qi F) X := by
  have e1 : (qEnt S).1 = nI v := congrArg Prod.fst e
  have e2 : (qEnt S).2 = S2 := congrArg Prod.snd e
  subst e2
  exact c_lAdd hR hok hea (fun E hE => fltE hv e1 hE) (fun _ H1 g1 hR1 e3 => by have h := kk H1 g1 hR1 e3; rw [← e1] at h; exact h) (fun E w hE _ => fltE hv e1 hE)
theorem w_AddX (hR : RG G H g o (S, sn, tk, ea, wd, sc, u, le, lf, K)) (hok : S.2.2.1.length ≤ 12 ∧ S.2.2.2.1.length ≤ 20) (hea : ea.length ≤ 8) (e : flt (qEnt S).1 = some IS) (kk : ∀ (H1 : Heap) (g1 : Nat → Nat), RG G H1 g1 o (S, sn, tk, ea, wd, sc, u, le, lf, K) → Ext G tsA H g H1 g1 → F (-1001) H1) : Call G kL_addButton 12 39 2105 [.ref o] H (qi F) X :=
  c_lAdd hR hok hea (fun E hE => Option.some.inj (hE.symm.trans e)) (fun hf => fltX e hf) (fun E w hE hm H1 g1 hR1 e3 => by obtain rfl : w = -1001 := cod hm hE e (by decide +kernel); exact kk H1 g1 hR1 e3)
theorem w_With {x : Int32} {v : Nat} {S2 : StC} (hR : RG G H g o (S, sn, tk, ea, wd, sc, u, le, lf, K)) (hok : S.2.2.1.length ≤ 12 ∧ S.2.2.2.1.length ≤ 20) (hea : ea.length ≤ 8) (hv : v < 2 ^ 31) (e : qWith x S = (nI v, S2)) (kk : ∀ (H1 : Heap) (g1 : Nat → Nat), RG G H1 g1 o (S2, sn, tk, pushE ea S, wd, sc, u, le, lf, K) → Ext G tsA H g H1 g1 → F (nI v) H1) : Call G kL_withdraw 12 39 2105 [.ref o, .int x] H (qi F) X := by
  have e1 : (qWith x S).1 = nI v := congrArg Prod.fst e
  have e2 : (qWith x S).2 = S2 := congrArg Prod.snd e
  subst e2
  exact c_lWith hR hok hea (fun E hE => fltE hv e1 hE) (fun _ H1 g1 hR1 e3 => by have h := kk H1 g1 hR1 e3; rw [← e1] at h; exact h) (fun E w hE _ => fltE hv e1 hE)
theorem w_Hear {x : Int32} {v : Nat} {S2 : StC} (hR : RG G H g o (S, sn, tk, ea, wd, sc, u, le, lf, K)) (hok : S.2.2.1.length ≤ 12 ∧ S.2.2.2.1.length ≤ 20) (hea : ea.length ≤ 8) (hv : v < 2 ^ 31) (e : (qHear x S K).1 = nI v ∧ (qHear x S K).2.1 = S2) (kk : ∀ (H1 : Heap) (g1 : Nat → Nat), RG G H1 g1 o (S2, sn, tk, pushE ea S, wd, sc, u, le, lf, (qHear x S K).2.2) → Ext G tsA H g H1 g1 → F (nI v) H1) : Call G kL_hear 12 42 2182 [.ref o, .int x] H (qi F) X := by
  obtain ⟨e1, e2⟩ := e
  subst e2
  exact c_lHear hR hok hea (fun E hE => fltE hv e1 hE) (fun _ H1 g1 hR1 e3 => by have h := kk H1 g1 hR1 e3; rw [← e1] at h; exact h) (fun E w hE _ => fltE hv e1 hE)
theorem w_App {x : Int32} {v : Nat} {S2 : StC} (hR : RG G H g o (S, sn, tk, ea, wd, sc, u, le, lf, K)) (hok : S.2.2.1.length ≤ 12 ∧ S.2.2.2.1.length ≤ 20) (hea : ea.length ≤ 8) (hv : v < 2 ^ 31) (e : (qApp x S K).1 = nI v ∧ (qApp x S K).2.1 = S2) (kk : ∀ (H1 : Heap) (g1 : Nat → Nat), RG G H1 g1 o (S2, sn, tk, pushE ea S, wd, sc, u, le, lf, (qApp x S K).2.2) → Ext G tsA H g H1 g1 → F (nI v) H1) : Call G kL_appeal 12 41 2121 [.ref o, .int x] H (qi F) X := by
  obtain ⟨e1, e2⟩ := e
  subst e2
  exact c_lApp hR hok hea (fun E hE => fltE hv e1 hE) (fun _ H1 g1 hR1 e3 => by have h := kk H1 g1 hR1 e3; rw [← e1] at h; exact h) (fun E w hE _ => fltE hv e1 hE)
theorem w_Rules {x : Int32} {w : List Int32} (hw8 : w.length ≤ 8) (hw : ∀ c ∈ w, ¬ isLet c = 0) {q v : Nat} {S2 : StC} (hq : Sz G H g q w) (hR : RG G H g o (S, sn, tk, ea, wd, sc, u, le, lf, K)) (hok : S.2.2.1.length ≤ 12 ∧ S.2.2.2.1.length ≤ 20) (hea : ea.length ≤ 8) (hv : v < 2 ^ 31) (e : qRule x w S = (nI v, S2)) (kk : ∀ (H1 : Heap) (g1 : Nat → Nat), RG G H1 g1 o (S2, sn, tk, pushE ea S, [], sc, u, le, lf, K) → Ext G tsA H g H1 g1 → F (nI v) H1) : Call G kL_rules 13 51 4602 [.ref o, .int x, .ref q] H (qi F) X := by
  have e1 : (qRule x w S).1 = nI v := congrArg Prod.fst e
  have e2 : (qRule x w S).2 = S2 := congrArg Prod.snd e
  subst e2
  exact c_rules hw8 hw hq hR hok hea (fun E hE => fltE hv e1 hE) (fun _ H1 g1 hR1 e3 => by have h := kk H1 g1 hR1 e3; rw [← e1] at h; exact h) (fun E w hE _ => fltE hv e1 hE)
theorem w_RulesX {x : Int32} {w : List Int32} (hw8 : w.length ≤ 8) (hw : ∀ c ∈ w, ¬ isLet c = 0) {q : Nat} (hq : Sz G H g q w) (hR : RG G H g o (S, sn, tk, ea, wd, sc, u, le, lf, K)) (hok : S.2.2.1.length ≤ 12 ∧ S.2.2.2.1.length ≤ 20) (hea : ea.length ≤ 8) (e : flt (qRule x w S).1 = some IS) (kk : ∀ (H1 : Heap) (g1 : Nat → Nat), RG G H1 g1 o (S, sn, tk, ea, w, sc, u, le, lf, K) → Ext G tsA H g H1 g1 → F (-1002) H1) : Call G kL_rules 13 51 4602 [.ref o, .int x, .ref q] H (qi F) X :=
  c_rules hw8 hw hq hR hok hea (fun E hE => Or.inr (Or.inl (Option.some.inj (hE.symm.trans e)))) (fun hf => fltX e hf) (fun E w hE hm H1 g1 hR1 e3 => by obtain rfl : w = -1002 := cod hm hE e (by decide +kernel); exact kk H1 g1 hR1 e3)
theorem w_Files {x1 x2 x3 x4 x5 : Int32} {w : List Int32} (hw8 : w.length ≤ 8) (hw : ∀ c ∈ w, ¬ isLet c = 0) {q v : Nat} (hq : Sz G H g q w) (hR : RG G H g o (S, sn, tk, ea, wd, sc, u, le, lf, K)) (hok : S.2.2.1.length ≤ 12 ∧ S.2.2.2.1.length ≤ 20) (hea : ea.length ≤ 8) (hv : v < 2 ^ 31) (e1 : (qFile x1 x2 x3 x4 x5 w S).1 = nI v) (kk : ∀ (H1 : Heap) (g1 : Nat → Nat), RG G H1 g1 o ((qFile x1 x2 x3 x4 x5 w S).2, sn, tk, pushE ea S, [], sc, u, le, lf, K) → Ext G tsA H g H1 g1 → F (nI v) H1) : Call G kL_files 13 51 4614 [.ref o, .int x1, .int x2, .int x3, .int x4, .int x5, .ref q] H (qi F) X :=
  c_files hw8 hw hq hR hok hea (fun E hE => fltE hv e1 hE) (fun _ H1 g1 hR1 e3 => by have h := kk H1 g1 hR1 e3; rw [← e1] at h; exact h) (fun E w hE _ => fltE hv e1 hE)
theorem w_FilesX {x1 x2 x3 x4 x5 : Int32} {w : List Int32} (hw8 : w.length ≤ 8) (hw : ∀ c ∈ w, ¬ isLet c = 0) {q : Nat} (hq : Sz G H g q w) (hR : RG G H g o (S, sn, tk, ea, wd, sc, u, le, lf, K)) (hok : S.2.2.1.length ≤ 12 ∧ S.2.2.2.1.length ≤ 20) (hea : ea.length ≤ 8) (e : flt (qFile x1 x2 x3 x4 x5 w S).1 = some IS) (kk : ∀ (H1 : Heap) (g1 : Nat → Nat), RG G H1 g1 o (S, sn, tk, ea, w, sc, u, le, lf, K) → Ext G tsA H g H1 g1 → F (-1003) H1) : Call G kL_files 13 51 4614 [.ref o, .int x1, .int x2, .int x3, .int x4, .int x5, .ref q] H (qi F) X :=
  c_files hw8 hw hq hR hok hea (fun E hE => Or.inr (Or.inr (Or.inl (Option.some.inj (hE.symm.trans e))))) (fun hf => fltX e hf) (fun E w hE hm H1 g1 hR1 e3 => by obtain rfl : w = -1003 := cod hm hE e (by decide +kernel); exact kk H1 g1 hR1 e3)
theorem w_Undo {a b : Nat} (hab : a ≤ b) (hR : RG G H g o (S, sn, tk, eaD a (b + 1), wd, sc, u, le, lf, K)) (kk : ∀ (H1 : Heap) (g1 : Nat → Nat), RG G H1 g1 o (hs b, sn, tk, eaD a b, wd, sc, u, le, lf, K) → Ext G tsA H g H1 g1 → F (nI (b - a)) H1) : Call G kL_undo 7 1 6 [.ref o] H (qi F) X := by
  rw [eaD_s hab] at hR
  refine c_lUndo hR (fun ea0 T hT H1 g1 hR1 e1 => ?_) (fun h => absurd (show (eaD a b ++ [hs b]).length = 0 from h) (by rw [List.length_append]; exact Nat.succ_ne_zero _))
  obtain ⟨h1, h2⟩ := List.append_inj' (show eaD a b ++ [hs b] = ea0 ++ [T] from hT) rfl
  have h3 : hs b = T := List.singleton_inj.mp h2
  subst h1 h3
  have h := kk H1 g1 hR1 e1
  rw [← eaD_len (a := a) (b := b)] at h
  exact h
theorem w_Undo0 (hR : RG G H g o (S, sn, tk, [], wd, sc, u, le, lf, K)) (kk : ∀ (H1 : Heap) (g1 : Nat → Nat), RG G H1 g1 o (S, sn, tk, [], wd, sc, u, le, lf, K) → Ext G tsA H g H1 g1 → F (-1001) H1) : Call G kL_undo 7 1 6 [.ref o] H (qi F) X :=
  c_lUndo hR (fun ea0 T hT => absurd (show ([] : List StC) = ea0 ++ [T] from hT) (by simp)) (fun _ H1 g1 hR1 e1 => kk H1 g1 hR1 e1)
end HALF

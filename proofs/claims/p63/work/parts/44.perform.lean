/-- the court's rows: groups, first letters, second letters, table -/
abbrev ScC : Type := List Int32 × List Int32 × List Int32 × List Int32
def Crt (G : GT) (H : Heap) (g : Nat → Nat) (co : Nat) (K : ScC) : Prop := ∃ th p p2 p3 ru qf qs qt : Nat, Rz G H g co 6 [.ref th, .ref ru] ∧ Rz G H g th 14 [.ref p, .ref p2, .ref p3] ∧ Rz G H g ru 10 [.ref qf, .ref qs, .ref qt] ∧ Ja G H g 21 p 0 8 K.1 ∧ Ja G H g 24 qf 1 8 K.2.1 ∧ Ja G H g 25 qs 1 8 K.2.2.1 ∧ Ja G H g 26 qt 0 81 K.2.2.2
theorem Crt.fr {G : GT} {H H1 : Heap} {g g1 : Nat → Nat} {ts : List Nat} {co : Nat} {K : ScC} (h : Crt G H g co K) (e : Ext G ts H g H1 g1) (ht : 0 ∉ ts ∧ 21 ∉ ts ∧ 24 ∉ ts ∧ 25 ∉ ts ∧ 26 ∉ ts) : Crt G H1 g1 co K := by
  obtain ⟨th, p, p2, p3, ru, qf, qs, qt, a1, a2, a3, a4, a5, a6, a7⟩ := h
  exact ⟨th, p, p2, p3, ru, qf, qs, qt, a1.fr e ht.1, a2.fr e ht.1, a3.fr e ht.1, a4.fr e ht.2.1, a5.fr e ht.2.2.1, a6.fr e ht.2.2.2.1, a7.fr e ht.2.2.2.2⟩
theorem Crt.o {G : GT} {H : Heap} {g : Nat → Nat} {co : Nat} {K : ScC} (h : Crt G H g co K) : ∃ fs, ro G H co 6 fs := by
  obtain ⟨th, p, p2, p3, ru, qf, qs, qt, a1, -⟩ := h
  exact ⟨_, a1.1⟩
def un8 {β : Type} (f : List Int32 → List Int32 → List CaseC → List PrecC → Int32 → Int32 → Int32 → Int32 → β) (S : StC) : β := f S.1 S.2.1 S.2.2.1 S.2.2.2.1 S.2.2.2.2.1 S.2.2.2.2.2.1 S.2.2.2.2.2.2.1 S.2.2.2.2.2.2.2
def qEnt  (S : StC) : Int32 × StC := un8 enterB S
theorem c_qEnt {G : GT} {X : String → Heap → Prop} {H : Heap} {g : Nat → Nat} {a co : Nat} {S : StC} {K : ScC} (h : MS G H g 10 a S) (hk : Crt G H g co K) {F : Int32 → Heap → Prop} (kk : ∀ (H1 : Heap) (g1 : Nat → Nat), MS G H1 g1 10 a (qEnt S).2 → Crt G H1 g1 co K → Ext G [10, 11, 12, 13, 14, 15, 16, 21, 24, 25, 26] H g H1 g1 → F (qEnt S).1 H1) : Call G kX2_enterButton 0 0 0 [.ref co, .ref a] H (qi F) X := by
  obtain ⟨bal, ten, cs, ps, n, ch, td, nx⟩ := S
  exact c_enterB h fun H1 g1 h1 e => kk H1 g1 h1 (hk.fr e (by decide)) (e.wide (by decide))
def qJoin (x : Int32) (y : Int32) (z : Int32) (S : StC) : Int32 × StC := un8 (fun bal ten cs ps n ch td nx => joinB bal ten cs ps n ch td nx x y z) S
theorem c_qJoin {G : GT} {X : String → Heap → Prop} {H : Heap} {g : Nat → Nat} {a co : Nat} {S : StC} {K : ScC} {x : Int32} {y : Int32} {z : Int32} (h : MS G H g 10 a S) (hk : Crt G H g co K) {F : Int32 → Heap → Prop} (kk : ∀ (H1 : Heap) (g1 : Nat → Nat), MS G H1 g1 10 a (qJoin x y z S).2 → Crt G H1 g1 co K → Ext G [10, 11, 12, 13, 14, 15, 16, 21, 24, 25, 26] H g H1 g1 → F (qJoin x y z S).1 H1) : Call G kX2_joinButtons 2 0 0 [.ref co, .ref a, .int x, .int y, .int z] H (qi F) X := by
  obtain ⟨bal, ten, cs, ps, n, ch, td, nx⟩ := S
  exact c_joinB h fun H1 g1 h1 e => kk H1 g1 h1 (hk.fr e (by decide)) (e.wide (by decide))
def qSep (x : Int32) (y : Int32) (S : StC) : Int32 × StC := un8 (fun bal ten cs ps n ch td nx => sepB bal ten cs ps n ch td nx x y) S
theorem c_qSep {G : GT} {X : String → Heap → Prop} {H : Heap} {g : Nat → Nat} {a co : Nat} {S : StC} {K : ScC} {x : Int32} {y : Int32} (h : MS G H g 10 a S) (hk : Crt G H g co K) {F : Int32 → Heap → Prop} (kk : ∀ (H1 : Heap) (g1 : Nat → Nat), MS G H1 g1 10 a (qSep x y S).2 → Crt G H1 g1 co K → Ext G [10, 11, 12, 13, 14, 15, 16, 21, 24, 25, 26] H g H1 g1 → F (qSep x y S).1 H1) : Call G kX2_separateButtons 2 0 0 [.ref co, .ref a, .int x, .int y] H (qi F) X := by
  obtain ⟨bal, ten, cs, ps, n, ch, td, nx⟩ := S
  exact c_sepB h fun H1 g1 h1 e => kk H1 g1 h1 (hk.fr e (by decide)) (e.wide (by decide))
def qRule (x : Int32) (mt : List Int32) (S : StC) : Int32 × StC := un8 (fun bal ten cs ps n ch td nx => entP bal ten cs ps n ch td nx x mt) S
theorem c_qRule {G : GT} {X : String → Heap → Prop} {H : Heap} {g : Nat → Nat} {a co m : Nat} {S : StC} {K : ScC} {x : Int32} {mt : List Int32} (h : MS G H g 10 a S) (hm : Sz G H g m mt) (hk : Crt G H g co K) {F : Int32 → Heap → Prop} (kk : ∀ (H1 : Heap) (g1 : Nat → Nat), MS G H1 g1 10 a (qRule x mt S).2 → Crt G H1 g1 co K → Ext G [10, 11, 12, 13, 14, 15, 16, 21, 24, 25, 26] H g H1 g1 → F (qRule x mt S).1 H1) : Call G kX2_enterPrecedent 8 2 63 [.ref co, .ref a, .int x, .ref m] H (qi F) X := by
  obtain ⟨bal, ten, cs, ps, n, ch, td, nx⟩ := S
  exact c_entP h hm fun H1 g1 h1 e => kk H1 g1 h1 (hk.fr e (by decide)) (e.wide (by decide))
def qFile (x1 : Int32) (x2 : Int32) (x3 : Int32) (x4 : Int32) (x5 : Int32) (mt : List Int32) (S : StC) : Int32 × StC := un8 (fun bal ten cs ps n ch td nx => entC bal ten cs ps n ch td nx x1 x2 x3 x4 x5 mt) S
theorem c_qFile {G : GT} {X : String → Heap → Prop} {H : Heap} {g : Nat → Nat} {a co m : Nat} {S : StC} {K : ScC} {x1 : Int32} {x2 : Int32} {x3 : Int32} {x4 : Int32} {x5 : Int32} {mt : List Int32} (h : MS G H g 10 a S) (hm : Sz G H g m mt) (hk : Crt G H g co K) {F : Int32 → Heap → Prop} (kk : ∀ (H1 : Heap) (g1 : Nat → Nat), MS G H1 g1 10 a (qFile x1 x2 x3 x4 x5 mt S).2 → Crt G H1 g1 co K → Ext G [10, 11, 12, 13, 14, 15, 16, 21, 24, 25, 26] H g H1 g1 → F (qFile x1 x2 x3 x4 x5 mt S).1 H1) : Call G kX2_enterCase 8 2 75 [.ref co, .ref a, .int x1, .int x2, .int x3, .int x4, .int x5, .ref m] H (qi F) X := by
  obtain ⟨bal, ten, cs, ps, n, ch, td, nx⟩ := S
  exact c_entC h hm fun H1 g1 h1 e => kk H1 g1 h1 (hk.fr e (by decide)) (e.wide (by decide))
def qWith (x : Int32) (S : StC) : Int32 × StC := un8 (fun bal ten cs ps n ch td nx => withC bal ten cs ps n ch td nx x) S
theorem c_qWith {G : GT} {X : String → Heap → Prop} {H : Heap} {g : Nat → Nat} {a co : Nat} {S : StC} {K : ScC} {x : Int32} (h : MS G H g 10 a S) (hk : Crt G H g co K) {F : Int32 → Heap → Prop} (kk : ∀ (H1 : Heap) (g1 : Nat → Nat), MS G H1 g1 10 a (qWith x S).2 → Crt G H1 g1 co K → Ext G [10, 11, 12, 13, 14, 15, 16, 21, 24, 25, 26] H g H1 g1 → F (qWith x S).1 H1) : Call G kX2_withdrawCase 5 0 0 [.ref co, .ref a, .int x] H (qi F) X := by
  obtain ⟨bal, ten, cs, ps, n, ch, td, nx⟩ := S
  exact c_withC h fun H1 g1 h1 e => kk H1 g1 h1 (hk.fr e (by decide)) (e.wide (by decide))
def qClose (x : Int32) (S : StC) : Int32 × StC := un8 (fun bal ten cs ps n ch td nx => closeC bal ten cs ps n ch td nx x) S
theorem c_qClose {G : GT} {X : String → Heap → Prop} {H : Heap} {g : Nat → Nat} {a co : Nat} {S : StC} {K : ScC} {x : Int32} (h : MS G H g 10 a S) (hk : Crt G H g co K) {F : Int32 → Heap → Prop} (kk : ∀ (H1 : Heap) (g1 : Nat → Nat), MS G H1 g1 10 a (qClose x S).2 → Crt G H1 g1 co K → Ext G [10, 11, 12, 13, 14, 15, 16, 21, 24, 25, 26] H g H1 g1 → F (qClose x S).1 H1) : Call G kX2_closeCase 5 0 0 [.ref co, .ref a, .int x] H (qi F) X := by
  obtain ⟨bal, ten, cs, ps, n, ch, td, nx⟩ := S
  exact c_closeC h fun H1 g1 h1 e => kk H1 g1 h1 (hk.fr e (by decide)) (e.wide (by decide))
def qGive (x : Int32) (y : Int32) (z : Int32) (S : StC) : Int32 × StC := un8 (fun bal ten cs ps n ch td nx => moveC bal ten cs ps n ch td nx x y z) S
theorem c_qGive {G : GT} {X : String → Heap → Prop} {H : Heap} {g : Nat → Nat} {a co : Nat} {S : StC} {K : ScC} {x : Int32} {y : Int32} {z : Int32} (h : MS G H g 10 a S) (hk : Crt G H g co K) {F : Int32 → Heap → Prop} (kk : ∀ (H1 : Heap) (g1 : Nat → Nat), MS G H1 g1 10 a (qGive x y z S).2 → Crt G H1 g1 co K → Ext G [10, 11, 12, 13, 14, 15, 16, 21, 24, 25, 26] H g H1 g1 → F (qGive x y z S).1 H1) : Call G kX2_moveCoins 2 0 0 [.ref co, .ref a, .int x, .int y, .int z] H (qi F) X := by
  obtain ⟨bal, ten, cs, ps, n, ch, td, nx⟩ := S
  exact c_moveC h fun H1 g1 h1 e => kk H1 g1 h1 (hk.fr e (by decide)) (e.wide (by decide))
def qDays (x : Int32) (S : StC) : Int32 × StC := un8 (fun bal ten cs ps n ch td nx => daysC bal ten cs ps n ch td nx x) S
theorem c_qDays {G : GT} {X : String → Heap → Prop} {H : Heap} {g : Nat → Nat} {a co : Nat} {S : StC} {K : ScC} {x : Int32} (h : MS G H g 10 a S) (hk : Crt G H g co K) {F : Int32 → Heap → Prop} (kk : ∀ (H1 : Heap) (g1 : Nat → Nat), MS G H1 g1 10 a (qDays x S).2 → Crt G H1 g1 co K → Ext G [10, 11, 12, 13, 14, 15, 16, 21, 24, 25, 26] H g H1 g1 → F (qDays x S).1 H1) : Call G kX2_letDaysPass 1 0 0 [.ref co, .ref a, .int x] H (qi F) X := by
  obtain ⟨bal, ten, cs, ps, n, ch, td, nx⟩ := S
  exact c_daysC h fun H1 g1 h1 e => kk H1 g1 h1 (hk.fr e (by decide)) (e.wide (by decide))
def qHear0 (x : Int32) (S : StC) (K : ScC) := un8 (fun bal ten cs ps n ch td nx => hearC x bal ten cs ps n ch td nx K.1 K.2.1 K.2.2.1 K.2.2.2) S
def qHear (x : Int32) (S : StC) (K : ScC) : Int32 × StC × ScC := ((qHear0 x S K).1, ((qHear0 x S K).2.1, (qHear0 x S K).2.2.1, (qHear0 x S K).2.2.2.1, (qHear0 x S K).2.2.2.2.1, (qHear0 x S K).2.2.2.2.2.1, (qHear0 x S K).2.2.2.2.2.2.1, (qHear0 x S K).2.2.2.2.2.2.2.1, (qHear0 x S K).2.2.2.2.2.2.2.2.1), ((qHear0 x S K).2.2.2.2.2.2.2.2.2.1, (qHear0 x S K).2.2.2.2.2.2.2.2.2.2.1, (qHear0 x S K).2.2.2.2.2.2.2.2.2.2.2.1, (qHear0 x S K).2.2.2.2.2.2.2.2.2.2.2.2))
theorem c_qHear {G : GT} {X : String → Heap → Prop} {H : Heap} {g : Nat → Nat} {a co : Nat} {S : StC} {K : ScC} {x : Int32} (h : MS G H g 10 a S) (hk : Crt G H g co K) {F : Int32 → Heap → Prop} (kk : ∀ (H1 : Heap) (g1 : Nat → Nat), MS G H1 g1 10 a (qHear x S K).2.1 → Crt G H1 g1 co (qHear x S K).2.2 → Ext G [10, 11, 12, 13, 14, 15, 16, 21, 24, 25, 26] H g H1 g1 → F (qHear x S K).1 H1) : Call G kX2_hearCase 9 3 77 [.ref co, .ref a, .int x] H (qi F) X := by
  obtain ⟨bal, ten, cs, ps, n, ch, td, nx⟩ := S
  obtain ⟨th, p, p2, p3, ru, qf, qs, qt, a1, a2, a3, a4, a5, a6, a7⟩ := hk
  exact c_hearC h a4 a5 a6 a7 a1 a2 a3 fun H1 g1 h1 b4 b5 b6 b7 e => kk H1 g1 h1 ⟨th, p, p2, p3, ru, qf, qs, qt, a1.fr e (by decide), a2.fr e (by decide), a3.fr e (by decide), b4, b5, b6, b7⟩ e
def qApp0 (x : Int32) (S : StC) (K : ScC) := un8 (fun bal ten cs ps n ch td nx => appC x bal ten cs ps n ch td nx K.1 K.2.1 K.2.2.1 K.2.2.2) S
def qApp (x : Int32) (S : StC) (K : ScC) : Int32 × StC × ScC := ((qApp0 x S K).1, ((qApp0 x S K).2.1, (qApp0 x S K).2.2.1, (qApp0 x S K).2.2.2.1, (qApp0 x S K).2.2.2.2.1, (qApp0 x S K).2.2.2.2.2.1, (qApp0 x S K).2.2.2.2.2.2.1, (qApp0 x S K).2.2.2.2.2.2.2.1, (qApp0 x S K).2.2.2.2.2.2.2.2.1), ((qApp0 x S K).2.2.2.2.2.2.2.2.2.1, (qApp0 x S K).2.2.2.2.2.2.2.2.2.2.1, (qApp0 x S K).2.2.2.2.2.2.2.2.2.2.2.1, (qApp0 x S K).2.2.2.2.2.2.2.2.2.2.2.2))
theorem c_qApp {G : GT} {X : String → Heap → Prop} {H : Heap} {g : Nat → Nat} {a co : Nat} {S : StC} {K : ScC} {x : Int32} (h : MS G H g 10 a S) (hk : Crt G H g co K) {F : Int32 → Heap → Prop} (kk : ∀ (H1 : Heap) (g1 : Nat → Nat), MS G H1 g1 10 a (qApp x S K).2.1 → Crt G H1 g1 co (qApp x S K).2.2 → Ext G [10, 11, 12, 13, 14, 15, 16, 21, 24, 25, 26] H g H1 g1 → F (qApp x S K).1 H1) : Call G kX2_appealCase 8 2 16 [.ref co, .ref a, .int x] H (qi F) X := by
  obtain ⟨bal, ten, cs, ps, n, ch, td, nx⟩ := S
  obtain ⟨th, p, p2, p3, ru, qf, qs, qt, a1, a2, a3, a4, a5, a6, a7⟩ := hk
  exact c_appC h a4 a5 a6 a7 a1 a2 a3 fun H1 g1 h1 b4 b5 b6 b7 e => kk H1 g1 h1 ⟨th, p, p2, p3, ru, qf, qs, qt, a1.fr e (by decide), a2.fr e (by decide), a3.fr e (by decide), b4, b5, b6, b7⟩ e
theorem ow_same : Cond.sameMethod "ButtonRegistry$Verb" "java/lang/Enum" "ordinal" "()I" ∈ Tb := inTb (tb_6 (List.mem_of_getElem? (i := 112) (by decide +kernel))) (by decide +kernel)
theorem ow_sel : Cond.selects "ButtonRegistry$Verb" yVo yJx29ce0_ordinal_8abf5 ∈ Tb := inTb (tb_6 (List.mem_of_getElem? (i := 114) (by decide +kernel))) (by decide +kernel)
theorem ow_in : Cond.instanceMethod yJx29ce0_ordinal_8abf5 ∈ Tb := inTb (tb_6 (List.mem_of_getElem? (i := 115) (by decide +kernel))) (by decide +kernel)
theorem ow_fl : Cond.fieldLink "java/lang/Enum" 7 "java/lang/Enum" "ordinal" "I" ∈ Tb := inTb (tb_8 (List.mem_of_getElem? (i := 231) (by decide +kernel))) (by decide +kernel)
set_option maxRecDepth 20000 in
theorem ow_code : Cond.code yJx29ce0_ordinal_8abf5 cJx29ce0_ordinal_8abf5 1 (some .int) ∈ Tb := inTb (tb_6 (List.mem_of_getElem? (i := 116) rfl)) (by decide +kernel)
theorem fkN_X2_59 : Cond.fieldLinkNest "ButtonRegistry$Court" 59 "ButtonRegistry$Order" "matter" "Ljava/lang/String;" "ButtonRegistry" ∈ Tc := inTc (tb_6 (List.mem_of_getElem? (i := 29) (by decide +kernel))) (by decide +kernel)
def FLN (own : String) (idx ci k : Nat) : Prop := ∃ (q : vw_C) (host : String), vwCl[ci]? = some q ∧ k < q.2.2 ∧ Cond.fieldLinkNest own idx (q.2.1 k).1 (q.2.1 k).2.1 (q.2.1 k).2.2.1 host ∈ Tc ∧ (∀ w ∈ u_ws q.1 q.2.1 q.2.2, w ∈ Tb)
theorem V_getfN {G : GT} {K : MT} {d c s : Nat} {Q : Option Value → Heap → Prop} {X : String → Heap → Prop} {H : Heap} {L : List (Option Value)} {rest : List Value} {pc idx ci k : Nat} {a : Nat} {fs : List Value} {v : Value} (hd : decode K.2.1 pc = .ok (.getfield idx, 3)) (hf : FLN K.1.cls idx ci k) (h : ro G H a ci fs) (hv : fs[k]? = some v) (kk : V G K d c s Q X (pc + 3) L (v :: rest) H) : V G K d c s Q X pc L (.ref a :: rest) H := by
  intro p e R st m args below meth co ls locs ce sl hC hl hS hc hs
  obtain ⟨q, host, h1, h2, h3, h4⟩ := hf
  obtain ⟨r, cell, r1, r2, r3, r4, r5, r6⟩ := h
  cases h1.symm.trans r1
  obtain ⟨hSl, hfc, kC, hkC, hkind⟩ := hC.k.1 ci _ h1
  obtain ⟨cf, kf, fi, f, hi, hsl⟩ := hSl k h2
  refine va_Wgetf hC.1 hC.2.1 hC.own (hC.tc _ h3) hi (u_facts hfc hkC (u_lays hC.w h4 h2) hi).1 r2 r4 (v := v) ?_ rfl rfl hd (kk p e R st m args below meth co ls locs ce sl hC hl hS hc hs)
  rw [hsl, r6 k h2]
  simp [vp_V, hv]
theorem fln_X2_59 : FLN "ButtonRegistry$Court" 59 8 3 := ⟨_, "ButtonRegistry", rfl, by decide, fkN_X2_59, uw_8⟩
theorem V_swm {G : GT} {K : MT} {d c s : Nat} {Q : Option Value → Heap → Prop} {X : String → Heap → Prop} {H : Heap} {L : List (Option Value)} {rest : List Value} {pc : Nat} (k : ra G H (gA G 1005) 0 11 (fun j => .int (nI (j + 1))) → V G K d c s Q X pc L rest H) : V G K d c s Q X pc L rest H :=
  V_old fun hO hS => k (hO.2.2.2.2.1.2.2.2.2.2.2.1.old hS)
/-- a command done -/
def perfC (o : OrdC) (S : StC) (K : ScC) : Int32 × StC × ScC := match o.1 with
  | 0 => ((qEnt S).1, (qEnt S).2, K)
  | 1 => ((qJoin (ordN o 0) (ordN o 1) (ordN o 2) S).1, (qJoin (ordN o 0) (ordN o 1) (ordN o 2) S).2, K)
  | 2 => ((qSep (ordN o 0) (ordN o 1) S).1, (qSep (ordN o 0) (ordN o 1) S).2, K)
  | 3 => ((qFile (ordN o 0) (ordN o 1) (ordN o 2) (ordN o 3) (ordN o 4) o.2.2.2 S).1, (qFile (ordN o 0) (ordN o 1) (ordN o 2) (ordN o 3) (ordN o 4) o.2.2.2 S).2, K)
  | 4 => ((qRule (ordN o 0) o.2.2.2 S).1, (qRule (ordN o 0) o.2.2.2 S).2, K)
  | 5 => qHear (ordN o 0) S K
  | 6 => qApp (ordN o 0) S K
  | 7 => ((qWith (ordN o 0) S).1, (qWith (ordN o 0) S).2, K)
  | 8 => ((qClose (ordN o 0) S).1, (qClose (ordN o 0) S).2, K)
  | 9 => ((qGive (ordN o 0) (ordN o 1) (ordN o 2) S).1, (qGive (ordN o 0) (ordN o 1) (ordN o 2) S).2, K)
  | _ => ((qDays (ordN o 0) S).1, (qDays (ordN o 0) S).2, K)
set_option maxHeartbeats 1000000 in
set_option maxRecDepth 100000 in
theorem c_perf {G : GT} {X : String → Heap → Prop} {H : Heap} {g : Nat → Nat} {a co od : Nat} {S : StC} {K : ScC} {o : OrdC} (h : MS G H g 10 a S) (hk : Crt G H g co K) (hod : isOrd G H g od o) {F : Int32 → Heap → Prop} (kk : ∀ (H1 : Heap) (g1 : Nat → Nat), MS G H1 g1 10 a (perfC o S K).2.1 → Crt G H1 g1 co (perfC o S K).2.2 → Ext G [10, 11, 12, 13, 14, 15, 16, 21, 24, 25, 26] H g H1 g1 → F (perfC o S K).1 H1) : Call G kX2_perform 10 3 77 [.ref co, .ref a, .ref od] H (qi F) X := by
  obtain ⟨vi, nmx, cx, mx⟩ := o
  have ho := hod
  obtain ⟨nu, mo, hof, ⟨hnu, hnt⟩, hn5, hmo, hvi⟩ := hod
  obtain ⟨fco, hco⟩ := hk.o
  refine startL (L0 := [some (.ref co), some (.ref a), some (.ref od), none, none, none]) rfl rfl pl_X2_perform (Nat.le_of_ble_eq_true rfl) ?_
  refine V_aload_2 dX2_perform_0 ?_
  refine V_iconst (v := 0) dX2_perform_1 rfl ?_
  refine V_call_i (runV1 dX2_perform_2 ce_X4_number rfl ml_X2_25 im_X4_number se_X4_number hof.1 ⟨_, rfl, rfl⟩ (Nat.le_of_ble_eq_true rfl)) (by omega) (by omega) (by omega) (c_ordN ho ?_)
  refine V_istore_3 dX2_perform_5 rfl ?_
  refine V_aload_2 dX2_perform_6 ?_
  refine V_iconst (v := 1) dX2_perform_7 rfl ?_
  refine V_call_i (runV1 dX2_perform_8 ce_X4_number rfl ml_X2_25 im_X4_number se_X4_number hof.1 ⟨_, rfl, rfl⟩ (Nat.le_of_ble_eq_true rfl)) (by omega) (by omega) (by omega) (c_ordN ho ?_)
  refine V_istore_4 dX2_perform_11 rfl ?_
  refine V_aload_2 dX2_perform_13 ?_
  refine V_iconst (v := 2) dX2_perform_14 rfl ?_
  refine V_call_i (runV1 dX2_perform_15 ce_X4_number rfl ml_X2_25 im_X4_number se_X4_number hof.1 ⟨_, rfl, rfl⟩ (Nat.le_of_ble_eq_true rfl)) (by omega) (by omega) (by omega) (c_ordN ho ?_)
  refine V_istore_5 dX2_perform_18 rfl ?_
  refine V_gets (i := 5) (v := .ref (gA G 1005)) dX2_perform_20 rfl fs_X2_31 rfl ?_
  refine V_aload_2 dX2_perform_23 ?_
  refine V_getf dX2_perform_24 fl_X2_37 hof.1 rfl ?_
  refine V_ord hvi dX2_perform_27 ml_X2_41 ow_same ow_sel ow_in ow_code ow_fl (by omega) (Nat.le_of_ble_eq_true rfl) ?_
  refine V_swm fun hsw => ?_
  refine V_iald (v := .int (nI (vi + 1))) dX2_perform_30 hsw (vp_in_nI hvi (by decide)) (by rw [nI_clamp (by omega)]) ?_
  clear hsw
  have hcs : vi = 0 ∨ vi = 1 ∨ vi = 2 ∨ vi = 3 ∨ vi = 4 ∨ vi = 5 ∨ vi = 6 ∨ vi = 7 ∨ vi = 8 ∨ vi = 9 ∨ vi = 10 := by omega
  rcases hcs with rfl | rfl | rfl | rfl | rfl | rfl | rfl | rfl | rfl | rfl | rfl
  · refine V_tabI (off := 57) (tgt := 88) dX2_perform_31 (by decide) (by decide) rfl (by decide) ?_
    refine V_aload_0 dX2_perform_88 ?_
    refine V_aload_1 dX2_perform_89 ?_
    refine V_call_i (runV1 dX2_perform_90 ce_X2_enterButton rfl ml_X2_47 im_X2_enterButton se_X2_enterButton hco ⟨_, rfl, rfl⟩ (Nat.le_of_ble_eq_true rfl)) (by omega) (by omega) (by omega) (c_qEnt h hk fun H1 g1 h1 k1 e1 => ?_)
    exact V_reti dX2_perform_93 rfl rfl (kk H1 g1 h1 k1 e1)
  · refine V_tabI (off := 63) (tgt := 94) dX2_perform_31 (by decide) (by decide) rfl (by decide) ?_
    refine V_aload_0 dX2_perform_94 ?_
    refine V_aload_1 dX2_perform_95 ?_
    refine V_iload_3 dX2_perform_96 ?_
    refine V_iload_4 dX2_perform_97 ?_
    refine V_iload_5 dX2_perform_99 ?_
    refine V_call_i (runV4 dX2_perform_101 ce_X2_joinButtons rfl ml_X2_51 im_X2_joinButtons se_X2_joinButtons hco ⟨_, rfl, rfl⟩ (Nat.le_of_ble_eq_true rfl)) (by omega) (by omega) (by omega) (c_qJoin h hk fun H1 g1 h1 k1 e1 => ?_)
    exact V_reti dX2_perform_104 rfl rfl (kk H1 g1 h1 k1 e1)
  · refine V_tabI (off := 74) (tgt := 105) dX2_perform_31 (by decide) (by decide) rfl (by decide) ?_
    refine V_aload_0 dX2_perform_105 ?_
    refine V_aload_1 dX2_perform_106 ?_
    refine V_iload_3 dX2_perform_107 ?_
    refine V_iload_4 dX2_perform_108 ?_
    refine V_call_i (runV3 dX2_perform_110 ce_X2_separateButtons rfl ml_X2_55 im_X2_separateButtons se_X2_separateButtons hco ⟨_, rfl, rfl⟩ (Nat.le_of_ble_eq_true rfl)) (by omega) (by omega) (by omega) (c_qSep h hk fun H1 g1 h1 k1 e1 => ?_)
    exact V_reti dX2_perform_113 rfl rfl (kk H1 g1 h1 k1 e1)
  · refine V_tabI (off := 83) (tgt := 114) dX2_perform_31 (by decide) (by decide) rfl (by decide) ?_
    refine V_aload_0 dX2_perform_114 ?_
    refine V_aload_1 dX2_perform_115 ?_
    refine V_iload_3 dX2_perform_116 ?_
    refine V_iload_4 dX2_perform_117 ?_
    refine V_iload_5 dX2_perform_119 ?_
    refine V_aload_2 dX2_perform_121 ?_
    refine V_iconst (v := 3) dX2_perform_122 rfl ?_
    refine V_call_i (runV1 dX2_perform_123 ce_X4_number rfl ml_X2_25 im_X4_number se_X4_number hof.1 ⟨_, rfl, rfl⟩ (Nat.le_of_ble_eq_true rfl)) (by omega) (by omega) (by omega) (c_ordN ho ?_)
    refine V_aload_2 dX2_perform_126 ?_
    refine V_iconst (v := 4) dX2_perform_127 rfl ?_
    refine V_call_i (runV1 dX2_perform_128 ce_X4_number rfl ml_X2_25 im_X4_number se_X4_number hof.1 ⟨_, rfl, rfl⟩ (Nat.le_of_ble_eq_true rfl)) (by omega) (by omega) (by omega) (c_ordN ho ?_)
    refine V_aload_2 dX2_perform_131 ?_
    refine V_getfN dX2_perform_132 fln_X2_59 hof.1 rfl ?_
    refine V_call_i (runV7 dX2_perform_135 ce_X2_enterCase rfl ml_X2_63 im_X2_enterCase se_X2_enterCase hco ⟨_, rfl, rfl⟩ (Nat.le_of_ble_eq_true rfl)) (by omega) (by omega) (by omega) (c_qFile h hmo hk fun H1 g1 h1 k1 e1 => ?_)
    exact V_reti dX2_perform_138 rfl rfl (kk H1 g1 h1 k1 e1)
  · refine V_tabI (off := 108) (tgt := 139) dX2_perform_31 (by decide) (by decide) rfl (by decide) ?_
    refine V_aload_0 dX2_perform_139 ?_
    refine V_aload_1 dX2_perform_140 ?_
    refine V_iload_3 dX2_perform_141 ?_
    refine V_aload_2 dX2_perform_142 ?_
    refine V_getfN dX2_perform_143 fln_X2_59 hof.1 rfl ?_
    refine V_call_i (runV3 dX2_perform_146 ce_X2_enterPrecedent rfl ml_X2_67 im_X2_enterPrecedent se_X2_enterPrecedent hco ⟨_, rfl, rfl⟩ (Nat.le_of_ble_eq_true rfl)) (by omega) (by omega) (by omega) (c_qRule h hmo hk fun H1 g1 h1 k1 e1 => ?_)
    exact V_reti dX2_perform_149 rfl rfl (kk H1 g1 h1 k1 e1)
  · refine V_tabI (off := 119) (tgt := 150) dX2_perform_31 (by decide) (by decide) rfl (by decide) ?_
    refine V_aload_0 dX2_perform_150 ?_
    refine V_aload_1 dX2_perform_151 ?_
    refine V_iload_3 dX2_perform_152 ?_
    refine V_call_i (runV2 dX2_perform_153 ce_X2_hearCase rfl ml_X2_71 im_X2_hearCase se_X2_hearCase hco ⟨_, rfl, rfl⟩ (Nat.le_of_ble_eq_true rfl)) (by omega) (by omega) (by omega) (c_qHear h hk fun H1 g1 h1 k1 e1 => ?_)
    exact V_reti dX2_perform_156 rfl rfl (kk H1 g1 h1 k1 e1)
  · refine V_tabI (off := 126) (tgt := 157) dX2_perform_31 (by decide) (by decide) rfl (by decide) ?_
    refine V_aload_0 dX2_perform_157 ?_
    refine V_aload_1 dX2_perform_158 ?_
    refine V_iload_3 dX2_perform_159 ?_
    refine V_call_i (runV2 dX2_perform_160 ce_X2_appealCase rfl ml_X2_75 im_X2_appealCase se_X2_appealCase hco ⟨_, rfl, rfl⟩ (Nat.le_of_ble_eq_true rfl)) (by omega) (by omega) (by omega) (c_qApp h hk fun H1 g1 h1 k1 e1 => ?_)
    exact V_reti dX2_perform_163 rfl rfl (kk H1 g1 h1 k1 e1)
  · refine V_tabI (off := 133) (tgt := 164) dX2_perform_31 (by decide) (by decide) rfl (by decide) ?_
    refine V_aload_0 dX2_perform_164 ?_
    refine V_aload_1 dX2_perform_165 ?_
    refine V_iload_3 dX2_perform_166 ?_
    refine V_call_i (runV2 dX2_perform_167 ce_X2_withdrawCase rfl ml_X2_78 im_X2_withdrawCase se_X2_withdrawCase hco ⟨_, rfl, rfl⟩ (Nat.le_of_ble_eq_true rfl)) (by omega) (by omega) (by omega) (c_qWith h hk fun H1 g1 h1 k1 e1 => ?_)
    exact V_reti dX2_perform_170 rfl rfl (kk H1 g1 h1 k1 e1)
  · refine V_tabI (off := 140) (tgt := 171) dX2_perform_31 (by decide) (by decide) rfl (by decide) ?_
    refine V_aload_0 dX2_perform_171 ?_
    refine V_aload_1 dX2_perform_172 ?_
    refine V_iload_3 dX2_perform_173 ?_
    refine V_call_i (runV2 dX2_perform_174 ce_X2_closeCase rfl ml_X2_81 im_X2_closeCase se_X2_closeCase hco ⟨_, rfl, rfl⟩ (Nat.le_of_ble_eq_true rfl)) (by omega) (by omega) (by omega) (c_qClose h hk fun H1 g1 h1 k1 e1 => ?_)
    exact V_reti dX2_perform_177 rfl rfl (kk H1 g1 h1 k1 e1)
  · refine V_tabI (off := 147) (tgt := 178) dX2_perform_31 (by decide) (by decide) rfl (by decide) ?_
    refine V_aload_0 dX2_perform_178 ?_
    refine V_aload_1 dX2_perform_179 ?_
    refine V_iload_3 dX2_perform_180 ?_
    refine V_iload_4 dX2_perform_181 ?_
    refine V_iload_5 dX2_perform_183 ?_
    refine V_call_i (runV4 dX2_perform_185 ce_X2_moveCoins rfl ml_X2_84 im_X2_moveCoins se_X2_moveCoins hco ⟨_, rfl, rfl⟩ (Nat.le_of_ble_eq_true rfl)) (by omega) (by omega) (by omega) (c_qGive h hk fun H1 g1 h1 k1 e1 => ?_)
    exact V_reti dX2_perform_188 rfl rfl (kk H1 g1 h1 k1 e1)
  · refine V_tabI (off := 158) (tgt := 189) dX2_perform_31 (by decide) (by decide) rfl (by decide) ?_
    refine V_aload_0 dX2_perform_189 ?_
    refine V_aload_1 dX2_perform_190 ?_
    refine V_iload_3 dX2_perform_191 ?_
    refine V_call_i (runV2 dX2_perform_192 ce_X2_letDaysPass rfl ml_X2_87 im_X2_letDaysPass se_X2_letDaysPass hco ⟨_, rfl, rfl⟩ (Nat.le_of_ble_eq_true rfl)) (by omega) (by omega) (by omega) (c_qDays h hk fun H1 g1 h1 k1 e1 => ?_)
    exact V_reti dX2_perform_195 rfl rfl (kk H1 g1 h1 k1 e1)

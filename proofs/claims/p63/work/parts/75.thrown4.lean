theorem V_lcmp {G : GT} {K : MT} {d c s : Nat} {Q : Option Value → Heap → Prop} {X : String → Heap → Prop} {H : Heap} {L : List (Option Value)} {rest : List Value} {pc : Nat} {x y : Int64} {v : Int32} (hd : decode K.2.1 pc = .ok (.lcmp, 1)) (hv : lg_cmp x y = v) (k : V G K d c s Q X (pc + 1) L (.int v :: rest) H) : V G K d c s Q X pc L (.long y :: .long x :: rest) H := by
  subst hv
  exact fun p e R st m args below meth co ls locs ce sl hC hl hS hc hs => W.lcmp hC.1 hC.2.1 hd (k p e R st m args below meth co ls locs ce sl hC hl hS hc hs)
theorem lcmp_eq {x : Int64} : lg_cmp x x = 0 := by simp [lg_cmp]
theorem perL_ok {os : List OrdC} {f i : Nat} {S : StC} {K : ScC} {r : Int32 × StC × ScC} (e : perfC (os.getD i (0, [], 0, [])) S K = r) (h : ¬ r.1 < 0) : perL os (f + 1) i S K = perL os f (i + 1) r.2.1 r.2.2 := by
  subst e
  rw [perL, if_neg h]
theorem perL_bad {os : List OrdC} {f i : Nat} {S : StC} {K : ScC} {r : Int32 × StC × ScC} (e : perfC (os.getD i (0, [], 0, [])) S K = r) (h : r.1 < 0) : (perL os (f + 1) i S K).1 = some i := by
  subst e
  rw [perL, if_pos h]
def wQ : List Int32 := chars "q"
def wH : List Int32 := chars "wait 1;hear 99"
def wC : List Int32 := chars "cut 9-9"
set_option maxRecDepth 100000 in
theorem wQ_r : (rScr wQ 0 []).1 = 0 ∧ (rScr wQ 0 []).2.1 = 0 := by decide +kernel
set_option maxRecDepth 100000 in
theorem wH_r : (rScr wH 0 []).1 = 1 ∧ (rScr wH 0 []).2.2 = [(10, [1, 0, 0, 0, 0], 1, []), (5, [99, 0, 0, 0, 0], 1, [])] := by decide +kernel
set_option maxRecDepth 100000 in
theorem wC_r : (rScr wC 0 []).1 = 1 ∧ (rScr wC 0 []).2.2 = [(2, [9, 9, 0, 0, 0], 2, [])] := by decide +kernel
theorem fl_neg {a : Int32} {E : String} (h : flt a = some E) : a < 0 := flt_neg h
theorem wH_p {k : Nat} {S : StC} {K : ScC} (hI : INV k S) (hk : k ≤ 90) : (perL (rScr wH 0 []).2.2 (rScr wH 0 []).2.2.length 0 S K).1 = some 1 := by
  rw [wH_r.2]
  have h1 : ¬ (qDays 1 S).1 < 0 := by
    obtain ⟨t, t1, t2⟩ := hI.2.2.2.2.2.2.1
    have e : (qDays 1 S).1 = S.2.2.2.2.2.2.1 + 1 := by
      show (daysC _ _ _ _ _ _ _ _ 1).1 = _
      rw [daysC, if_neg (by decide)]
    rw [e, t2, nI_s]; exact nI_pos (by omega)
  have h3 : posOf (qDays 1 S).2.2.2.1 99 < 0 := by
    have e : (qDays 1 S).2.2.2.1 = S.2.2.1 := by
      show (daysC _ _ _ _ _ _ _ _ 1).2.2.2.1 = _
      rw [daysC, if_neg (by decide)]
    rw [e]; exact no99 hI (by omega)
  have h2 : (qHear 99 (qDays 1 S).2 K).1 < 0 := fl_neg (xHear1 (S := (qDays 1 S).2) (K := K) h3)
  show (perL [(10, [1, 0, 0, 0, 0], 1, []), (5, [99, 0, 0, 0, 0], 1, [])] (1 + 1) 0 S K).1 = some 1
  rw [perL_ok (r := ((qDays 1 S).1, (qDays 1 S).2, K)) rfl h1]
  exact perL_bad (f := 0) (r := qHear 99 (qDays 1 S).2 K) rfl h2
theorem wC_p {k : Nat} {S : StC} {K : ScC} (hI : INV k S) : (perL (rScr wC 0 []).2.2 (rScr wC 0 []).2.2.length 0 S K).1 = some 0 := by
  rw [wC_r.2]
  obtain ⟨m, hm, hn⟩ := hI.1
  have hb : hasB S.2.2.2.2.1 9 = false := by
    rw [hn]
    exact decide_eq_false (p := ¬ (9 : Int32) < 0 ∧ ¬ nI m ≤ 9) (fun z => z.2 (show nI m ≤ nI 9 from (nI_le_iff (by omega) (by omega)).mpr (by omega)))
  have h2 : (qSep 9 9 S).1 < 0 := fl_neg (xSep1 (S := S) (x := 9) (y := 9) hb)
  show (perL [(2, [9, 9, 0, 0, 0], 2, [])] (0 + 1) 0 S K).1 = some 0
  exact perL_bad (f := 0) (r := ((qSep 9 9 S).1, (qSep 9 9 S).2, K)) rfl h2
set_option maxHeartbeats 4000000 in
set_option maxRecDepth 100000 in
theorem c_thD {G : GT} {X : String → Heap → Prop} {H : Heap} {g : Nat → Nat} {o m : Nat} {S sn : StC} {tk : Int32} {ea : List StC} {u : List Int32} {le lf : Int32} {K : ScC} (hI : INV 28 S) (hea : ea.length ≤ 8) (hR : RG G H g o (S, sn, tk, ea, [], [], u, le, lf, K)) {F : Int32 → Heap → Prop} {d5 k7 : Int32} (kk : ∀ (u2 : List Int32) (K2 : ScC) (le2 lf2 : Int32) (H1 : Heap) (g1 : Nat → Nat), RG G H1 g1 o (S, sn, tk, ea, [], [], u2, le2, lf2, K2) → Ext G tsA H g H1 g1 → F 1 H1) : V G kL_thrown 15 33541 404200 (qi F) X 1258 [some (.ref o), some (.long (asksV S)), none, some (.int (nI m)), some (.int (nI S.2.2.2.1.length)), some (.int d5), some (.int 1), some (.int k7), none, none] [] H := by
  have E : Ext G tsA H g H g := Ext.rf
  refine V_iload_6 dL_thrown_1258 ?_
  refine V_if_eq (tgt := 1344) dL_thrown_1260 (by decide) (fun c => absurd c (by decide)) (fun _ => ?_)
  refine V_aload_0 dL_thrown_1263 ?_
  refine V_txt (g := g) 39 rfl (l := wQ) rfl fun hS => ?_
  refine V_ldcsw (i := 39) dL_thrown_1264 rfl ?_
  refine V_call_i (runS2 dL_thrown_1267 ce_L_runs rfl ml_L_330 st_L_runs (Nat.le_of_ble_eq_true rfl)) (by omega) (by omega) (by omega) (c_runs (R := (S, sn, tk, ea, [], [], u, le, lf, K)) rfl (w := wQ) (by decide +kernel) (by decide +kernel) (by decide +kernel) hI.okS hea (fun _ => by decide +kernel) hS hR (fun h0 H1 g1 hR e1 => ?_) (fun h0 => absurd wQ_r.1 h0) (fun h0 => absurd wQ_r.1 h0))
  replace E := E.trans e1
  replace hR : RG G H1 g1 o (S, sn, tk, ea, [], [], u, 0, lf, K) := by rw [show (0 : Int32) = (rScr wQ 0 []).2.1 from wQ_r.2.symm]; exact hR
  refine V_sipush (v := (-1001)) dL_thrown_1270 (by decide) ?_
  refine V_icmp_ne (tgt := 1344) dL_thrown_1273 (by decide) (fun c => absurd rfl c) (fun _ => ?_)
  refine V_aload_0 dL_thrown_1276 ?_
  refine V_call_i (runSX1 dL_thrown_1277 ce_L_errorPosition rfl ml_L_380 st_L_errorPosition (Nat.le_of_ble_eq_true rfl)) (by omega) (by omega) (by omega) (c_lErr (R := (S, sn, tk, ea, [], [], u, 0, lf, K)) hR fun H2 g2 hR e2 => ?_)
  replace E := E.trans e2
  refine V_int (y := 0) (rfl) ?_
  refine V_if_ne (tgt := 1344) dL_thrown_1280 (by decide) (fun c => absurd rfl c) (fun _ => ?_)
  refine V_aload_0 dL_thrown_1283 ?_
  refine V_txt (g := g2) 40 rfl (l := wH) rfl fun hS => ?_
  refine V_ldcsw (i := 40) dL_thrown_1284 rfl ?_
  refine V_call_i (runS2 dL_thrown_1287 ce_L_runs rfl ml_L_330 st_L_runs (Nat.le_of_ble_eq_true rfl)) (by omega) (by omega) (by omega) (c_runs (R := (S, sn, tk, ea, [], [], u, 0, lf, K)) rfl (w := wH) (by decide +kernel) (by decide +kernel) (by decide +kernel) hI.okS hea (fun _ => by decide +kernel) hS hR (fun h0 => absurd (wH_r.1.symm.trans h0) (by decide)) (fun _ hn => absurd ((wH_p hI (by omega)).symm.trans hn) (fun z => nomatch z)) (fun _ j hj H3 g3 hR e3 => ?_))
  replace E := E.trans e3
  obtain rfl : j = 1 := Option.some.inj (hj.symm.trans (wH_p hI (by omega)))
  obtain ⟨K3, hR⟩ : ∃ K2 : ScC, RG G H3 g3 o (S, sn, tk, ea, [], [], u, 0, (nI 1), K2) := ⟨_, hR⟩
  refine V_sipush (v := (-1002)) dL_thrown_1290 (by decide) ?_
  refine V_icmp_ne (tgt := 1344) dL_thrown_1293 (by decide) (fun c => absurd rfl c) (fun _ => ?_)
  refine V_aload_0 dL_thrown_1296 ?_
  refine V_call_i (runSX1 dL_thrown_1297 ce_L_failedCommand rfl ml_L_384 st_L_failedCommand (Nat.le_of_ble_eq_true rfl)) (by omega) (by omega) (by omega) (c_lFai (R := (S, sn, tk, ea, [], [], u, 0, (nI 1), K3)) hR fun H4 g4 hR e4 => ?_)
  replace E := E.trans e4
  refine V_int (y := 1) (rfl) ?_
  refine V_iconst (v := 1) dL_thrown_1300 rfl ?_
  refine V_icmp_ne (tgt := 1344) dL_thrown_1301 (by decide) (fun c => absurd rfl c) (fun _ => ?_)
  refine V_aload_0 dL_thrown_1304 ?_
  refine V_txt (g := g4) 42 rfl (l := wC) rfl fun hS => ?_
  refine V_ldcsw (i := 42) dL_thrown_1305 rfl ?_
  refine V_call_i (runS2 dL_thrown_1308 ce_L_runs rfl ml_L_330 st_L_runs (Nat.le_of_ble_eq_true rfl)) (by omega) (by omega) (by omega) (c_runs (R := (S, sn, tk, ea, [], [], u, 0, (nI 1), K3)) rfl (w := wC) (by decide +kernel) (by decide +kernel) (by decide +kernel) hI.okS hea (fun _ => by decide +kernel) hS hR (fun h0 => absurd (wC_r.1.symm.trans h0) (by decide)) (fun _ hn => absurd ((wC_p hI).symm.trans hn) (fun z => nomatch z)) (fun _ j hj H5 g5 hR e5 => ?_))
  replace E := E.trans e5
  obtain rfl : j = 0 := Option.some.inj (hj.symm.trans (wC_p hI))
  obtain ⟨K5, hR⟩ : ∃ K2 : ScC, RG G H5 g5 o (S, sn, tk, ea, [], [], u, 0, (nI 0), K2) := ⟨_, hR⟩
  refine V_sipush (v := (-1002)) dL_thrown_1311 (by decide) ?_
  refine V_icmp_ne (tgt := 1344) dL_thrown_1314 (by decide) (fun c => absurd rfl c) (fun _ => ?_)
  refine V_aload_0 dL_thrown_1317 ?_
  refine V_call_i (runSX1 dL_thrown_1318 ce_L_failedCommand rfl ml_L_384 st_L_failedCommand (Nat.le_of_ble_eq_true rfl)) (by omega) (by omega) (by omega) (c_lFai (R := (S, sn, tk, ea, [], [], u, 0, (nI 0), K5)) hR fun H6 g6 hR e6 => ?_)
  replace E := E.trans e6
  refine V_int (y := 0) (rfl) ?_
  refine V_if_ne (tgt := 1344) dL_thrown_1321 (by decide) (fun c => absurd rfl c) (fun _ => ?_)
  refine V_aload_0 dL_thrown_1324 ?_
  refine V_call_i (runSX1 dL_thrown_1325 ce_L_errorPosition rfl ml_L_380 st_L_errorPosition (Nat.le_of_ble_eq_true rfl)) (by omega) (by omega) (by omega) (c_lErr (R := (S, sn, tk, ea, [], [], u, 0, (nI 0), K5)) hR fun H7 g7 hR e7 => ?_)
  replace E := E.trans e7
  refine V_int (y := 0) (rfl) ?_
  refine V_if_ne (tgt := 1344) dL_thrown_1328 (by decide) (fun c => absurd rfl c) (fun _ => ?_)
  refine V_aload_0 dL_thrown_1331 ?_
  refine V_call_l (runS1 dL_thrown_1332 ce_L_asks rfl ml_L_338 st_L_asks (Nat.le_of_ble_eq_true rfl)) (by omega) (by omega) (by omega) (c_asks hI hR fun u9 K9 H8 g8 hR e8 => ?_)
  replace E := E.trans e8
  refine V_lload_1 dL_thrown_1335 ?_
  refine V_lcmp dL_thrown_1336 lcmp_eq ?_
  refine V_if_ne (tgt := 1344) dL_thrown_1337 (by decide) (fun c => absurd rfl c) (fun _ => ?_)
  refine V_iconst (v := 1) dL_thrown_1340 rfl ?_
  refine V_goto (tgt := 1345) dL_thrown_1341 (by decide) ?_
  exact V_retb true dL_thrown_1345 rfl rfl (kk _ _ _ _ _ _ hR E)

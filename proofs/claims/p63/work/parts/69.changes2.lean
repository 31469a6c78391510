theorem neg_of {l : List (String × Int32)} {E : String} {v : Int32} (h : (E, v) ∈ l) (hl : ∀ q ∈ l, q.2 < 0) : v < 0 := hl (E, v) h
theorem flt_neg {a : Int32} {E : String} (h : flt a = some E) : a < 0 := by
  unfold flt at h
  by_cases h1 : a = -1
  · rw [h1]; decide
  · by_cases h2 : a = -2
    · rw [h2]; decide
    · by_cases h3 : a = -3
      · rw [h3]; decide
      · by_cases h4 : a = -4
        · rw [h4]; decide
        · by_cases h5 : a = -5
          · rw [h5]; decide
          · rw [if_neg h1, if_neg h2, if_neg h3, if_neg h4, if_neg h5] at h; cases h
theorem good.st {Es : List String} {k : Nat} {r : Int32 × StC} (h : good Es k r) (hn : ¬ r.1 < 0) : INV (k + 1) r.2 := by
  rcases h with h | ⟨E, -, h⟩
  · exact h.2
  · exact absurd (flt_neg h) hn
theorem perfC_st {k : Nat} {S : StC} (h : INV k S) (hk : k < 2 ^ 20) {o : OrdC} {K : ScC} (ho : o.2.2.2.length ≤ 8) (hn : ¬ (perfC o S K).1 < 0) : INV (k + 1) (perfC o S K).2.1 := by
  unfold perfC at hn ⊢
  split at hn
  · exact (qEnt_g h).st hn
  · exact (qJoin_g h).st hn
  · exact (qSep_g h).st hn
  · exact (qFile_g h hk ho).st hn
  · exact (qRule_g h ho).st hn
  · exact (qHear_g h).st hn
  · exact (qApp_g h).st hn
  · exact (qWith_g h).st hn
  · exact (qClose_g h).st hn
  · exact (qGive_g h).st hn
  · exact (qDays_g h hk).st hn
theorem perL_st {os : List OrdC} (hm : ∀ i : Nat, (os.getD i (0, [], 0, [])).2.2.2.length ≤ 8) : ∀ (f i k : Nat) (S : StC) (K : ScC), INV k S → k + f < 2 ^ 20 → (perL os f i S K).1 = none → INV (k + f) (perL os f i S K).2.1 := by
  intro f
  induction f with
  | zero => intro i k S K h hk _; rw [perL]; exact h
  | succ f ih =>
    intro i k S K h hk hn
    rw [perL] at hn ⊢
    by_cases hc : (perfC (os.getD i (0, [], 0, [])) S K).1 < 0
    · rw [if_pos hc] at hn; cases hn
    · rw [if_neg hc] at hn ⊢
      have := ih (i + 1) (k + 1) _ _ (perfC_st h (by omega) (hm i) hc) (by omega) hn
      exact this.mono (by omega)
def scWait : List Int32 := chars "wait 1;hear "
def scRule : List Int32 := chars "rule 50:ab;bond 0-1 "
def scOK (w : List Int32) : Bool := decide (w.length ≤ 22) && decide (w.length ≠ 16) && w.all (fun c => decide (isChr c = 1)) && decide ((rScr w 0 []).2.2.length ≤ 3) && (rScr w 0 []).2.2.all (fun o => decide (o.2.2.2.length ≤ 8))
set_option maxRecDepth 100000 in
theorem scWait_ok : ∀ i < 9, scOK (scWait ++ itoa (nI i)) = true := by decide +kernel
set_option maxRecDepth 100000 in
theorem scRule_ok : ∀ i < 22, scOK (scRule ++ itoa (nI i)) = true := by decide +kernel
theorem scOK_1 {w : List Int32} (h : scOK w = true) : w.length ≤ 22 ∧ w.length ≠ 16 ∧ (∀ c ∈ w, isChr c = 1) ∧ (rScr w 0 []).2.2.length ≤ 3 ∧ ∀ i : Nat, ((rScr w 0 []).2.2.getD i (0, [], 0, [])).2.2.2.length ≤ 8 := by
  unfold scOK at h
  rw [Bool.and_eq_true, Bool.and_eq_true, Bool.and_eq_true, Bool.and_eq_true] at h
  obtain ⟨⟨⟨⟨h1, h2⟩, h3⟩, h4⟩, h5⟩ := h
  refine ⟨of_decide_eq_true h1, of_decide_eq_true h2, fun c hc => of_decide_eq_true (List.all_eq_true.mp h3 c hc), of_decide_eq_true h4, fun i => ?_⟩
  rw [List.getD_eq_getElem?_getD]
  cases hc : (rScr w 0 []).2.2[i]? with
  | none => exact Nat.zero_le _
  | some o => exact of_decide_eq_true (List.all_eq_true.mp h5 o (List.mem_of_getElem? hc))
set_option maxHeartbeats 1000000 in
set_option maxRecDepth 100000 in
theorem c_ch140 {G : GT} {X : String → Heap → Prop} {H : Heap} {g : Nat → Nat} {o : Nat} {S sn : StC} {tk : Int32} {ea : List StC} {wd u : List Int32} {le lf : Int32} {K : ScC} (hR : RG G H g o (S, sn, tk, ea, wd, [], u, le, lf, K)) (hea : ea.length ≤ 8) {k : Nat} (hI : INV k S) (hk : k < 2 ^ 19) {x a b id : Int32} {F : Int32 → Heap → Prop} (kk1 : ∀ (S2 : StC) (wd : List Int32) (K : ScC) (le lf : Int32) (H1 : Heap) (g1 : Nat → Nat), INV (k + 3) S2 → RG G H1 g1 o (S2, sn, tk, (pushE ea S), wd, [], u, le, lf, K) → Ext G tsA H g H1 g1 → F 1 H1) (kk0 : ∀ (wd : List Int32) (K : ScC) (le lf : Int32) (H1 : Heap) (g1 : Nat → Nat), RG G H1 g1 o (S, sn, tk, ea, wd, [], u, le, lf, K) → Ext G tsA H g H1 g1 → F 0 H1) : V G kL_changes 14 10963 87970 (qi F) X 140 [some (.ref o), some (.int x), some (.int a), some (.int b), some (.int id)] [] H := by
  refine V_aload_0 dL_changes_140 ?_
  have hg := qEnt_g hI
  refine V_call_i (runSX1 dL_changes_141 ce_L_addButton rfl ml_L_227 st_L_addButton (Nat.le_of_ble_eq_true rfl)) (by omega) (by omega) (by omega) (c_lAdd (R := (S, sn, tk, ea, wd, [], u, le, lf, K)) hR hI.okS hea (fun E hE => mem1 (hg.fa E hE)) (fun hf H8 g8 hR8 e8 => ?_) (fun eE v2 hE hv2 H8 g8 hR8 e8 => ?_))
  · skip
    obtain ⟨⟨v, hv, ev⟩, hI2⟩ := hg.ok hf
    refine V_int (y := nI v) ev ?_
    refine V_if_lt (tgt := 151) dL_changes_144 (by decide) (fun c_144 => ?_) (fun c_144 => ?_)
    · exact absurd c_144 (nI_pos hv)
    · refine V_iconst (v := 1) dL_changes_147 rfl ?_
      refine V_goto (tgt := 152) dL_changes_148 (by decide) ?_
      exact V_retb true dL_changes_152 rfl rfl (kk1 _ _ _ _ _ H8 g8 (hI2.mono (by omega)) hR8 (e8))
  · skip
    refine V_if_lt (tgt := 151) dL_changes_144 (by decide) (fun c_144 => ?_) (fun c_144 => ?_)
    · refine V_iconst (v := 0) dL_changes_151 rfl ?_
      exact V_retb false dL_changes_152 rfl rfl (kk0 _ _ _ _ H8 g8 hR8 (e8))
    · exact absurd (neg_of hv2 (by decide +kernel)) c_144
set_option maxHeartbeats 1000000 in
set_option maxRecDepth 100000 in
theorem c_ch153 {G : GT} {X : String → Heap → Prop} {H : Heap} {g : Nat → Nat} {o : Nat} {S sn : StC} {tk : Int32} {ea : List StC} {wd u : List Int32} {le lf : Int32} {K : ScC} (hR : RG G H g o (S, sn, tk, ea, wd, [], u, le, lf, K)) (hea : ea.length ≤ 8) {k : Nat} (hI : INV k S) (hk : k < 2 ^ 19) {x a b id : Int32} {F : Int32 → Heap → Prop} (kk1 : ∀ (S2 : StC) (wd : List Int32) (K : ScC) (le lf : Int32) (H1 : Heap) (g1 : Nat → Nat), INV (k + 3) S2 → RG G H1 g1 o (S2, sn, tk, (pushE ea S), wd, [], u, le, lf, K) → Ext G tsA H g H1 g1 → F 1 H1) (kk0 : ∀ (wd : List Int32) (K : ScC) (le lf : Int32) (H1 : Heap) (g1 : Nat → Nat), RG G H1 g1 o (S, sn, tk, ea, wd, [], u, le, lf, K) → Ext G tsA H g H1 g1 → F 0 H1) : V G kL_changes 14 10963 87970 (qi F) X 153 [some (.ref o), some (.int x), some (.int a), some (.int b), some (.int id)] [] H := by
  refine V_aload_0 dL_changes_153 ?_
  refine V_iload_2 dL_changes_154 ?_
  refine V_iload_3 dL_changes_155 ?_
  refine V_iload_1 dL_changes_156 ?_
  refine V_bipush (v := 10) dL_changes_157 (by decide) ?_
  refine V_ishr dL_changes_159 ?_
  refine V_bipush (v := 22) dL_changes_160 (by decide) ?_
  refine V_call_i (runS2 dL_changes_162 ce_L_some rfl ml_L_206 st_L_some (Nat.le_of_ble_eq_true rfl)) (by omega) (by omega) (by omega) (c_some (by decide) ?_)
  have hg := qJoin_g hI (x := a) (y := b) (z := someV (x >>> ((10 : Int32) &&& 31)) 22)
  refine V_call_i (runSX4 dL_changes_165 ce_L_setBond rfl ml_L_229 st_L_setBond (Nat.le_of_ble_eq_true rfl)) (by omega) (by omega) (by omega) (c_lBond (R := (S, sn, tk, ea, wd, [], u, le, lf, K)) hR hI.okS hea (fun E hE => mem2 (hg.fa E hE)) (fun hf H8 g8 hR8 e8 => ?_) (fun eE v2 hE hv2 H8 g8 hR8 e8 => ?_))
  · skip
    obtain ⟨⟨v, hv, ev⟩, hI2⟩ := hg.ok hf
    refine V_int (y := nI v) ev ?_
    refine V_if_lt (tgt := 175) dL_changes_168 (by decide) (fun c_168 => ?_) (fun c_168 => ?_)
    · exact absurd c_168 (nI_pos hv)
    · refine V_iconst (v := 1) dL_changes_171 rfl ?_
      refine V_goto (tgt := 176) dL_changes_172 (by decide) ?_
      exact V_retb true dL_changes_176 rfl rfl (kk1 _ _ _ _ _ H8 g8 (hI2.mono (by omega)) hR8 (e8))
  · skip
    refine V_if_lt (tgt := 175) dL_changes_168 (by decide) (fun c_168 => ?_) (fun c_168 => ?_)
    · refine V_iconst (v := 0) dL_changes_175 rfl ?_
      exact V_retb false dL_changes_176 rfl rfl (kk0 _ _ _ _ H8 g8 hR8 (e8))
    · exact absurd (neg_of hv2 (by decide +kernel)) c_168
set_option maxHeartbeats 1000000 in
set_option maxRecDepth 100000 in
theorem c_ch177 {G : GT} {X : String → Heap → Prop} {H : Heap} {g : Nat → Nat} {o : Nat} {S sn : StC} {tk : Int32} {ea : List StC} {wd u : List Int32} {le lf : Int32} {K : ScC} (hR : RG G H g o (S, sn, tk, ea, wd, [], u, le, lf, K)) (hea : ea.length ≤ 8) {k : Nat} (hI : INV k S) (hk : k < 2 ^ 19) {x a b id : Int32} {F : Int32 → Heap → Prop} (kk1 : ∀ (S2 : StC) (wd : List Int32) (K : ScC) (le lf : Int32) (H1 : Heap) (g1 : Nat → Nat), INV (k + 3) S2 → RG G H1 g1 o (S2, sn, tk, (pushE ea S), wd, [], u, le, lf, K) → Ext G tsA H g H1 g1 → F 1 H1) (kk0 : ∀ (wd : List Int32) (K : ScC) (le lf : Int32) (H1 : Heap) (g1 : Nat → Nat), RG G H1 g1 o (S, sn, tk, ea, wd, [], u, le, lf, K) → Ext G tsA H g H1 g1 → F 0 H1) : V G kL_changes 14 10963 87970 (qi F) X 177 [some (.ref o), some (.int x), some (.int a), some (.int b), some (.int id)] [] H := by
  refine V_aload_0 dL_changes_177 ?_
  refine V_iload_2 dL_changes_178 ?_
  refine V_iload_3 dL_changes_179 ?_
  have hg := qSep_g hI (x := a) (y := b)
  refine V_call_i (runSX3 dL_changes_180 ce_L_cutBond rfl ml_L_312 st_L_cutBond (Nat.le_of_ble_eq_true rfl)) (by omega) (by omega) (by omega) (c_lCut (R := (S, sn, tk, ea, wd, [], u, le, lf, K)) hR hI.okS hea (fun E hE => mem2 (hg.fa E hE)) (fun hf H8 g8 hR8 e8 => ?_) (fun eE v2 hE hv2 H8 g8 hR8 e8 => ?_))
  · skip
    obtain ⟨⟨v, hv, ev⟩, hI2⟩ := hg.ok hf
    refine V_int (y := nI v) ev ?_
    refine V_if_lt (tgt := 190) dL_changes_183 (by decide) (fun c_183 => ?_) (fun c_183 => ?_)
    · exact absurd c_183 (nI_pos hv)
    · refine V_iconst (v := 1) dL_changes_186 rfl ?_
      refine V_goto (tgt := 191) dL_changes_187 (by decide) ?_
      exact V_retb true dL_changes_191 rfl rfl (kk1 _ _ _ _ _ H8 g8 (hI2.mono (by omega)) hR8 (e8))
  · skip
    refine V_if_lt (tgt := 190) dL_changes_183 (by decide) (fun c_183 => ?_) (fun c_183 => ?_)
    · refine V_iconst (v := 0) dL_changes_190 rfl ?_
      exact V_retb false dL_changes_191 rfl rfl (kk0 _ _ _ _ H8 g8 hR8 (e8))
    · exact absurd (neg_of hv2 (by decide +kernel)) c_183
set_option maxHeartbeats 1000000 in
set_option maxRecDepth 100000 in
theorem c_ch192 {G : GT} {X : String → Heap → Prop} {H : Heap} {g : Nat → Nat} {o : Nat} {S sn : StC} {tk : Int32} {ea : List StC} {wd u : List Int32} {le lf : Int32} {K : ScC} (hR : RG G H g o (S, sn, tk, ea, wd, [], u, le, lf, K)) (hea : ea.length ≤ 8) {k : Nat} (hI : INV k S) (hk : k < 2 ^ 19) {x a b id : Int32} {F : Int32 → Heap → Prop} (kk1 : ∀ (S2 : StC) (wd : List Int32) (K : ScC) (le lf : Int32) (H1 : Heap) (g1 : Nat → Nat), INV (k + 3) S2 → RG G H1 g1 o (S2, sn, tk, (pushE ea S), wd, [], u, le, lf, K) → Ext G tsA H g H1 g1 → F 1 H1) (kk0 : ∀ (wd : List Int32) (K : ScC) (le lf : Int32) (H1 : Heap) (g1 : Nat → Nat), RG G H1 g1 o (S, sn, tk, ea, wd, [], u, le, lf, K) → Ext G tsA H g H1 g1 → F 0 H1) : V G kL_changes 14 10963 87970 (qi F) X 192 [some (.ref o), some (.int x), some (.int a), some (.int b), some (.int id)] [] H := by
  refine V_aload_0 dL_changes_192 ?_
  refine V_iload_1 dL_changes_193 ?_
  refine V_iconst (v := 4) dL_changes_194 rfl ?_
  refine V_ishr dL_changes_195 ?_
  refine V_bipush (v := 102) dL_changes_196 (by decide) ?_
  refine V_call_i (runS2 dL_changes_198 ce_L_some rfl ml_L_206 st_L_some (Nat.le_of_ble_eq_true rfl)) (by omega) (by omega) (by omega) (c_some (by decide) ?_)
  refine V_iload_1 dL_changes_201 ?_
  refine V_call_a (runS1 dL_changes_202 ce_L_word rfl ml_L_232 st_L_word (Nat.le_of_ble_eq_true rfl)) (by omega) (by omega) (by omega) (c_word (g := g) fun q H1 g1 hq e1 => ?_)
  have hR1 := hR.fr e1 (by decide)
  have hw := worV_ok x
  have hg := qRule_g hI (x := someV (x >>> ((4 : Int32) &&& 31)) 102) hw.1
  refine V_call_i (runS3 dL_changes_205 ce_L_rules rfl ml_L_236 st_L_rules (Nat.le_of_ble_eq_true rfl)) (by omega) (by omega) (by omega) (c_rules (R := (S, sn, tk, ea, wd, [], u, le, lf, K)) hw.1 hw.2 hq hR1 hI.okS hea (fun E hE => mem3 (hg.fa E hE)) (fun hf H8 g8 hR8 e8 => ?_) (fun eE v2 hE hv2 H8 g8 hR8 e8 => ?_))
  · skip
    obtain ⟨⟨v, hv, ev⟩, hI2⟩ := hg.ok hf
    refine V_int (y := nI v) ev ?_
    refine V_if_lt (tgt := 215) dL_changes_208 (by decide) (fun c_208 => ?_) (fun c_208 => ?_)
    · exact absurd c_208 (nI_pos hv)
    · refine V_iconst (v := 1) dL_changes_211 rfl ?_
      refine V_goto (tgt := 216) dL_changes_212 (by decide) ?_
      exact V_retb true dL_changes_216 rfl rfl (kk1 _ _ _ _ _ H8 g8 (hI2.mono (by omega)) hR8 ((e1.wide (by decide)).trans e8))
  · skip
    refine V_if_lt (tgt := 215) dL_changes_208 (by decide) (fun c_208 => ?_) (fun c_208 => ?_)
    · refine V_iconst (v := 0) dL_changes_215 rfl ?_
      exact V_retb false dL_changes_216 rfl rfl (kk0 _ _ _ _ H8 g8 hR8 ((e1.wide (by decide)).trans e8))
    · exact absurd (neg_of hv2 (by decide +kernel)) c_208
set_option maxHeartbeats 1000000 in
set_option maxRecDepth 100000 in
theorem c_ch217 {G : GT} {X : String → Heap → Prop} {H : Heap} {g : Nat → Nat} {o : Nat} {S sn : StC} {tk : Int32} {ea : List StC} {wd u : List Int32} {le lf : Int32} {K : ScC} (hR : RG G H g o (S, sn, tk, ea, wd, [], u, le, lf, K)) (hea : ea.length ≤ 8) {k : Nat} (hI : INV k S) (hk : k < 2 ^ 19) {x a b id : Int32} {F : Int32 → Heap → Prop} (kk1 : ∀ (S2 : StC) (wd : List Int32) (K : ScC) (le lf : Int32) (H1 : Heap) (g1 : Nat → Nat), INV (k + 3) S2 → RG G H1 g1 o (S2, sn, tk, (pushE ea S), wd, [], u, le, lf, K) → Ext G tsA H g H1 g1 → F 1 H1) (kk0 : ∀ (wd : List Int32) (K : ScC) (le lf : Int32) (H1 : Heap) (g1 : Nat → Nat), RG G H1 g1 o (S, sn, tk, ea, wd, [], u, le, lf, K) → Ext G tsA H g H1 g1 → F 0 H1) : V G kL_changes 14 10963 87970 (qi F) X 217 [some (.ref o), some (.int x), some (.int a), some (.int b), some (.int id)] [] H := by
  refine V_aload_0 dL_changes_217 ?_
  refine V_iload_2 dL_changes_218 ?_
  refine V_iload_3 dL_changes_219 ?_
  refine V_iload_1 dL_changes_220 ?_
  refine V_bipush (v := 9) dL_changes_221 (by decide) ?_
  refine V_ishr dL_changes_223 ?_
  refine V_bipush (v := 101) dL_changes_224 (by decide) ?_
  refine V_call_i (runS2 dL_changes_226 ce_L_some rfl ml_L_206 st_L_some (Nat.le_of_ble_eq_true rfl)) (by omega) (by omega) (by omega) (c_some (by decide) ?_)
  refine V_iload_1 dL_changes_229 ?_
  refine V_bipush (v := 10) dL_changes_230 (by decide) ?_
  refine V_ishr dL_changes_232 ?_
  refine V_bipush (v := 7) dL_changes_233 (by decide) ?_
  refine V_call_i (runS2 dL_changes_235 ce_L_some rfl ml_L_206 st_L_some (Nat.le_of_ble_eq_true rfl)) (by omega) (by omega) (by omega) (c_some (by decide) ?_)
  refine V_iload_1 dL_changes_238 ?_
  refine V_bipush (v := 11) dL_changes_239 (by decide) ?_
  refine V_ishr dL_changes_241 ?_
  refine V_bipush (v := 40) dL_changes_242 (by decide) ?_
  refine V_call_i (runS2 dL_changes_244 ce_L_some rfl ml_L_206 st_L_some (Nat.le_of_ble_eq_true rfl)) (by omega) (by omega) (by omega) (c_some (by decide) ?_)
  refine V_iload_1 dL_changes_247 ?_
  refine V_call_a (runS1 dL_changes_248 ce_L_word rfl ml_L_232 st_L_word (Nat.le_of_ble_eq_true rfl)) (by omega) (by omega) (by omega) (c_word (g := g) fun q H1 g1 hq e1 => ?_)
  have hR1 := hR.fr e1 (by decide)
  have hw := worV_ok x
  have hg := qFile_g hI (by omega) (x1 := a) (x2 := b) (x3 := (someV (x >>> ((9 : Int32) &&& 31)) 101)) (x4 := (someV (x >>> ((10 : Int32) &&& 31)) 7)) (x5 := (someV (x >>> ((11 : Int32) &&& 31)) 40)) hw.1
  refine V_call_i (runS7 dL_changes_251 ce_L_files rfl ml_L_240 st_L_files (Nat.le_of_ble_eq_true rfl)) (by omega) (by omega) (by omega) (c_files (R := (S, sn, tk, ea, wd, [], u, le, lf, K)) hw.1 hw.2 hq hR1 hI.okS hea (fun E hE => mem4 (hg.fa E hE)) (fun hf H8 g8 hR8 e8 => ?_) (fun eE v2 hE hv2 H8 g8 hR8 e8 => ?_))
  · skip
    obtain ⟨⟨v, hv, ev⟩, hI2⟩ := hg.ok hf
    refine V_int (y := nI v) ev ?_
    refine V_if_lt (tgt := 261) dL_changes_254 (by decide) (fun c_254 => ?_) (fun c_254 => ?_)
    · exact absurd c_254 (nI_pos hv)
    · refine V_iconst (v := 1) dL_changes_257 rfl ?_
      refine V_goto (tgt := 262) dL_changes_258 (by decide) ?_
      exact V_retb true dL_changes_262 rfl rfl (kk1 _ _ _ _ _ H8 g8 (hI2.mono (by omega)) hR8 ((e1.wide (by decide)).trans e8))
  · skip
    refine V_if_lt (tgt := 261) dL_changes_254 (by decide) (fun c_254 => ?_) (fun c_254 => ?_)
    · refine V_iconst (v := 0) dL_changes_261 rfl ?_
      exact V_retb false dL_changes_262 rfl rfl (kk0 _ _ _ _ H8 g8 hR8 ((e1.wide (by decide)).trans e8))
    · exact absurd (neg_of hv2 (by decide +kernel)) c_254
set_option maxHeartbeats 1000000 in
set_option maxRecDepth 100000 in
theorem c_ch263 {G : GT} {X : String → Heap → Prop} {H : Heap} {g : Nat → Nat} {o : Nat} {S sn : StC} {tk : Int32} {ea : List StC} {wd u : List Int32} {le lf : Int32} {K : ScC} (hR : RG G H g o (S, sn, tk, ea, wd, [], u, le, lf, K)) (hea : ea.length ≤ 8) {k : Nat} (hI : INV k S) (hk : k < 2 ^ 19) {x a b id : Int32} {F : Int32 → Heap → Prop} (kk1 : ∀ (S2 : StC) (wd : List Int32) (K : ScC) (le lf : Int32) (H1 : Heap) (g1 : Nat → Nat), INV (k + 3) S2 → RG G H1 g1 o (S2, sn, tk, (pushE ea S), wd, [], u, le, lf, K) → Ext G tsA H g H1 g1 → F 1 H1) (kk0 : ∀ (wd : List Int32) (K : ScC) (le lf : Int32) (H1 : Heap) (g1 : Nat → Nat), RG G H1 g1 o (S, sn, tk, ea, wd, [], u, le, lf, K) → Ext G tsA H g H1 g1 → F 0 H1) : V G kL_changes 14 10963 87970 (qi F) X 263 [some (.ref o), some (.int x), some (.int a), some (.int b), some (.int id)] [] H := by
  refine V_aload_0 dL_changes_263 ?_
  refine V_iload_4 dL_changes_264 ?_
  have hg := qHear_g hI (x := id) (K := K)
  refine V_call_i (runSX2 dL_changes_266 ce_L_hear rfl ml_L_244 st_L_hear (Nat.le_of_ble_eq_true rfl)) (by omega) (by omega) (by omega) (c_lHear (R := (S, sn, tk, ea, wd, [], u, le, lf, K)) hR hI.okS hea (fun E hE => mem3 (hg.fa E hE)) (fun hf H8 g8 hR8 e8 => ?_) (fun eE v2 hE hv2 H8 g8 hR8 e8 => ?_))
  · skip
    obtain ⟨⟨v, hv, ev⟩, hI2⟩ := hg.ok hf
    refine V_int (y := nI v) ev ?_
    refine V_if_lt (tgt := 276) dL_changes_269 (by decide) (fun c_269 => ?_) (fun c_269 => ?_)
    · exact absurd c_269 (nI_pos hv)
    · refine V_iconst (v := 1) dL_changes_272 rfl ?_
      refine V_goto (tgt := 277) dL_changes_273 (by decide) ?_
      exact V_retb true dL_changes_277 rfl rfl (kk1 _ _ _ _ _ H8 g8 (hI2.mono (by omega)) hR8 (e8))
  · skip
    refine V_if_lt (tgt := 276) dL_changes_269 (by decide) (fun c_269 => ?_) (fun c_269 => ?_)
    · refine V_iconst (v := 0) dL_changes_276 rfl ?_
      exact V_retb false dL_changes_277 rfl rfl (kk0 _ _ _ _ H8 g8 hR8 (e8))
    · exact absurd (neg_of hv2 (by decide +kernel)) c_269
set_option maxHeartbeats 1000000 in
set_option maxRecDepth 100000 in
theorem c_ch278 {G : GT} {X : String → Heap → Prop} {H : Heap} {g : Nat → Nat} {o : Nat} {S sn : StC} {tk : Int32} {ea : List StC} {wd u : List Int32} {le lf : Int32} {K : ScC} (hR : RG G H g o (S, sn, tk, ea, wd, [], u, le, lf, K)) (hea : ea.length ≤ 8) {k : Nat} (hI : INV k S) (hk : k < 2 ^ 19) {x a b id : Int32} {F : Int32 → Heap → Prop} (kk1 : ∀ (S2 : StC) (wd : List Int32) (K : ScC) (le lf : Int32) (H1 : Heap) (g1 : Nat → Nat), INV (k + 3) S2 → RG G H1 g1 o (S2, sn, tk, (pushE ea S), wd, [], u, le, lf, K) → Ext G tsA H g H1 g1 → F 1 H1) (kk0 : ∀ (wd : List Int32) (K : ScC) (le lf : Int32) (H1 : Heap) (g1 : Nat → Nat), RG G H1 g1 o (S, sn, tk, ea, wd, [], u, le, lf, K) → Ext G tsA H g H1 g1 → F 0 H1) : V G kL_changes 14 10963 87970 (qi F) X 278 [some (.ref o), some (.int x), some (.int a), some (.int b), some (.int id)] [] H := by
  refine V_aload_0 dL_changes_278 ?_
  refine V_iload_4 dL_changes_279 ?_
  have hg := qApp_g hI (x := id) (K := K)
  refine V_call_i (runSX2 dL_changes_281 ce_L_appeal rfl ml_L_315 st_L_appeal (Nat.le_of_ble_eq_true rfl)) (by omega) (by omega) (by omega) (c_lApp (R := (S, sn, tk, ea, wd, [], u, le, lf, K)) hR hI.okS hea (fun E hE => mem3 (hg.fa E hE)) (fun hf H8 g8 hR8 e8 => ?_) (fun eE v2 hE hv2 H8 g8 hR8 e8 => ?_))
  · skip
    obtain ⟨⟨v, hv, ev⟩, hI2⟩ := hg.ok hf
    refine V_int (y := nI v) ev ?_
    refine V_if_lt (tgt := 291) dL_changes_284 (by decide) (fun c_284 => ?_) (fun c_284 => ?_)
    · exact absurd c_284 (nI_pos hv)
    · refine V_iconst (v := 1) dL_changes_287 rfl ?_
      refine V_goto (tgt := 292) dL_changes_288 (by decide) ?_
      exact V_retb true dL_changes_292 rfl rfl (kk1 _ _ _ _ _ H8 g8 (hI2.mono (by omega)) hR8 (e8))
  · skip
    refine V_if_lt (tgt := 291) dL_changes_284 (by decide) (fun c_284 => ?_) (fun c_284 => ?_)
    · refine V_iconst (v := 0) dL_changes_291 rfl ?_
      exact V_retb false dL_changes_292 rfl rfl (kk0 _ _ _ _ H8 g8 hR8 (e8))
    · exact absurd (neg_of hv2 (by decide +kernel)) c_284
set_option maxHeartbeats 1000000 in
set_option maxRecDepth 100000 in
theorem c_ch293 {G : GT} {X : String → Heap → Prop} {H : Heap} {g : Nat → Nat} {o : Nat} {S sn : StC} {tk : Int32} {ea : List StC} {wd u : List Int32} {le lf : Int32} {K : ScC} (hR : RG G H g o (S, sn, tk, ea, wd, [], u, le, lf, K)) (hea : ea.length ≤ 8) {k : Nat} (hI : INV k S) (hk : k < 2 ^ 19) {x a b id : Int32} {F : Int32 → Heap → Prop} (kk1 : ∀ (S2 : StC) (wd : List Int32) (K : ScC) (le lf : Int32) (H1 : Heap) (g1 : Nat → Nat), INV (k + 3) S2 → RG G H1 g1 o (S2, sn, tk, (pushE ea S), wd, [], u, le, lf, K) → Ext G tsA H g H1 g1 → F 1 H1) (kk0 : ∀ (wd : List Int32) (K : ScC) (le lf : Int32) (H1 : Heap) (g1 : Nat → Nat), RG G H1 g1 o (S, sn, tk, ea, wd, [], u, le, lf, K) → Ext G tsA H g H1 g1 → F 0 H1) : V G kL_changes 14 10963 87970 (qi F) X 293 [some (.ref o), some (.int x), some (.int a), some (.int b), some (.int id)] [] H := by
  refine V_aload_0 dL_changes_293 ?_
  refine V_iload_4 dL_changes_294 ?_
  have hg := qWith_g hI (x := id)
  refine V_call_i (runSX2 dL_changes_296 ce_L_withdraw rfl ml_L_317 st_L_withdraw (Nat.le_of_ble_eq_true rfl)) (by omega) (by omega) (by omega) (c_lWith (R := (S, sn, tk, ea, wd, [], u, le, lf, K)) hR hI.okS hea (fun E hE => mem2 (hg.fa E hE)) (fun hf H8 g8 hR8 e8 => ?_) (fun eE v2 hE hv2 H8 g8 hR8 e8 => ?_))
  · skip
    obtain ⟨⟨v, hv, ev⟩, hI2⟩ := hg.ok hf
    refine V_int (y := nI v) ev ?_
    refine V_if_lt (tgt := 306) dL_changes_299 (by decide) (fun c_299 => ?_) (fun c_299 => ?_)
    · exact absurd c_299 (nI_pos hv)
    · refine V_iconst (v := 1) dL_changes_302 rfl ?_
      refine V_goto (tgt := 307) dL_changes_303 (by decide) ?_
      exact V_retb true dL_changes_307 rfl rfl (kk1 _ _ _ _ _ H8 g8 (hI2.mono (by omega)) hR8 (e8))
  · skip
    refine V_if_lt (tgt := 306) dL_changes_299 (by decide) (fun c_299 => ?_) (fun c_299 => ?_)
    · refine V_iconst (v := 0) dL_changes_306 rfl ?_
      exact V_retb false dL_changes_307 rfl rfl (kk0 _ _ _ _ H8 g8 hR8 (e8))
    · exact absurd (neg_of hv2 (by decide +kernel)) c_299
set_option maxHeartbeats 1000000 in
set_option maxRecDepth 100000 in
theorem c_ch308 {G : GT} {X : String → Heap → Prop} {H : Heap} {g : Nat → Nat} {o : Nat} {S sn : StC} {tk : Int32} {ea : List StC} {wd u : List Int32} {le lf : Int32} {K : ScC} (hR : RG G H g o (S, sn, tk, ea, wd, [], u, le, lf, K)) (hea : ea.length ≤ 8) {k : Nat} (hI : INV k S) (hk : k < 2 ^ 19) {x a b id : Int32} {F : Int32 → Heap → Prop} (kk1 : ∀ (S2 : StC) (wd : List Int32) (K : ScC) (le lf : Int32) (H1 : Heap) (g1 : Nat → Nat), INV (k + 3) S2 → RG G H1 g1 o (S2, sn, tk, (pushE ea S), wd, [], u, le, lf, K) → Ext G tsA H g H1 g1 → F 1 H1) (kk0 : ∀ (wd : List Int32) (K : ScC) (le lf : Int32) (H1 : Heap) (g1 : Nat → Nat), RG G H1 g1 o (S, sn, tk, ea, wd, [], u, le, lf, K) → Ext G tsA H g H1 g1 → F 0 H1) : V G kL_changes 14 10963 87970 (qi F) X 308 [some (.ref o), some (.int x), some (.int a), some (.int b), some (.int id)] [] H := by
  refine V_aload_0 dL_changes_308 ?_
  refine V_iload_4 dL_changes_309 ?_
  have hg := qClose_g hI (x := id)
  refine V_call_i (runSX2 dL_changes_311 ce_L_close rfl ml_L_319 st_L_close (Nat.le_of_ble_eq_true rfl)) (by omega) (by omega) (by omega) (c_lClos (R := (S, sn, tk, ea, wd, [], u, le, lf, K)) hR hI.okS hea (fun E hE => mem2 (hg.fa E hE)) (fun hf H8 g8 hR8 e8 => ?_) (fun eE v2 hE hv2 H8 g8 hR8 e8 => ?_))
  · skip
    obtain ⟨⟨v, hv, ev⟩, hI2⟩ := hg.ok hf
    refine V_int (y := nI v) ev ?_
    refine V_if_lt (tgt := 321) dL_changes_314 (by decide) (fun c_314 => ?_) (fun c_314 => ?_)
    · exact absurd c_314 (nI_pos hv)
    · refine V_iconst (v := 1) dL_changes_317 rfl ?_
      refine V_goto (tgt := 322) dL_changes_318 (by decide) ?_
      exact V_retb true dL_changes_322 rfl rfl (kk1 _ _ _ _ _ H8 g8 (hI2.mono (by omega)) hR8 (e8))
  · skip
    refine V_if_lt (tgt := 321) dL_changes_314 (by decide) (fun c_314 => ?_) (fun c_314 => ?_)
    · refine V_iconst (v := 0) dL_changes_321 rfl ?_
      exact V_retb false dL_changes_322 rfl rfl (kk0 _ _ _ _ H8 g8 hR8 (e8))
    · exact absurd (neg_of hv2 (by decide +kernel)) c_314
set_option maxHeartbeats 1000000 in
set_option maxRecDepth 100000 in
theorem c_ch323 {G : GT} {X : String → Heap → Prop} {H : Heap} {g : Nat → Nat} {o : Nat} {S sn : StC} {tk : Int32} {ea : List StC} {wd u : List Int32} {le lf : Int32} {K : ScC} (hR : RG G H g o (S, sn, tk, ea, wd, [], u, le, lf, K)) (hea : ea.length ≤ 8) {k : Nat} (hI : INV k S) (hk : k < 2 ^ 19) {x a b id : Int32} {F : Int32 → Heap → Prop} (kk1 : ∀ (S2 : StC) (wd : List Int32) (K : ScC) (le lf : Int32) (H1 : Heap) (g1 : Nat → Nat), INV (k + 3) S2 → RG G H1 g1 o (S2, sn, tk, (pushE ea S), wd, [], u, le, lf, K) → Ext G tsA H g H1 g1 → F 1 H1) (kk0 : ∀ (wd : List Int32) (K : ScC) (le lf : Int32) (H1 : Heap) (g1 : Nat → Nat), RG G H1 g1 o (S, sn, tk, ea, wd, [], u, le, lf, K) → Ext G tsA H g H1 g1 → F 0 H1) : V G kL_changes 14 10963 87970 (qi F) X 323 [some (.ref o), some (.int x), some (.int a), some (.int b), some (.int id)] [] H := by
  refine V_aload_0 dL_changes_323 ?_
  refine V_iload_2 dL_changes_324 ?_
  refine V_iload_3 dL_changes_325 ?_
  refine V_iload_1 dL_changes_326 ?_
  refine V_bipush (v := 10) dL_changes_327 (by decide) ?_
  refine V_ishr dL_changes_329 ?_
  refine V_bipush (v := 30) dL_changes_330 (by decide) ?_
  refine V_call_i (runS2 dL_changes_332 ce_L_some rfl ml_L_206 st_L_some (Nat.le_of_ble_eq_true rfl)) (by omega) (by omega) (by omega) (c_some (by decide) ?_)
  have hg := qGive_g hI (x := a) (y := b) (z := someV (x >>> ((10 : Int32) &&& 31)) 30)
  refine V_call_i (runSX4 dL_changes_335 ce_L_give rfl ml_L_321 st_L_give (Nat.le_of_ble_eq_true rfl)) (by omega) (by omega) (by omega) (c_lGive (R := (S, sn, tk, ea, wd, [], u, le, lf, K)) hR hI.okS hea (fun E hE => mem3 (hg.fa E hE)) (fun hf H8 g8 hR8 e8 => ?_) (fun eE v2 hE hv2 H8 g8 hR8 e8 => ?_))
  · skip
    obtain ⟨⟨v, hv, ev⟩, hI2⟩ := hg.ok hf
    refine V_int (y := nI v) ev ?_
    refine V_if_lt (tgt := 345) dL_changes_338 (by decide) (fun c_338 => ?_) (fun c_338 => ?_)
    · exact absurd c_338 (nI_pos hv)
    · refine V_iconst (v := 1) dL_changes_341 rfl ?_
      refine V_goto (tgt := 346) dL_changes_342 (by decide) ?_
      exact V_retb true dL_changes_346 rfl rfl (kk1 _ _ _ _ _ H8 g8 (hI2.mono (by omega)) hR8 (e8))
  · skip
    refine V_if_lt (tgt := 345) dL_changes_338 (by decide) (fun c_338 => ?_) (fun c_338 => ?_)
    · refine V_iconst (v := 0) dL_changes_345 rfl ?_
      exact V_retb false dL_changes_346 rfl rfl (kk0 _ _ _ _ H8 g8 hR8 (e8))
    · exact absurd (neg_of hv2 (by decide +kernel)) c_338
set_option maxHeartbeats 1000000 in
set_option maxRecDepth 100000 in
theorem c_ch421 {G : GT} {X : String → Heap → Prop} {H : Heap} {g : Nat → Nat} {o : Nat} {S sn : StC} {tk : Int32} {ea : List StC} {wd u : List Int32} {le lf : Int32} {K : ScC} (hR : RG G H g o (S, sn, tk, ea, wd, [], u, le, lf, K)) (hea : ea.length ≤ 8) {k : Nat} (hI : INV k S) (hk : k < 2 ^ 19) {x a b id : Int32} {F : Int32 → Heap → Prop} (kk1 : ∀ (S2 : StC) (wd : List Int32) (K : ScC) (le lf : Int32) (H1 : Heap) (g1 : Nat → Nat), INV (k + 3) S2 → RG G H1 g1 o (S2, sn, tk, (pushE ea S), wd, [], u, le, lf, K) → Ext G tsA H g H1 g1 → F 1 H1) (kk0 : ∀ (wd : List Int32) (K : ScC) (le lf : Int32) (H1 : Heap) (g1 : Nat → Nat), RG G H1 g1 o (S, sn, tk, ea, wd, [], u, le, lf, K) → Ext G tsA H g H1 g1 → F 0 H1) : V G kL_changes 14 10963 87970 (qi F) X 421 [some (.ref o), some (.int x), some (.int a), some (.int b), some (.int id)] [] H := by
  refine V_aload_0 dL_changes_421 ?_
  refine V_iload_1 dL_changes_422 ?_
  refine V_iconst (v := 4) dL_changes_423 rfl ?_
  refine V_ishr dL_changes_424 ?_
  refine V_bipush (v := 101) dL_changes_425 (by decide) ?_
  refine V_call_i (runS2 dL_changes_427 ce_L_some rfl ml_L_206 st_L_some (Nat.le_of_ble_eq_true rfl)) (by omega) (by omega) (by omega) (c_some (by decide) ?_)
  have hg := qDays_g hI (by omega) (x := someV (x >>> ((4 : Int32) &&& 31)) 101)
  refine V_call_i (runSX2 dL_changes_430 ce_L_passDays rfl ml_L_334 st_L_passDays (Nat.le_of_ble_eq_true rfl)) (by omega) (by omega) (by omega) (c_lDays (R := (S, sn, tk, ea, wd, [], u, le, lf, K)) hR hI.okS hea (fun E hE => mem1 (hg.fa E hE)) (fun hf H8 g8 hR8 e8 => ?_) (fun eE v2 hE hv2 H8 g8 hR8 e8 => ?_))
  · skip
    obtain ⟨⟨v, hv, ev⟩, hI2⟩ := hg.ok hf
    refine V_int (y := nI v) ev ?_
    refine V_if_lt (tgt := 440) dL_changes_433 (by decide) (fun c_433 => ?_) (fun c_433 => ?_)
    · exact absurd c_433 (nI_pos hv)
    · refine V_iconst (v := 1) dL_changes_436 rfl ?_
      refine V_goto (tgt := 441) dL_changes_437 (by decide) ?_
      exact V_retb true dL_changes_441 rfl rfl (kk1 _ _ _ _ _ H8 g8 (hI2.mono (by omega)) hR8 (e8))
  · skip
    refine V_if_lt (tgt := 440) dL_changes_433 (by decide) (fun c_433 => ?_) (fun c_433 => ?_)
    · refine V_iconst (v := 0) dL_changes_440 rfl ?_
      exact V_retb false dL_changes_441 rfl rfl (kk0 _ _ _ _ H8 g8 hR8 (e8))
    · exact absurd (neg_of hv2 (by decide +kernel)) c_433
theorem V_ldcsw {G : GT} {K : MT} {d c s : Nat} {Q : Option Value → Heap → Prop} {X : String → Heap → Prop} {H : Heap} {L : List (Option Value)} {rest : List Value} {pc : Nat} {i idx : Nat} {tx : String} (hd : decode K.2.1 pc = .ok (.ldc_w idx, 3)) (hi : strT[i]? = some (K.1.cls, idx, tx)) (k : V G K d c s Q X (pc + 3) L (.ref (gA G i) :: rest) H) : V G K d c s Q X pc L rest H := by
  intro p e R st m args below meth co ls locs ce sl hC hl2 hS hc hs
  have hZ := vk_R.warm hC.ku.2.1 (hC.ku.1.2.2.2.2.1.1 i _ hi).1
  intro T hT Y
  obtain ⟨t, a1, b1⟩ := k p e R st m args below meth co ls locs ce sl hC hl2 hS hc hs T hT Y
  exact ⟨t, Y.ldcStringW hC.1 hC.own (text := tx) hZ.1 hZ.2 (g := F0 m pc ls rest) rfl (by rw [hC.2.1]; exact hd) t a1, b1⟩
set_option maxHeartbeats 1000000 in
set_option maxRecDepth 100000 in
theorem c_ch347 {G : GT} {X : String → Heap → Prop} {H : Heap} {g : Nat → Nat} {o : Nat} {S sn : StC} {tk : Int32} {ea : List StC} {wd u : List Int32} {le lf : Int32} {K : ScC} (hR : RG G H g o (S, sn, tk, ea, wd, [], u, le, lf, K)) (hea : ea.length ≤ 8) {k : Nat} (hI : INV k S) (hk : k < 2 ^ 19) {x a b : Int32} {i : Nat} (hi : i < 9) {F : Int32 → Heap → Prop} (kk1 : ∀ (S2 : StC) (wd : List Int32) (K : ScC) (le lf : Int32) (H1 : Heap) (g1 : Nat → Nat), INV (k + 3) S2 → RG G H1 g1 o (S2, sn, tk, (pushE ea S), wd, [], u, le, lf, K) → Ext G tsA H g H1 g1 → F 1 H1) (kk0 : ∀ (wd : List Int32) (K : ScC) (le lf : Int32) (H1 : Heap) (g1 : Nat → Nat), RG G H1 g1 o (S, sn, tk, ea, wd, [], u, le, lf, K) → Ext G tsA H g H1 g1 → F 0 H1) : V G kL_changes 14 10963 87970 (qi F) X 347 [some (.ref o), some (.int x), some (.int a), some (.int b), some (.int (nI i))] [] H := by
  refine V_aload_0 dL_changes_347 ?_
  refine V_iload_1 dL_changes_348 ?_
  refine V_bipush (v := 6) dL_changes_349 (by decide) ?_
  refine V_ishr dL_changes_351 ?_
  refine V_iconst (v := 1) dL_changes_352 rfl ?_
  refine V_iand dL_changes_353 ?_
  refine V_if_ne (tgt := 381) dL_changes_354 (by decide) (fun c_354 => ?_) (fun c_354 => ?_)
  · refine V_txt (g := g) 35 rfl (l := scRule) rfl fun hS => ?_
    refine V_mk2 (g := g) 42 4 dL_changes_381 nw_L_209 rfl (by omega) (by omega) fun sb H1 g1 hb e1 z1 => ?_
    have hS1 := hS.fr e1 (by simp)
    have E1 : Ext G [33, 42] H g H1 g1 := e1.wide (by simp)
    refine V_dup dL_changes_384 rfl ?_
    refine V_call_v (runI0 dL_changes_385 ce_J4_init_da8c8 rfl rfl rfl ml_L_211 im_J4_init_da8c8 (Nat.le_of_ble_eq_true rfl)) (by omega) (by omega) (by omega) (c_soInit hb (by decide) fun H2 g2 hs e2 => ?_)
    have hS2 := hS1.fr e2 (by decide)
    have E2 := E1.trans (e2.wide (by decide))
    refine V_ldcsw (i := 35) dL_changes_388 rfl ?_
    obtain ⟨fb, hfb⟩ := hs.o
    refine V_call_a (runV1 dL_changes_391 ce_J4_append_15ec4 rfl ml_L_212 im_J4_append_15ec4 se_J4_append_15ec4 hfb ⟨_, rfl, rfl⟩ (Nat.le_of_ble_eq_true rfl)) (by omega) (by omega) (by omega) (c_soS hs hS2 (by decide) (Or.inr (by decide)) (by decide) fun H3 g3 hs3 e3 => ?_)
    have E3 := E2.trans (e3.wide (by decide))
    refine V_iload_1 dL_changes_394 ?_
    refine V_bipush (v := 8) dL_changes_395 (by decide) ?_
    refine V_ishr dL_changes_397 ?_
    refine V_bipush (v := 22) dL_changes_398 (by decide) ?_
    refine V_call_i (runS2 dL_changes_400 ce_L_some rfl ml_L_206 st_L_some (Nat.le_of_ble_eq_true rfl)) (by omega) (by omega) (by omega) (c_some (by decide) ?_)
    obtain ⟨t, ht, et⟩ := someV_nI (x >>> ((8 : Int32) &&& 31)) (k := 22) (by omega) (by omega)
    rw [show someV (x >>> ((8 : Int32) &&& 31)) 22 = nI t from et]
    have hok := scOK_1 (scRule_ok t ht)
    have hln : (scRule ++ itoa (nI t)).length = scRule.length + (itoa (nI t)).length := List.length_append
    have hlb : scRule.length = 20 := by decide +kernel
    have hla := hok.1
    have hlc := itoa_11 (nI t)
    obtain ⟨fb3, hfb3⟩ := hs3.o
    refine V_call_a (runV1 dL_changes_403 ce_J4_append_bf812 rfl ml_L_325 im_J4_append_bf812 se_J4_append_bf812 hfb3 ⟨_, rfl, rfl⟩ (Nat.le_of_ble_eq_true rfl)) (by omega) (by omega) (by omega) (c_soI hs3 (by rw [List.nil_append]; omega) (by decide) fun H4 g4 hs4 e4 => ?_)
    have E4 := E3.trans (e4.wide (by decide))
    rw [List.nil_append] at hs4
    obtain ⟨fb4, hfb4⟩ := hs4.o
    refine V_call_a (runV0 dL_changes_406 ce_J4_toString_0e30d rfl ml_L_219 im_J4_toString_0e30d se_J4_toString_0e30d hfb4 ⟨_, rfl, rfl⟩ (Nat.le_of_ble_eq_true rfl)) (by omega) (by omega) (by omega) (c_soToS hs4 (by decide) ⟨hok.2.1, by omega, by omega, by omega⟩ fun q2 H5 g5 hq5 e5 => ?_)
    have E5 : Ext G tsA H g H5 g5 := (E4.trans (e5.wide (by decide))).wide (by decide)
    have hR5 := hR.fr (E4.trans (e5.wide (by decide))) (by decide)
    clear hs hs3 hs4
    refine V_call_i (runS2 dL_changes_409 ce_L_runs rfl ml_L_330 st_L_runs (Nat.le_of_ble_eq_true rfl)) (by omega) (by omega) (by omega) (c_runs (R := (S, sn, tk, ea, wd, [], u, le, lf, K)) rfl hok.1 hok.2.1 hok.2.2.1 hI.okS hea (fun _ => hok.2.2.2.1) hq5 hR5 (fun h0 H8 g8 hR8 e8 => ?_) (fun h0 hn H8 g8 hR8 e8 => ?_) (fun h0 j hj H8 g8 hR8 e8 => ?_))
    · skip
      refine V_if_lt (tgt := 419) dL_changes_412 (by decide) (fun c_412 => ?_) (fun c_412 => ?_)
      · refine V_iconst (v := 0) dL_changes_419 rfl ?_
        exact V_retb false dL_changes_420 rfl rfl (kk0 _ _ _ _ H8 g8 hR8 (E5.trans e8))
      · exact absurd (by decide) c_412
    · skip
      have h3 := hok.2.2.2.1
      have hv : (rScr (scRule ++ itoa (nI t)) 0 []).2.2.length < 2 ^ 31 := by omega
      refine V_if_lt (tgt := 419) dL_changes_412 (by decide) (fun c_412 => ?_) (fun c_412 => ?_)
      · exact absurd c_412 (nI_pos hv)
      · refine V_iconst (v := 1) dL_changes_415 rfl ?_
        refine V_goto (tgt := 420) dL_changes_416 (by decide) ?_
        exact V_retb true dL_changes_420 rfl rfl (kk1 _ _ _ _ _ H8 g8 ((perL_st hok.2.2.2.2 _ 0 k S K hI (by omega) hn).mono (by omega)) hR8 (E5.trans e8))
    · skip
      refine V_if_lt (tgt := 419) dL_changes_412 (by decide) (fun c_412 => ?_) (fun c_412 => ?_)
      · refine V_iconst (v := 0) dL_changes_419 rfl ?_
        exact V_retb false dL_changes_420 rfl rfl (kk0 _ _ _ _ H8 g8 hR8 (E5.trans e8))
      · exact absurd (by decide) c_412
  · refine V_txt (g := g) 34 rfl (l := scWait) rfl fun hS => ?_
    refine V_mk2 (g := g) 42 4 dL_changes_357 nw_L_209 rfl (by omega) (by omega) fun sb H1 g1 hb e1 z1 => ?_
    have hS1 := hS.fr e1 (by simp)
    have E1 : Ext G [33, 42] H g H1 g1 := e1.wide (by simp)
    refine V_dup dL_changes_360 rfl ?_
    refine V_call_v (runI0 dL_changes_361 ce_J4_init_da8c8 rfl rfl rfl ml_L_211 im_J4_init_da8c8 (Nat.le_of_ble_eq_true rfl)) (by omega) (by omega) (by omega) (c_soInit hb (by decide) fun H2 g2 hs e2 => ?_)
    have hS2 := hS1.fr e2 (by decide)
    have E2 := E1.trans (e2.wide (by decide))
    refine V_ldcsw (i := 34) dL_changes_364 rfl ?_
    obtain ⟨fb, hfb⟩ := hs.o
    refine V_call_a (runV1 dL_changes_367 ce_J4_append_15ec4 rfl ml_L_212 im_J4_append_15ec4 se_J4_append_15ec4 hfb ⟨_, rfl, rfl⟩ (Nat.le_of_ble_eq_true rfl)) (by omega) (by omega) (by omega) (c_soS hs hS2 (by decide) (Or.inr (by decide)) (by decide) fun H3 g3 hs3 e3 => ?_)
    have E3 := E2.trans (e3.wide (by decide))
    refine V_iload_4 dL_changes_370 ?_
    have hok := scOK_1 (scWait_ok i hi)
    have hln : (scWait ++ itoa (nI i)).length = scWait.length + (itoa (nI i)).length := List.length_append
    have hlb : scWait.length = 12 := by decide +kernel
    have hla := hok.1
    have hlc := itoa_11 (nI i)
    obtain ⟨fb3, hfb3⟩ := hs3.o
    refine V_call_a (runV1 dL_changes_372 ce_J4_append_bf812 rfl ml_L_325 im_J4_append_bf812 se_J4_append_bf812 hfb3 ⟨_, rfl, rfl⟩ (Nat.le_of_ble_eq_true rfl)) (by omega) (by omega) (by omega) (c_soI hs3 (by rw [List.nil_append]; omega) (by decide) fun H4 g4 hs4 e4 => ?_)
    have E4 := E3.trans (e4.wide (by decide))
    rw [List.nil_append] at hs4
    obtain ⟨fb4, hfb4⟩ := hs4.o
    refine V_call_a (runV0 dL_changes_375 ce_J4_toString_0e30d rfl ml_L_219 im_J4_toString_0e30d se_J4_toString_0e30d hfb4 ⟨_, rfl, rfl⟩ (Nat.le_of_ble_eq_true rfl)) (by omega) (by omega) (by omega) (c_soToS hs4 (by decide) ⟨hok.2.1, by omega, by omega, by omega⟩ fun q2 H5 g5 hq5 e5 => ?_)
    have E5 : Ext G tsA H g H5 g5 := (E4.trans (e5.wide (by decide))).wide (by decide)
    have hR5 := hR.fr (E4.trans (e5.wide (by decide))) (by decide)
    clear hs hs3 hs4
    refine V_goto (tgt := 409) dL_changes_378 (by decide) ?_
    refine V_call_i (runS2 dL_changes_409 ce_L_runs rfl ml_L_330 st_L_runs (Nat.le_of_ble_eq_true rfl)) (by omega) (by omega) (by omega) (c_runs (R := (S, sn, tk, ea, wd, [], u, le, lf, K)) rfl hok.1 hok.2.1 hok.2.2.1 hI.okS hea (fun _ => hok.2.2.2.1) hq5 hR5 (fun h0 H8 g8 hR8 e8 => ?_) (fun h0 hn H8 g8 hR8 e8 => ?_) (fun h0 j hj H8 g8 hR8 e8 => ?_))
    · skip
      refine V_if_lt (tgt := 419) dL_changes_412 (by decide) (fun c_412 => ?_) (fun c_412 => ?_)
      · refine V_iconst (v := 0) dL_changes_419 rfl ?_
        exact V_retb false dL_changes_420 rfl rfl (kk0 _ _ _ _ H8 g8 hR8 (E5.trans e8))
      · exact absurd (by decide) c_412
    · skip
      have h3 := hok.2.2.2.1
      have hv : (rScr (scWait ++ itoa (nI i)) 0 []).2.2.length < 2 ^ 31 := by omega
      refine V_if_lt (tgt := 419) dL_changes_412 (by decide) (fun c_412 => ?_) (fun c_412 => ?_)
      · exact absurd c_412 (nI_pos hv)
      · refine V_iconst (v := 1) dL_changes_415 rfl ?_
        refine V_goto (tgt := 420) dL_changes_416 (by decide) ?_
        exact V_retb true dL_changes_420 rfl rfl (kk1 _ _ _ _ _ H8 g8 ((perL_st hok.2.2.2.2 _ 0 k S K hI (by omega) hn).mono (by omega)) hR8 (E5.trans e8))
    · skip
      refine V_if_lt (tgt := 419) dL_changes_412 (by decide) (fun c_412 => ?_) (fun c_412 => ?_)
      · refine V_iconst (v := 0) dL_changes_419 rfl ?_
        exact V_retb false dL_changes_420 rfl rfl (kk0 _ _ _ _ H8 g8 hR8 (E5.trans e8))
      · exact absurd (by decide) c_412
set_option maxHeartbeats 1000000 in
set_option maxRecDepth 100000 in
theorem c_changes {G : GT} {X : String → Heap → Prop} {H : Heap} {g : Nat → Nat} {o : Nat} {S sn : StC} {tk : Int32} {ea : List StC} {wd u : List Int32} {le lf : Int32} {K : ScC} (hR : RG G H g o (S, sn, tk, ea, wd, [], u, le, lf, K)) (hea : ea.length ≤ 8) {k : Nat} (hI : INV k S) (hk : k < 2 ^ 19) {x : Int32} {F : Int32 → Heap → Prop} (kk1 : ∀ (S2 : StC) (wd : List Int32) (K : ScC) (le lf : Int32) (H1 : Heap) (g1 : Nat → Nat), INV (k + 3) S2 → RG G H1 g1 o (S2, sn, tk, (pushE ea S), wd, [], u, le, lf, K) → Ext G tsA H g H1 g1 → F 1 H1) (kk0 : ∀ (wd : List Int32) (K : ScC) (le lf : Int32) (H1 : Heap) (g1 : Nat → Nat), RG G H1 g1 o (S, sn, tk, ea, wd, [], u, le, lf, K) → Ext G tsA H g H1 g1 → F 0 H1) : Call G kL_changes 14 10963 87970 [.ref o, .int x] H (qi F) X := by
  refine startL (L0 := [some (.ref o), some (.int x), none, none, none]) rfl rfl pl_L_changes (Nat.le_of_ble_eq_true rfl) ?_
  refine V_iload_1 dL_changes_0 ?_
  refine V_iconst (v := 4) dL_changes_1 rfl ?_
  refine V_ishr dL_changes_2 ?_
  refine V_bipush (v := 9) dL_changes_3 (by decide) ?_
  refine V_call_i (runS2 dL_changes_5 ce_L_some rfl ml_L_206 st_L_some (Nat.le_of_ble_eq_true rfl)) (by omega) (by omega) (by omega) (c_some (by decide) ?_)
  refine V_istore_2 dL_changes_8 rfl ?_
  refine V_iload_1 dL_changes_9 ?_
  refine V_bipush (v := 7) dL_changes_10 (by decide) ?_
  refine V_ishr dL_changes_12 ?_
  refine V_bipush (v := 9) dL_changes_13 (by decide) ?_
  refine V_call_i (runS2 dL_changes_15 ce_L_some rfl ml_L_206 st_L_some (Nat.le_of_ble_eq_true rfl)) (by omega) (by omega) (by omega) (c_some (by decide) ?_)
  refine V_istore_3 dL_changes_18 rfl ?_
  refine V_iload_1 dL_changes_19 ?_
  refine V_iconst (v := 5) dL_changes_20 rfl ?_
  refine V_ishr dL_changes_21 ?_
  refine V_bipush (v := 9) dL_changes_22 (by decide) ?_
  refine V_call_i (runS2 dL_changes_24 ce_L_some rfl ml_L_206 st_L_some (Nat.le_of_ble_eq_true rfl)) (by omega) (by omega) (by omega) (c_some (by decide) ?_)
  obtain ⟨i, hi, ei⟩ := someV_nI (x >>> ((5 : Int32) &&& 31)) (k := 9) (by omega) (by omega)
  rw [show someV (x >>> ((5 : Int32) &&& 31)) 9 = nI i from ei]
  refine V_istore_4 dL_changes_27 rfl ?_
  refine V_iload_1 dL_changes_29 ?_
  refine V_bipush (v := 26) dL_changes_30 (by decide) ?_
  refine V_call_i (runS2 dL_changes_32 ce_L_some rfl ml_L_206 st_L_some (Nat.le_of_ble_eq_true rfl)) (by omega) (by omega) (by omega) (c_some (by decide) ?_)
  obtain ⟨j, hj, ej⟩ := someV_nI x (k := 26) (by omega) (by omega)
  rw [show someV x 26 = nI j from ej]
  clear ej ei
  have hjj : j = 0 ∨ j = 1 ∨ j = 2 ∨ j = 3 ∨ j = 4 ∨ j = 5 ∨ j = 6 ∨ j = 7 ∨ j = 8 ∨ j = 9 ∨ j = 10 ∨ j = 11 ∨ j = 12 ∨ j = 13 ∨ j = 14 ∨ j = 15 ∨ j = 16 ∨ j = 17 ∨ j = 18 ∨ j = 19 ∨ j = 20 ∨ j = 21 ∨ j = 22 ∨ j = 23 ∨ j = 24 ∨ j = 25 := by omega
  rcases hjj with rfl | rfl | rfl | rfl | rfl | rfl | rfl | rfl | rfl | rfl | rfl | rfl | rfl | rfl | rfl | rfl | rfl | rfl | rfl | rfl | rfl | rfl | rfl | rfl | rfl | rfl
  · refine V_tabI (off := 105) (tgt := 140) dL_changes_35 (by decide) (by decide) rfl (by decide) ?_
    exact c_ch140 hR hea hI hk kk1 kk0
  · refine V_tabI (off := 118) (tgt := 153) dL_changes_35 (by decide) (by decide) rfl (by decide) ?_
    exact c_ch153 hR hea hI hk kk1 kk0
  · refine V_tabI (off := 118) (tgt := 153) dL_changes_35 (by decide) (by decide) rfl (by decide) ?_
    exact c_ch153 hR hea hI hk kk1 kk0
  · refine V_tabI (off := 118) (tgt := 153) dL_changes_35 (by decide) (by decide) rfl (by decide) ?_
    exact c_ch153 hR hea hI hk kk1 kk0
  · refine V_tabI (off := 142) (tgt := 177) dL_changes_35 (by decide) (by decide) rfl (by decide) ?_
    exact c_ch177 hR hea hI hk kk1 kk0
  · refine V_tabI (off := 142) (tgt := 177) dL_changes_35 (by decide) (by decide) rfl (by decide) ?_
    exact c_ch177 hR hea hI hk kk1 kk0
  · refine V_tabI (off := 157) (tgt := 192) dL_changes_35 (by decide) (by decide) rfl (by decide) ?_
    exact c_ch192 hR hea hI hk kk1 kk0
  · refine V_tabI (off := 157) (tgt := 192) dL_changes_35 (by decide) (by decide) rfl (by decide) ?_
    exact c_ch192 hR hea hI hk kk1 kk0
  · refine V_tabI (off := 182) (tgt := 217) dL_changes_35 (by decide) (by decide) rfl (by decide) ?_
    exact c_ch217 hR hea hI hk kk1 kk0
  · refine V_tabI (off := 182) (tgt := 217) dL_changes_35 (by decide) (by decide) rfl (by decide) ?_
    exact c_ch217 hR hea hI hk kk1 kk0
  · refine V_tabI (off := 182) (tgt := 217) dL_changes_35 (by decide) (by decide) rfl (by decide) ?_
    exact c_ch217 hR hea hI hk kk1 kk0
  · refine V_tabI (off := 228) (tgt := 263) dL_changes_35 (by decide) (by decide) rfl (by decide) ?_
    exact c_ch263 hR hea hI hk kk1 kk0
  · refine V_tabI (off := 228) (tgt := 263) dL_changes_35 (by decide) (by decide) rfl (by decide) ?_
    exact c_ch263 hR hea hI hk kk1 kk0
  · refine V_tabI (off := 228) (tgt := 263) dL_changes_35 (by decide) (by decide) rfl (by decide) ?_
    exact c_ch263 hR hea hI hk kk1 kk0
  · refine V_tabI (off := 243) (tgt := 278) dL_changes_35 (by decide) (by decide) rfl (by decide) ?_
    exact c_ch278 hR hea hI hk kk1 kk0
  · refine V_tabI (off := 243) (tgt := 278) dL_changes_35 (by decide) (by decide) rfl (by decide) ?_
    exact c_ch278 hR hea hI hk kk1 kk0
  · refine V_tabI (off := 243) (tgt := 278) dL_changes_35 (by decide) (by decide) rfl (by decide) ?_
    exact c_ch278 hR hea hI hk kk1 kk0
  · refine V_tabI (off := 258) (tgt := 293) dL_changes_35 (by decide) (by decide) rfl (by decide) ?_
    exact c_ch293 hR hea hI hk kk1 kk0
  · refine V_tabI (off := 273) (tgt := 308) dL_changes_35 (by decide) (by decide) rfl (by decide) ?_
    exact c_ch308 hR hea hI hk kk1 kk0
  · refine V_tabI (off := 288) (tgt := 323) dL_changes_35 (by decide) (by decide) rfl (by decide) ?_
    exact c_ch323 hR hea hI hk kk1 kk0
  · refine V_tabI (off := 288) (tgt := 323) dL_changes_35 (by decide) (by decide) rfl (by decide) ?_
    exact c_ch323 hR hea hI hk kk1 kk0
  · refine V_tabI (off := 312) (tgt := 347) dL_changes_35 (by decide) (by decide) rfl (by decide) ?_
    exact c_ch347 hR hea hI hk hi kk1 kk0
  · refine V_tabI (off := 312) (tgt := 347) dL_changes_35 (by decide) (by decide) rfl (by decide) ?_
    exact c_ch347 hR hea hI hk hi kk1 kk0
  · refine V_tabO (tgt := 421) dL_changes_35 (Or.inr (by decide)) (by decide) ?_
    exact c_ch421 hR hea hI hk kk1 kk0
  · refine V_tabO (tgt := 421) dL_changes_35 (Or.inr (by decide)) (by decide) ?_
    exact c_ch421 hR hea hI hk kk1 kk0
  · refine V_tabO (tgt := 421) dL_changes_35 (Or.inr (by decide)) (by decide) ?_
    exact c_ch421 hR hea hI hk kk1 kk0

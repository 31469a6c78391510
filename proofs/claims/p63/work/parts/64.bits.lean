theorem na_D : Cond.native ⟨"java/lang/Double", "doubleToRawLongBits", "(D)J"⟩ ∈ Tb := inTb (tb_7 (List.mem_of_getElem? (i := 59) (by decide +kernel))) (by decide +kernel)
theorem ns_D : Cond.static ⟨"java/lang/Double", "doubleToRawLongBits", "(D)J"⟩ ∈ Tb := inTb (tb_7 (List.mem_of_getElem? (i := 58) (by decide +kernel))) (by decide +kernel)
theorem na_F : Cond.native ⟨"java/lang/Float", "floatToRawIntBits", "(F)I"⟩ ∈ Tb := inTb (tb_7 (List.mem_of_getElem? (i := 77) (by decide +kernel))) (by decide +kernel)
theorem ns_F : Cond.static ⟨"java/lang/Float", "floatToRawIntBits", "(F)I"⟩ ∈ Tb := inTb (tb_7 (List.mem_of_getElem? (i := 76) (by decide +kernel))) (by decide +kernel)
theorem ini_D : Cond.initialized "java/lang/Double" ∈ Tb := inTb (tb_1 (List.mem_of_getElem? (i := 40) (by decide +kernel))) (by decide +kernel)
theorem ini_F : Cond.initialized "java/lang/Float" ∈ Tb := inTb (tb_1 (List.mem_of_getElem? (i := 41) (by decide +kernel))) (by decide +kernel)
theorem vx_ofWF {l : Launch} {y : MethodName} {ws ws' : List Cond} {rm : Room} {Pc : Array Value → State → Prop} {Qc : Array Value → State → Outcome → State → Prop} {XC : String → State → State → Prop} {mc ms : Nat} {free : Addr → Prop} {cc : ByteArray} {maxL : Nat} {ret : Option FieldType}
    (hy : plainFor y = true) (hw : ws = Cond.code y cc maxL ret :: ws')
    (body : ∀ p e s m args below meth c s₁, BodyLoose p l y (headSpec ws rm) cc maxL ret e s m args below meth c s₁ → c.maxLocals = maxL → (∀ x ∈ c.exceptionTable.toList, False) → Pc args s →
      W p l e (headSpec ws rm).room s m args below meth c s.heap [] 0 0 (vx_MQ below Qc XC args s mc ms free) (entryFrame m args maxL)) : vx_Met l y ws rm Pc Qc XC mc ms free := by
  refine MetFree.of_bodySF (code := cc) (maxLocals := maxL) (ret := ret) hy ?_ ?_
  · intro args s m h hn
    obtain ⟨meth, c, h1, h2, h3, h4, h5, h6, -, -⟩ := Cond.code_spec hn (atoms_spec (ws := ws) h _ (by rw [hw]; exact List.mem_cons_self))
    exact ⟨meth, c, h1, h2, h3, h4, h5, h6⟩
  · intro p e s m args below meth c s₁ B hml hP _
    have hh0 : s₁.heap = s.heap := by rw [B.state]; rfl
    have ht : ∀ x ∈ c.exceptionTable.toList, False := by
      obtain ⟨meth9, c9, h1, h2, -, -, -, -, h7, -⟩ := Cond.code_spec B.named (atoms_spec (ws := ws) B.pre _ (by rw [hw]; exact List.mem_cons_self))
      cases Option.some.inj (h1.symm.trans B.method)
      cases Option.some.inj (h2.symm.trans (Stand.of_body B).code)
      intro x hx
      rw [Array.isEmpty_iff.mp h7] at hx
      cases hx
    obtain ⟨t, a1, o, b1, b2, b3⟩ := body p e s m args below meth c s₁ B hml ht hP s₁ hh0 (Stand.of_body B)
    exact ⟨t, o, a1, b1, b2, b3⟩
theorem startF {G : GT} {K : MT} {d c s : Nat} {Q : Option Value → Heap → Prop} {X : String → Heap → Prop} {H : Heap} {L0 : List (Option Value)} {as : List Value} (hL : entL K.2.2.1 as = L0) (hh : K.2.2.2.2 = []) (hy : plainFor K.1 = true) (he : (lg_sl as).length ≤ K.2.2.1) (k : V G K d c s Q X 0 L0 [] H) : Call G K d c s as H Q X := by
  subst hL
  have hw : hdK K :: Tb = Cond.code K.1 K.2.1 K.2.2.1 K.2.2.2.1 :: Tb := by unfold hdK; rw [hh]
  refine vx_ofWF (cc := K.2.1) (maxL := K.2.2.1) (ret := K.2.2.2.1) hy hw ?_
  intro p e st m args below meth co s1 B hml htab hv
  obtain ⟨rfl, hH, hU⟩ := hv
  have hts := atoms_spec (ws := hdK K :: Tb) B.pre
  have hC : Cx G K d p e (rmK d c s) st m as.toArray below meth co := ⟨B.exec, B.bytes, hml, findClass_of_methodNamed B.named, B.notSynchronized, by rw [hh]; exact List.eq_nil_iff_forall_not_mem.mpr (fun x hx => htab x hx), B.returns, (name_of_methodNamed B.named B.method).1, fun w hw => hts w (List.mem_cons_of_mem _ hw), hU, Nat.le_refl _, Nat.le_refl _⟩
  subst hH
  rw [lg_entry_eq]
  exact k p e (rmK d c s) st m as.toArray below meth co _ [] 0 0 hC ⟨LH_entry he, by
    have := (LH_entry he).1
    rw [← this]
    simp
    omega⟩ va_S.rf (Nat.le_of_eq (Nat.zero_add c)) (Nat.le_of_eq (Nat.zero_add s))
section RULES9
variable {G : GT} {K : MT} {d c s : Nat} {Q : Option Value → Heap → Prop} {X : String → Heap → Prop} {H : Heap} {L : List (Option Value)} {rest : List Value} {pc : Nat}
theorem V_dload_0 {x : UInt64} (hd : decode K.2.1 pc = .ok (.dload_n 0, 1)) (k : V G K d c s Q X (pc + 1) (some (.double x) :: L) (.double x :: rest) H) : V G K d c s Q X pc (some (.double x) :: L) (rest) H :=
  fun p e R st m args below meth co ls locs ce sl hC hl hS hc hs => lv_dload_n hC.1 hC.2.1 hd rfl (hl.1.get (i := 0) rfl) (k p e R st m args below meth co ls locs ce sl hC hl hS hc hs)
theorem V_fload_0 {x : UInt32} (hd : decode K.2.1 pc = .ok (.fload_n 0, 1)) (k : V G K d c s Q X (pc + 1) (some (.float x) :: L) (.float x :: rest) H) : V G K d c s Q X pc (some (.float x) :: L) (rest) H :=
  fun p e R st m args below meth co ls locs ce sl hC hl hS hc hs => lv_fload_n hC.1 hC.2.1 hd rfl (hl.1.get (i := 0) rfl) (k p e R st m args below meth co ls locs ce sl hC hl hS hc hs)
theorem V_dcmp {x y : UInt64} {op : CmpOp} {v : Int32} (hd : decode K.2.1 pc = .ok (.dcmp op, 1)) (hv : Op.cmpValue (FP.dcmp x y) op = v) (k : V G K d c s Q X (pc + 1) L (.int v :: rest) H) : V G K d c s Q X pc L (.double y :: .double x :: rest) H := by
  subst hv
  exact fun p e R st m args below meth co ls locs ce sl hC hl hS hc hs => lv_dcmp hC.1 hC.2.1 hd (k p e R st m args below meth co ls locs ce sl hC hl hS hc hs)
theorem V_fcmp {x y : UInt32} {op : CmpOp} {v : Int32} (hd : decode K.2.1 pc = .ok (.fcmp op, 1)) (hv : Op.cmpValue (FP.fcmp x y) op = v) (k : V G K d c s Q X (pc + 1) L (.int v :: rest) H) : V G K d c s Q X pc L (.float y :: .float x :: rest) H := by
  subst hv
  exact fun p e R st m args below meth co ls locs ce sl hC hl hS hc hs => lv_fcmp hC.1 hC.2.1 hd (k p e R st m args below meth co ls locs ce sl hC hl hS hc hs)
theorem V_d2l {idx : Nat} {x : UInt64} (hd : decode K.2.1 pc = .ok (.invokestatic idx, 3)) (hl : Cond.methodLink K.1.cls idx ⟨"java/lang/Double", "doubleToRawLongBits", "(D)J"⟩ ∈ Tb) (hdd : 1 ≤ d) (h8 : (rest.map fun v => v.category).sum ≤ 8) (k : V G K d c s Q X (pc + 3) L (.long x.toInt64 :: rest) H) : V G K d c s Q X pc L (.double x :: rest) H :=
  fun p e R st m args below meth co ls locs ce sl hC hl2 hS hc hs => vn_d2l hC.1 hC.2.1 (hC.2.2.1.trans (hl2.1.1.trans hl2.2).symm) hC.own (hC.w _ hl) (hC.w _ na_D) (hC.w _ ns_D) (hC.w _ ini_D) (fr1 hC.fr hdd) (by have := hC.lo; omega) hd (k p e R st m args below meth co ls locs ce sl hC hl2 hS hc hs)
theorem V_f2i {idx : Nat} {x : UInt32} (hd : decode K.2.1 pc = .ok (.invokestatic idx, 3)) (hl : Cond.methodLink K.1.cls idx ⟨"java/lang/Float", "floatToRawIntBits", "(F)I"⟩ ∈ Tb) (hdd : 1 ≤ d) (h8 : (rest.map fun v => v.category).sum ≤ 8) (k : V G K d c s Q X (pc + 3) L (.int x.toInt32 :: rest) H) : V G K d c s Q X pc L (.float x :: rest) H :=
  fun p e R st m args below meth co ls locs ce sl hC hl2 hS hc hs => vn_f2i hC.1 hC.2.1 (hC.2.2.1.trans (hl2.1.1.trans hl2.2).symm) hC.own (hC.w _ hl) (hC.w _ na_F) (hC.w _ ns_F) (hC.w _ ini_F) (fr1 hC.fr hdd) (by have := hC.lo; omega) hd (k p e R st m args below meth co ls locs ce sl hC hl2 hS hc hs)
end RULES9
theorem plb_Jxe99ae_isNaN_b9ae7 : plainFor kJxe99ae_isNaN_b9ae7.1 = true := by decide +kernel
theorem plb_Jxe99ae_doubleToLongBits_ccdee : plainFor kJxe99ae_doubleToLongBits_ccdee.1 = true := by decide +kernel
set_option maxHeartbeats 1000000 in
set_option maxRecDepth 100000 in
theorem c_isNaND {G : GT} {X : String → Heap → Prop} {H : Heap} {x : UInt64} (h : Op.cmpValue (FP.dcmp x x) .l = 0) {F : Int32 → Heap → Prop} (kk : F 0 H) : Call G kJxe99ae_isNaN_b9ae7 0 0 0 [.double x] H (qi F) X := by
  refine startF (L0 := [some (.double x), none]) rfl rfl plb_Jxe99ae_isNaN_b9ae7 (Nat.le_of_ble_eq_true rfl) ?_
  refine V_dload_0 dJxe99ae_isNaN_b9ae7_0 ?_
  refine V_dload_0 dJxe99ae_isNaN_b9ae7_1 ?_
  refine V_dcmp dJxe99ae_isNaN_b9ae7_2 h ?_
  refine V_if_eq (tgt := 10) dJxe99ae_isNaN_b9ae7_3 (by decide) (fun c_3 => ?_) (fun c_3 => ?_)
  · refine V_iconst (v := 0) dJxe99ae_isNaN_b9ae7_10 rfl ?_
    exact V_retb false dJxe99ae_isNaN_b9ae7_11 rfl rfl kk
  · exact absurd rfl c_3
set_option maxHeartbeats 1000000 in
set_option maxRecDepth 100000 in
theorem c_d2l {G : GT} {X : String → Heap → Prop} {H : Heap} {x : UInt64} (h : Op.cmpValue (FP.dcmp x x) .l = 0) {F : Int64 → Heap → Prop} (kk : F x.toInt64 H) : Call G kJxe99ae_doubleToLongBits_ccdee 1 0 0 [.double x] H (ql F) X := by
  refine startF (L0 := [some (.double x), none]) rfl rfl plb_Jxe99ae_doubleToLongBits_ccdee (Nat.le_of_ble_eq_true rfl) ?_
  refine V_dload_0 dJxe99ae_doubleToLongBits_ccdee_0 ?_
  refine V_call_i (runS1 dJxe99ae_doubleToLongBits_ccdee_1 ce_Jxe99ae_isNaN_b9ae7 rfl ml_Jxe99ae_122 st_Jxe99ae_isNaN_b9ae7 (Nat.le_of_ble_eq_true rfl)) (by omega) (by omega) (by omega) (c_isNaND h ?_)
  refine V_if_ne (tgt := 12) dJxe99ae_doubleToLongBits_ccdee_4 (by decide) (fun c_4 => ?_) (fun c_4 => ?_)
  · exact absurd rfl c_4
  · refine V_dload_0 dJxe99ae_doubleToLongBits_ccdee_7 ?_
    refine V_d2l dJxe99ae_doubleToLongBits_ccdee_8 ml_Jxe99ae_134 (by omega) (Nat.le_of_ble_eq_true rfl) ?_
    exact V_lret dJxe99ae_doubleToLongBits_ccdee_11 rfl ⟨_, rfl, kk⟩
theorem plb_Jxf58ca_isNaN_12338 : plainFor kJxf58ca_isNaN_12338.1 = true := by decide +kernel
theorem plb_Jxf58ca_floatToIntBits_5c35a : plainFor kJxf58ca_floatToIntBits_5c35a.1 = true := by decide +kernel
set_option maxHeartbeats 1000000 in
set_option maxRecDepth 100000 in
theorem c_isNaNF {G : GT} {X : String → Heap → Prop} {H : Heap} {x : UInt32} (h : Op.cmpValue (FP.fcmp x x) .l = 0) {F : Int32 → Heap → Prop} (kk : F 0 H) : Call G kJxf58ca_isNaN_12338 0 0 0 [.float x] H (qi F) X := by
  refine startF (L0 := [some (.float x)]) rfl rfl plb_Jxf58ca_isNaN_12338 (Nat.le_of_ble_eq_true rfl) ?_
  refine V_fload_0 dJxf58ca_isNaN_12338_0 ?_
  refine V_fload_0 dJxf58ca_isNaN_12338_1 ?_
  refine V_fcmp dJxf58ca_isNaN_12338_2 h ?_
  refine V_if_eq (tgt := 10) dJxf58ca_isNaN_12338_3 (by decide) (fun c_3 => ?_) (fun c_3 => ?_)
  · refine V_iconst (v := 0) dJxf58ca_isNaN_12338_10 rfl ?_
    exact V_retb false dJxf58ca_isNaN_12338_11 rfl rfl kk
  · exact absurd rfl c_3
set_option maxHeartbeats 1000000 in
set_option maxRecDepth 100000 in
theorem c_f2i {G : GT} {X : String → Heap → Prop} {H : Heap} {x : UInt32} (h : Op.cmpValue (FP.fcmp x x) .l = 0) {F : Int32 → Heap → Prop} (kk : F x.toInt32 H) : Call G kJxf58ca_floatToIntBits_5c35a 1 0 0 [.float x] H (qi F) X := by
  refine startF (L0 := [some (.float x)]) rfl rfl plb_Jxf58ca_floatToIntBits_5c35a (Nat.le_of_ble_eq_true rfl) ?_
  refine V_fload_0 dJxf58ca_floatToIntBits_5c35a_0 ?_
  refine V_call_i (runS1 dJxf58ca_floatToIntBits_5c35a_1 ce_Jxf58ca_isNaN_12338 rfl ml_Jxf58ca_59 st_Jxf58ca_isNaN_12338 (Nat.le_of_ble_eq_true rfl)) (by omega) (by omega) (by omega) (c_isNaNF h ?_)
  refine V_if_ne (tgt := 12) dJxf58ca_floatToIntBits_5c35a_4 (by decide) (fun c_4 => ?_) (fun c_4 => ?_)
  · exact absurd rfl c_4
  · refine V_fload_0 dJxf58ca_floatToIntBits_5c35a_7 ?_
    refine V_f2i dJxf58ca_floatToIntBits_5c35a_8 ml_Jxf58ca_74 (by omega) (Nat.le_of_ble_eq_true rfl) ?_
    exact V_reti dJxf58ca_floatToIntBits_5c35a_11 rfl rfl kk

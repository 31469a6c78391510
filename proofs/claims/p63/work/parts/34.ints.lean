/-- the digits of a number below 10^10 -/
def itoN : Nat → Nat → List Int32
  | 0, _ => []
  | f + 1, n => if n < 10 then [nI (48 + n % 10)] else if n < 100 then [nI (48 + n / 10), nI (48 + n % 10)] else itoN f (n / 100) ++ [nI (48 + n % 100 / 10), nI (48 + n % 100 % 10)]
def itoa (x : Int32) : List Int32 := if x < 0 then 45 :: itoN 5 x.toInt.natAbs else itoN 5 x.toInt.natAbs
theorem asc_dig {k : Nat} (h : k < 10) : 0 ≤ nI (48 + k) ∧ nI (48 + k) < 128 := ⟨Int32.not_lt.mp (nI_pos (by omega)), nI_lt (b := 128) (by omega) (by decide)⟩
theorem asc_nil : asc [] := fun x hx => by cases hx
theorem asc_cons {x : Int32} {l : List Int32} (h : 0 ≤ x ∧ x < 128) (h2 : asc l) : asc (x :: l) := fun y hy => (List.mem_cons.mp hy).elim (fun e => e ▸ h) (h2 y)
theorem asc_app {l m : List Int32} (h : asc l) (h2 : asc m) : asc (l ++ m) := fun y hy => (List.mem_append.mp hy).elim (h y) (h2 y)
theorem asc_itoN : ∀ (f n : Nat), asc (itoN f n)
  | 0, _ => asc_nil
  | f + 1, n => by
    unfold itoN
    split
    · exact asc_cons (asc_dig (by omega)) asc_nil
    · split
      · exact asc_cons (asc_dig (by omega)) (asc_cons (asc_dig (by omega)) asc_nil)
      · exact asc_app (asc_itoN f _) (asc_cons (asc_dig (by omega)) (asc_cons (asc_dig (by omega)) asc_nil))
theorem asc_itoa (x : Int32) : asc (itoa x) := by
  unfold itoa
  split
  · exact asc_cons (by decide) (asc_itoN _ _)
  · exact asc_itoN _ _
theorem itoN_len {n : Nat} : ∀ k, 1 ≤ k → k ≤ 10 → (k = 1 ∨ 10 ^ (k - 1) ≤ n) → n < 10 ^ k → (itoN 5 n).length = k := by
  intro k h1 h2 h3 h4
  have hk : k = 1 ∨ k = 2 ∨ k = 3 ∨ k = 4 ∨ k = 5 ∨ k = 6 ∨ k = 7 ∨ k = 8 ∨ k = 9 ∨ k = 10 := by omega
  have two : ∀ f m, m < 10 → (itoN (f + 1) m).length = 1 := fun f m hm => by unfold itoN; rw [if_pos hm]; rfl
  have three : ∀ f m, ¬ m < 10 → m < 100 → (itoN (f + 1) m).length = 2 := fun f m hm hm2 => by unfold itoN; rw [if_neg hm, if_pos hm2]; rfl
  have more : ∀ f m, ¬ m < 100 → (itoN (f + 1) m).length = (itoN f (m / 100)).length + 2 := fun f m hm => by
    conv => lhs; unfold itoN
    rw [if_neg (by omega), if_neg hm, List.length_append]; rfl
  rcases hk with rfl | rfl | rfl | rfl | rfl | rfl | rfl | rfl | rfl | rfl <;> simp only [Nat.reduceSub, Nat.reducePow] at h3 h4
  · exact two _ _ (by omega)
  · exact three _ _ (by omega) (by omega)
  · rw [more _ _ (by omega), two _ _ (by omega)]
  · rw [more _ _ (by omega), three _ _ (by omega) (by omega)]
  · rw [more _ _ (by omega), more _ _ (by omega), two _ _ (by omega)]
  · rw [more _ _ (by omega), more _ _ (by omega), three _ _ (by omega) (by omega)]
  · rw [more _ _ (by omega), more _ _ (by omega), more _ _ (by omega), two _ _ (by omega)]
  · rw [more _ _ (by omega), more _ _ (by omega), more _ _ (by omega), three _ _ (by omega) (by omega)]
  · rw [more _ _ (by omega), more _ _ (by omega), more _ _ (by omega), more _ _ (by omega), two _ _ (by omega)]
  · rw [more _ _ (by omega), more _ _ (by omega), more _ _ (by omega), more _ _ (by omega), three _ _ (by omega) (by omega)]
theorem itoN_10 {n : Nat} (h : n ≤ 2 ^ 31) : (itoN 5 n).length ≤ 10 := by
  rcases Nat.lt_or_ge n 10 with h1 | h1
  · rw [itoN_len 1 (by omega) (by omega) (Or.inl rfl) (by omega)]; omega
  have hk : ∀ k, 2 ≤ k → k ≤ 10 → 10 ^ (k - 1) ≤ n → n < 10 ^ k → (itoN 5 n).length ≤ 10 := fun k a b c d => by rw [itoN_len k (by omega) b (Or.inr c) d]; exact b
  rcases Nat.lt_or_ge n (10 ^ 2) with h2 | h2
  · exact hk 2 (by omega) (by omega) (by omega) h2
  rcases Nat.lt_or_ge n (10 ^ 3) with h3 | h3
  · exact hk 3 (by omega) (by omega) h2 h3
  rcases Nat.lt_or_ge n (10 ^ 4) with h4 | h4
  · exact hk 4 (by omega) (by omega) h3 h4
  rcases Nat.lt_or_ge n (10 ^ 5) with h5 | h5
  · exact hk 5 (by omega) (by omega) h4 h5
  rcases Nat.lt_or_ge n (10 ^ 6) with h6 | h6
  · exact hk 6 (by omega) (by omega) h5 h6
  rcases Nat.lt_or_ge n (10 ^ 7) with h7 | h7
  · exact hk 7 (by omega) (by omega) h6 h7
  rcases Nat.lt_or_ge n (10 ^ 8) with h8 | h8
  · exact hk 8 (by omega) (by omega) h7 h8
  rcases Nat.lt_or_ge n (10 ^ 9) with h9 | h9
  · exact hk 9 (by omega) (by omega) h8 h9
  · exact hk 10 (by omega) (by omega) h9 (by omega)
theorem absI {x : Int32} : x.toInt.natAbs ≤ 2 ^ 31 := by
  have h1 := Int32.toInt_lt x
  have h2 := Int32.le_toInt x
  omega
theorem itoa_11 (x : Int32) : (itoa x).length ≤ 11 := by
  unfold itoa
  have h := itoN_10 (absI (x := x))
  split
  · rw [List.length_cons]; omega
  · omega
theorem ssz {i : Int32} {n k : Nat} {p : Int32} (hi : i.toInt = -(n : Int)) (hp : p.toInt = -((10 ^ k : Nat) : Int)) : p < i ↔ n < 10 ^ k := by
  rw [Int32.lt_iff_toInt_lt, hi, hp]
  omega
theorem V_loc3 {G : GT} {K : MT} {d c s : Nat} {Q : Option Value → Heap → Prop} {X : String → Heap → Prop} {H : Heap} {rest : List Value} {pc : Nat} {x0 x1 x2 : Option Value} {x y : Int32} (h : x = y) (k : V G K d c s Q X pc [x0, x1, x2, some (.int y)] rest H) : V G K d c s Q X pc [x0, x1, x2, some (.int x)] rest H := h ▸ k
set_option maxHeartbeats 1000000 in
set_option maxRecDepth 100000 in
theorem c_ssize0 {G : GT} {H : Heap} {X : String → Heap → Prop} {i d : Int32} {n : Nat} (hi : i.toInt = -(n : Int)) (hn : n ≤ 2 ^ 31) {F : Int32 → Heap → Prop} (kk : F (nI (itoN 5 n).length + d) H) : V G kJ6_stringSize_0f7a4 0 0 0 (qi F) X 11 [some (.int i), some (.int d), none, none] [] H := by
  refine V_bipush (v := (-10)) dJ6_stringSize_0f7a4_11 (by decide) ?_
  refine V_istore_2 dJ6_stringSize_0f7a4_13 rfl ?_
  refine V_iconst (v := 1) dJ6_stringSize_0f7a4_14 rfl ?_
  refine V_istore_3 dJ6_stringSize_0f7a4_15 rfl ?_
  refine V_iload_3 dJ6_stringSize_0f7a4_16 ?_
  refine V_bipush (v := 10) dJ6_stringSize_0f7a4_17 (by decide) ?_
  refine V_icmp_ge (tgt := 42) dJ6_stringSize_0f7a4_19 (by decide) (fun c_19 => ?_) (fun c_19 => ?_)
  · exact absurd c_19 (by decide)
  · refine V_iload_0 dJ6_stringSize_0f7a4_22 ?_
    refine V_iload_2 dJ6_stringSize_0f7a4_23 ?_
    refine V_icmp_le (tgt := 31) dJ6_stringSize_0f7a4_24 (by decide) (fun c_24_1 => ?_) (fun c_24_1 => ?_)
    · refine V_bipush (v := 10) dJ6_stringSize_0f7a4_31 (by decide) ?_
      refine V_iload_2 dJ6_stringSize_0f7a4_33 ?_
      refine V_imul dJ6_stringSize_0f7a4_34 ?_
      refine V_int (y := -100) (by decide) ?_
      refine V_istore_2 dJ6_stringSize_0f7a4_35 rfl ?_
      refine V_iinc_3 (v := 1) dJ6_stringSize_0f7a4_36 rfl rfl ?_
      refine V_loc3 (y := 2) (by decide) ?_
      refine V_goto (tgt := 16) dJ6_stringSize_0f7a4_39 (by decide) ?_
      refine V_iload_3 dJ6_stringSize_0f7a4_16 ?_
      refine V_bipush (v := 10) dJ6_stringSize_0f7a4_17 (by decide) ?_
      refine V_icmp_ge (tgt := 42) dJ6_stringSize_0f7a4_19 (by decide) (fun c_19 => ?_) (fun c_19 => ?_)
      · exact absurd c_19 (by decide)
      · refine V_iload_0 dJ6_stringSize_0f7a4_22 ?_
        refine V_iload_2 dJ6_stringSize_0f7a4_23 ?_
        refine V_icmp_le (tgt := 31) dJ6_stringSize_0f7a4_24 (by decide) (fun c_24_2 => ?_) (fun c_24_2 => ?_)
        · refine V_bipush (v := 10) dJ6_stringSize_0f7a4_31 (by decide) ?_
          refine V_iload_2 dJ6_stringSize_0f7a4_33 ?_
          refine V_imul dJ6_stringSize_0f7a4_34 ?_
          refine V_int (y := -1000) (by decide) ?_
          refine V_istore_2 dJ6_stringSize_0f7a4_35 rfl ?_
          refine V_iinc_3 (v := 1) dJ6_stringSize_0f7a4_36 rfl rfl ?_
          refine V_loc3 (y := 3) (by decide) ?_
          refine V_goto (tgt := 16) dJ6_stringSize_0f7a4_39 (by decide) ?_
          refine V_iload_3 dJ6_stringSize_0f7a4_16 ?_
          refine V_bipush (v := 10) dJ6_stringSize_0f7a4_17 (by decide) ?_
          refine V_icmp_ge (tgt := 42) dJ6_stringSize_0f7a4_19 (by decide) (fun c_19 => ?_) (fun c_19 => ?_)
          · exact absurd c_19 (by decide)
          · refine V_iload_0 dJ6_stringSize_0f7a4_22 ?_
            refine V_iload_2 dJ6_stringSize_0f7a4_23 ?_
            refine V_icmp_le (tgt := 31) dJ6_stringSize_0f7a4_24 (by decide) (fun c_24_3 => ?_) (fun c_24_3 => ?_)
            · refine V_bipush (v := 10) dJ6_stringSize_0f7a4_31 (by decide) ?_
              refine V_iload_2 dJ6_stringSize_0f7a4_33 ?_
              refine V_imul dJ6_stringSize_0f7a4_34 ?_
              refine V_int (y := -10000) (by decide) ?_
              refine V_istore_2 dJ6_stringSize_0f7a4_35 rfl ?_
              refine V_iinc_3 (v := 1) dJ6_stringSize_0f7a4_36 rfl rfl ?_
              refine V_loc3 (y := 4) (by decide) ?_
              refine V_goto (tgt := 16) dJ6_stringSize_0f7a4_39 (by decide) ?_
              refine V_iload_3 dJ6_stringSize_0f7a4_16 ?_
              refine V_bipush (v := 10) dJ6_stringSize_0f7a4_17 (by decide) ?_
              refine V_icmp_ge (tgt := 42) dJ6_stringSize_0f7a4_19 (by decide) (fun c_19 => ?_) (fun c_19 => ?_)
              · exact absurd c_19 (by decide)
              · refine V_iload_0 dJ6_stringSize_0f7a4_22 ?_
                refine V_iload_2 dJ6_stringSize_0f7a4_23 ?_
                refine V_icmp_le (tgt := 31) dJ6_stringSize_0f7a4_24 (by decide) (fun c_24_4 => ?_) (fun c_24_4 => ?_)
                · refine V_bipush (v := 10) dJ6_stringSize_0f7a4_31 (by decide) ?_
                  refine V_iload_2 dJ6_stringSize_0f7a4_33 ?_
                  refine V_imul dJ6_stringSize_0f7a4_34 ?_
                  refine V_int (y := -100000) (by decide) ?_
                  refine V_istore_2 dJ6_stringSize_0f7a4_35 rfl ?_
                  refine V_iinc_3 (v := 1) dJ6_stringSize_0f7a4_36 rfl rfl ?_
                  refine V_loc3 (y := 5) (by decide) ?_
                  refine V_goto (tgt := 16) dJ6_stringSize_0f7a4_39 (by decide) ?_
                  refine V_iload_3 dJ6_stringSize_0f7a4_16 ?_
                  refine V_bipush (v := 10) dJ6_stringSize_0f7a4_17 (by decide) ?_
                  refine V_icmp_ge (tgt := 42) dJ6_stringSize_0f7a4_19 (by decide) (fun c_19 => ?_) (fun c_19 => ?_)
                  · exact absurd c_19 (by decide)
                  · refine V_iload_0 dJ6_stringSize_0f7a4_22 ?_
                    refine V_iload_2 dJ6_stringSize_0f7a4_23 ?_
                    refine V_icmp_le (tgt := 31) dJ6_stringSize_0f7a4_24 (by decide) (fun c_24_5 => ?_) (fun c_24_5 => ?_)
                    · refine V_bipush (v := 10) dJ6_stringSize_0f7a4_31 (by decide) ?_
                      refine V_iload_2 dJ6_stringSize_0f7a4_33 ?_
                      refine V_imul dJ6_stringSize_0f7a4_34 ?_
                      refine V_int (y := -1000000) (by decide) ?_
                      refine V_istore_2 dJ6_stringSize_0f7a4_35 rfl ?_
                      refine V_iinc_3 (v := 1) dJ6_stringSize_0f7a4_36 rfl rfl ?_
                      refine V_loc3 (y := 6) (by decide) ?_
                      refine V_goto (tgt := 16) dJ6_stringSize_0f7a4_39 (by decide) ?_
                      refine V_iload_3 dJ6_stringSize_0f7a4_16 ?_
                      refine V_bipush (v := 10) dJ6_stringSize_0f7a4_17 (by decide) ?_
                      refine V_icmp_ge (tgt := 42) dJ6_stringSize_0f7a4_19 (by decide) (fun c_19 => ?_) (fun c_19 => ?_)
                      · exact absurd c_19 (by decide)
                      · refine V_iload_0 dJ6_stringSize_0f7a4_22 ?_
                        refine V_iload_2 dJ6_stringSize_0f7a4_23 ?_
                        refine V_icmp_le (tgt := 31) dJ6_stringSize_0f7a4_24 (by decide) (fun c_24_6 => ?_) (fun c_24_6 => ?_)
                        · refine V_bipush (v := 10) dJ6_stringSize_0f7a4_31 (by decide) ?_
                          refine V_iload_2 dJ6_stringSize_0f7a4_33 ?_
                          refine V_imul dJ6_stringSize_0f7a4_34 ?_
                          refine V_int (y := -10000000) (by decide) ?_
                          refine V_istore_2 dJ6_stringSize_0f7a4_35 rfl ?_
                          refine V_iinc_3 (v := 1) dJ6_stringSize_0f7a4_36 rfl rfl ?_
                          refine V_loc3 (y := 7) (by decide) ?_
                          refine V_goto (tgt := 16) dJ6_stringSize_0f7a4_39 (by decide) ?_
                          refine V_iload_3 dJ6_stringSize_0f7a4_16 ?_
                          refine V_bipush (v := 10) dJ6_stringSize_0f7a4_17 (by decide) ?_
                          refine V_icmp_ge (tgt := 42) dJ6_stringSize_0f7a4_19 (by decide) (fun c_19 => ?_) (fun c_19 => ?_)
                          · exact absurd c_19 (by decide)
                          · refine V_iload_0 dJ6_stringSize_0f7a4_22 ?_
                            refine V_iload_2 dJ6_stringSize_0f7a4_23 ?_
                            refine V_icmp_le (tgt := 31) dJ6_stringSize_0f7a4_24 (by decide) (fun c_24_7 => ?_) (fun c_24_7 => ?_)
                            · refine V_bipush (v := 10) dJ6_stringSize_0f7a4_31 (by decide) ?_
                              refine V_iload_2 dJ6_stringSize_0f7a4_33 ?_
                              refine V_imul dJ6_stringSize_0f7a4_34 ?_
                              refine V_int (y := -100000000) (by decide) ?_
                              refine V_istore_2 dJ6_stringSize_0f7a4_35 rfl ?_
                              refine V_iinc_3 (v := 1) dJ6_stringSize_0f7a4_36 rfl rfl ?_
                              refine V_loc3 (y := 8) (by decide) ?_
                              refine V_goto (tgt := 16) dJ6_stringSize_0f7a4_39 (by decide) ?_
                              refine V_iload_3 dJ6_stringSize_0f7a4_16 ?_
                              refine V_bipush (v := 10) dJ6_stringSize_0f7a4_17 (by decide) ?_
                              refine V_icmp_ge (tgt := 42) dJ6_stringSize_0f7a4_19 (by decide) (fun c_19 => ?_) (fun c_19 => ?_)
                              · exact absurd c_19 (by decide)
                              · refine V_iload_0 dJ6_stringSize_0f7a4_22 ?_
                                refine V_iload_2 dJ6_stringSize_0f7a4_23 ?_
                                refine V_icmp_le (tgt := 31) dJ6_stringSize_0f7a4_24 (by decide) (fun c_24_8 => ?_) (fun c_24_8 => ?_)
                                · refine V_bipush (v := 10) dJ6_stringSize_0f7a4_31 (by decide) ?_
                                  refine V_iload_2 dJ6_stringSize_0f7a4_33 ?_
                                  refine V_imul dJ6_stringSize_0f7a4_34 ?_
                                  refine V_int (y := -1000000000) (by decide) ?_
                                  refine V_istore_2 dJ6_stringSize_0f7a4_35 rfl ?_
                                  refine V_iinc_3 (v := 1) dJ6_stringSize_0f7a4_36 rfl rfl ?_
                                  refine V_loc3 (y := 9) (by decide) ?_
                                  refine V_goto (tgt := 16) dJ6_stringSize_0f7a4_39 (by decide) ?_
                                  refine V_iload_3 dJ6_stringSize_0f7a4_16 ?_
                                  refine V_bipush (v := 10) dJ6_stringSize_0f7a4_17 (by decide) ?_
                                  refine V_icmp_ge (tgt := 42) dJ6_stringSize_0f7a4_19 (by decide) (fun c_19 => ?_) (fun c_19 => ?_)
                                  · exact absurd c_19 (by decide)
                                  · refine V_iload_0 dJ6_stringSize_0f7a4_22 ?_
                                    refine V_iload_2 dJ6_stringSize_0f7a4_23 ?_
                                    refine V_icmp_le (tgt := 31) dJ6_stringSize_0f7a4_24 (by decide) (fun c_24_9 => ?_) (fun c_24_9 => ?_)
                                    · refine V_bipush (v := 10) dJ6_stringSize_0f7a4_31 (by decide) ?_
                                      refine V_iload_2 dJ6_stringSize_0f7a4_33 ?_
                                      refine V_imul dJ6_stringSize_0f7a4_34 ?_
                                      refine V_istore_2 dJ6_stringSize_0f7a4_35 rfl ?_
                                      refine V_iinc_3 (v := 1) dJ6_stringSize_0f7a4_36 rfl rfl ?_
                                      refine V_loc3 (y := 10) (by decide) ?_
                                      refine V_goto (tgt := 16) dJ6_stringSize_0f7a4_39 (by decide) ?_
                                      refine V_iload_3 dJ6_stringSize_0f7a4_16 ?_
                                      refine V_bipush (v := 10) dJ6_stringSize_0f7a4_17 (by decide) ?_
                                      refine V_icmp_ge (tgt := 42) dJ6_stringSize_0f7a4_19 (by decide) (fun c_19 => ?_) (fun c_19 => ?_)
                                      · refine V_bipush (v := 10) dJ6_stringSize_0f7a4_42 (by decide) ?_
                                        refine V_iload_1 dJ6_stringSize_0f7a4_44 ?_
                                        refine V_iadd dJ6_stringSize_0f7a4_45 ?_
                                        refine V_int (y := nI (itoN 5 n).length + d) (congrArg (fun z => nI z + d) (itoN_len 10 (by omega) (by omega) (Or.inr (by have := mt (ssz (k := 9) hi (by decide)).mpr (Int32.not_lt.mpr c_24_9); omega)) (by omega)).symm) ?_
                                        exact V_reti dJ6_stringSize_0f7a4_46 rfl rfl kk
                                      · exact absurd c_19 (by decide)
                                    · refine V_iload_3 dJ6_stringSize_0f7a4_27 ?_
                                      refine V_iload_1 dJ6_stringSize_0f7a4_28 ?_
                                      refine V_iadd dJ6_stringSize_0f7a4_29 ?_
                                      refine V_int (y := nI (itoN 5 n).length + d) (congrArg (fun z => nI z + d) (itoN_len 9 (by omega) (by omega) (Or.inr (by have := mt (ssz (k := 8) hi (by decide)).mpr (Int32.not_lt.mpr c_24_8); omega)) ((ssz (k := 9) hi (by decide)).mp (Int32.not_le.mp c_24_9))).symm) ?_
                                      exact V_reti dJ6_stringSize_0f7a4_30 rfl rfl kk
                                · refine V_iload_3 dJ6_stringSize_0f7a4_27 ?_
                                  refine V_iload_1 dJ6_stringSize_0f7a4_28 ?_
                                  refine V_iadd dJ6_stringSize_0f7a4_29 ?_
                                  refine V_int (y := nI (itoN 5 n).length + d) (congrArg (fun z => nI z + d) (itoN_len 8 (by omega) (by omega) (Or.inr (by have := mt (ssz (k := 7) hi (by decide)).mpr (Int32.not_lt.mpr c_24_7); omega)) ((ssz (k := 8) hi (by decide)).mp (Int32.not_le.mp c_24_8))).symm) ?_
                                  exact V_reti dJ6_stringSize_0f7a4_30 rfl rfl kk
                            · refine V_iload_3 dJ6_stringSize_0f7a4_27 ?_
                              refine V_iload_1 dJ6_stringSize_0f7a4_28 ?_
                              refine V_iadd dJ6_stringSize_0f7a4_29 ?_
                              refine V_int (y := nI (itoN 5 n).length + d) (congrArg (fun z => nI z + d) (itoN_len 7 (by omega) (by omega) (Or.inr (by have := mt (ssz (k := 6) hi (by decide)).mpr (Int32.not_lt.mpr c_24_6); omega)) ((ssz (k := 7) hi (by decide)).mp (Int32.not_le.mp c_24_7))).symm) ?_
                              exact V_reti dJ6_stringSize_0f7a4_30 rfl rfl kk
                        · refine V_iload_3 dJ6_stringSize_0f7a4_27 ?_
                          refine V_iload_1 dJ6_stringSize_0f7a4_28 ?_
                          refine V_iadd dJ6_stringSize_0f7a4_29 ?_
                          refine V_int (y := nI (itoN 5 n).length + d) (congrArg (fun z => nI z + d) (itoN_len 6 (by omega) (by omega) (Or.inr (by have := mt (ssz (k := 5) hi (by decide)).mpr (Int32.not_lt.mpr c_24_5); omega)) ((ssz (k := 6) hi (by decide)).mp (Int32.not_le.mp c_24_6))).symm) ?_
                          exact V_reti dJ6_stringSize_0f7a4_30 rfl rfl kk
                    · refine V_iload_3 dJ6_stringSize_0f7a4_27 ?_
                      refine V_iload_1 dJ6_stringSize_0f7a4_28 ?_
                      refine V_iadd dJ6_stringSize_0f7a4_29 ?_
                      refine V_int (y := nI (itoN 5 n).length + d) (congrArg (fun z => nI z + d) (itoN_len 5 (by omega) (by omega) (Or.inr (by have := mt (ssz (k := 4) hi (by decide)).mpr (Int32.not_lt.mpr c_24_4); omega)) ((ssz (k := 5) hi (by decide)).mp (Int32.not_le.mp c_24_5))).symm) ?_
                      exact V_reti dJ6_stringSize_0f7a4_30 rfl rfl kk
                · refine V_iload_3 dJ6_stringSize_0f7a4_27 ?_
                  refine V_iload_1 dJ6_stringSize_0f7a4_28 ?_
                  refine V_iadd dJ6_stringSize_0f7a4_29 ?_
                  refine V_int (y := nI (itoN 5 n).length + d) (congrArg (fun z => nI z + d) (itoN_len 4 (by omega) (by omega) (Or.inr (by have := mt (ssz (k := 3) hi (by decide)).mpr (Int32.not_lt.mpr c_24_3); omega)) ((ssz (k := 4) hi (by decide)).mp (Int32.not_le.mp c_24_4))).symm) ?_
                  exact V_reti dJ6_stringSize_0f7a4_30 rfl rfl kk
            · refine V_iload_3 dJ6_stringSize_0f7a4_27 ?_
              refine V_iload_1 dJ6_stringSize_0f7a4_28 ?_
              refine V_iadd dJ6_stringSize_0f7a4_29 ?_
              refine V_int (y := nI (itoN 5 n).length + d) (congrArg (fun z => nI z + d) (itoN_len 3 (by omega) (by omega) (Or.inr (by have := mt (ssz (k := 2) hi (by decide)).mpr (Int32.not_lt.mpr c_24_2); omega)) ((ssz (k := 3) hi (by decide)).mp (Int32.not_le.mp c_24_3))).symm) ?_
              exact V_reti dJ6_stringSize_0f7a4_30 rfl rfl kk
        · refine V_iload_3 dJ6_stringSize_0f7a4_27 ?_
          refine V_iload_1 dJ6_stringSize_0f7a4_28 ?_
          refine V_iadd dJ6_stringSize_0f7a4_29 ?_
          refine V_int (y := nI (itoN 5 n).length + d) (congrArg (fun z => nI z + d) (itoN_len 2 (by omega) (by omega) (Or.inr (by have := mt (ssz (k := 1) hi (by decide)).mpr (Int32.not_lt.mpr c_24_1); omega)) ((ssz (k := 2) hi (by decide)).mp (Int32.not_le.mp c_24_2))).symm) ?_
          exact V_reti dJ6_stringSize_0f7a4_30 rfl rfl kk
    · refine V_iload_3 dJ6_stringSize_0f7a4_27 ?_
      refine V_iload_1 dJ6_stringSize_0f7a4_28 ?_
      refine V_iadd dJ6_stringSize_0f7a4_29 ?_
      refine V_int (y := nI (itoN 5 n).length + d) (congrArg (fun z => nI z + d) (itoN_len 1 (by omega) (by omega) (Or.inl rfl) ((ssz (k := 1) hi (by decide)).mp (Int32.not_le.mp c_24_1))).symm) ?_
      exact V_reti dJ6_stringSize_0f7a4_30 rfl rfl kk
set_option maxHeartbeats 1000000 in
set_option maxRecDepth 100000 in
theorem c_ssize {G : GT} {H : Heap} {X : String → Heap → Prop} {x : Int32} {F : Int32 → Heap → Prop} (kk : F (nI (itoa x).length) H) : Call G kJ6_stringSize_0f7a4 0 0 0 [.int x] H (qi F) X := by
  refine startL (L0 := [some (.int x), none, none, none]) rfl rfl pl_J6_stringSize_0f7a4 (Nat.le_of_ble_eq_true rfl) ?_
  refine V_iconst (v := 1) dJ6_stringSize_0f7a4_0 rfl ?_
  refine V_istore_1 dJ6_stringSize_0f7a4_1 rfl ?_
  refine V_iload_0 dJ6_stringSize_0f7a4_2 ?_
  refine V_if_lt (tgt := 11) dJ6_stringSize_0f7a4_3 (by decide) (fun c_3 => ?_) (fun c_3 => ?_)
  · exact c_ssize0 (n := x.toInt.natAbs) (by have := Int32.lt_iff_toInt_lt.mp c_3; have e : (0 : Int32).toInt = 0 := rfl; omega) absI (by unfold itoa at kk; rw [if_pos c_3] at kk; rw [nI_1]; exact kk)
  · refine V_iconst (v := 0) dJ6_stringSize_0f7a4_6 rfl ?_
    refine V_istore_1 dJ6_stringSize_0f7a4_7 rfl ?_
    refine V_iload_0 dJ6_stringSize_0f7a4_8 ?_
    refine V_ineg dJ6_stringSize_0f7a4_9 ?_
    refine V_istore_0 dJ6_stringSize_0f7a4_10 ?_
    exact c_ssize0 (n := x.toInt.natAbs) (by have h := mt Int32.lt_iff_toInt_lt.mpr c_3; have e : (0 : Int32).toInt = 0 := rfl; rw [Int32.toInt_neg, Int.bmod_eq_of_le (by have := Int32.toInt_lt x; omega) (by have := Int32.toInt_lt x; omega)]; omega) absI (by unfold itoa at kk; rw [if_neg c_3] at kk; exact (Int32.add_zero _).symm ▸ kk)
theorem itoN_more {f n : Nat} (h : ¬ n < 100) : itoN (f + 1) n = itoN f (n / 100) ++ [nI (48 + n % 100 / 10), nI (48 + n % 100 % 10)] := by
  conv => lhs; unfold itoN
  rw [if_neg (by omega), if_neg h]
theorem ng_le {i : Int32} {n k : Nat} {p : Int32} (hi : i.toInt = -(n : Int)) (hp : p.toInt = -(k : Int)) : i ≤ p ↔ k ≤ n := by
  rw [Int32.le_iff_toInt_le, hi, hp]
  omega
theorem ng_div {i : Int32} {n : Nat} (hi : i.toInt = -(n : Int)) (hn : n ≤ 2 ^ 31) : (i / 100).toInt = -((n / 100 : Nat) : Int) := by
  rw [Int32.toInt_div, hi]
  have e : (100 : Int32).toInt = 100 := rfl
  rw [e, Int.neg_tdiv, Int.tdiv_eq_ediv_of_nonneg (by omega)]
  have e2 : ((n : Int) / 100) = ((n / 100 : Nat) : Int) := by omega
  rw [e2, Int.bmod_eq_of_le (by omega) (by omega)]
theorem nI_ofT {x : Int32} {k : Nat} (h : x.toInt = (k : Int)) (hk : k < 2 ^ 31) : x = nI k := Int32.toInt_inj.mp (h.trans (nI_toInt hk).symm)
theorem ng_rem {i : Int32} {n : Nat} (hi : i.toInt = -(n : Int)) (hn : n ≤ 2 ^ 31) : i / 100 * 100 - i = nI (n % 100) := by
  refine nI_ofT ?_ (by omega)
  rw [Int32.toInt_sub, Int32.toInt_mul, ng_div hi hn, hi]
  have e : (100 : Int32).toInt = 100 := rfl
  have e1 : (-((n / 100 : Nat) : Int) * 100).bmod (2 ^ 32) = -((n / 100 : Nat) : Int) * 100 := Int.bmod_eq_of_le (by omega) (by omega)
  rw [e, e1, Int.bmod_eq_of_le (by omega) (by omega)]
  omega
theorem ng_neg {i : Int32} {n : Nat} (hi : i.toInt = -(n : Int)) (hn : n < 2 ^ 31) : -i = nI n := by
  refine nI_ofT ?_ hn
  rw [Int32.toInt_neg, hi, Int.bmod_eq_of_le (by omega) (by omega)]
  omega
theorem nI_m1 {p : Nat} (h : 1 ≤ p) : nI p + (-1) = nI (p - 1) := by
  rw [← Int32.sub_eq_add_neg]
  exact nI_sub h
theorem digO_at {r : Nat} (h : r < 100) : (iv digO) r = .int (nI (48 + r % 10)) := by
  unfold iv digO
  rw [List.getD_eq_getElem?_getD, List.getElem?_map, List.getElem?_range h]
  rfl
theorem digT_at {r : Nat} (h : r < 100) : (iv digT) r = .int (nI (48 + r / 10)) := by
  unfold iv digT
  rw [List.getD_eq_getElem?_getD, List.getElem?_map, List.getElem?_range h]
  rfl
theorem take_set_hi {l : List Int32} {x : Int32} {i m : Nat} (h : m ≤ i) : (l.set i x).take m = l.take m := by
  apply List.ext_getElem?
  intro j
  rw [List.getElem?_take, List.getElem?_take]
  split
  · rw [List.getElem?_set_ne (by omega)]
  · rfl
theorem take_snoc {l : List Int32} {x : Int32} {p : Nat} (h : l[p]? = some x) : l.take (p + 1) = l.take p ++ [x] := by
  rw [List.take_add_one, h]
  rfl
theorem V_old2 {G : GT} {K : MT} {d c s : Nat} {Q : Option Value → Heap → Prop} {X : String → Heap → Prop} {H : Heap} {L : List (Option Value)} {rest : List Value} {pc : Nat} (k : ra G H (gA G 1002) 2 100 (iv digT) → ra G H (gA G 1003) 2 100 (iv digO) → V G K d c s Q X pc L rest H) : V G K d c s Q X pc L rest H :=
  V_old fun hO hS => k (ra.old hO.2.2.2.2.1.2.2.2.1 hS) (ra.old hO.2.2.2.2.1.2.2.2.2.1 hS)
theorem V_loc5 {G : GT} {K : MT} {d c s : Nat} {Q : Option Value → Heap → Prop} {X : String → Heap → Prop} {H : Heap} {rest : List Value} {pc : Nat} {x0 x1 x2 x3 x4 x6 : Option Value} {x y : Int32} (h : x = y) (k : V G K d c s Q X pc [x0, x1, x2, x3, x4, some (.int y), x6] rest H) : V G K d c s Q X pc [x0, x1, x2, x3, x4, some (.int x), x6] rest H := h ▸ k
theorem itoN_pos (f n : Nat) : 1 ≤ (itoN (f + 1) n).length := by
  unfold itoN
  split
  · exact Nat.le_refl _
  · split
    · exact Nat.le_succ _
    · rw [List.length_append]; exact Nat.le_trans (Nat.le_succ 1) (Nat.le_add_left 2 _)
theorem ng_le9 {i : Int32} {n : Nat} (hi : i.toInt = -(n : Int)) : -9 ≤ i ↔ n < 10 := by
  rw [Int32.le_iff_toInt_le, hi]
  have e : (-9 : Int32).toInt = -9 := rfl
  rw [e]
  omega
theorem ra.put_ne {G : GT} {H H1 : Heap} {a b k n : Nat} {f : Nat → Value} (h : ra G H a k n f) (o : ∀ q : Nat, q ≠ b → H1[q]? = H[q]?) (hn : a ≠ b) : ra G H1 a k n f := h.kept (o a hn)
theorem gc_at {row : List Int32} {p : Nat} {x : Int32} (h1 : 1 ≤ p) (h2 : p ≤ row.length) : (row.set (p - 1) x).take p = row.take (p - 1) ++ [x] := by
  obtain ⟨q, rfl⟩ : ∃ q, p = q + 1 := ⟨p - 1, by omega⟩
  show (row.set q x).take (q + 1) = row.take q ++ [x]
  rw [take_snoc (x := x) (by rw [List.getElem?_set]; simp; omega), take_set_hi (Nat.le_refl _)]
theorem gc_hi {row : List Int32} {p i : Nat} {x : Int32} (h : i < p) : ∀ j, p ≤ j → (row.set i x)[j]? = row[j]? := fun j hj => List.getElem?_set_ne (by omega)
theorem gc_row1 {row : List Int32} {p : Nat} {x : Int32} (h1 : 1 ≤ p) (h2 : p ≤ row.length) : (row.set (p - 1) x).take p = row.take (p - [x].length) ++ [x] ∧ ∀ j, p ≤ j → (row.set (p - 1) x)[j]? = row[j]? := ⟨gc_at h1 h2, gc_hi (by omega)⟩
theorem gc_set2 {row : List Int32} {p : Nat} {a x : Int32} (h1 : 2 ≤ p) (h2 : p ≤ row.length) : ((row.set (p - 1) x).set (p - 2) a).take p = row.take (p - 2) ++ [a, x] := by
  rw [List.set_comm _ _ (by omega : p - 1 ≠ p - 2), gc_at (by omega) (by simp; exact h2)]
  obtain ⟨q, rfl⟩ : ∃ q, p = q + 2 := ⟨p - 2, by omega⟩
  show (row.set q a).take (q + 1) ++ [x] = row.take q ++ [a, x]
  have := gc_at (row := row) (p := q + 1) (x := a) (by omega) (by omega)
  rw [show q + 1 - 1 = q by omega] at this
  rw [this, List.append_assoc]
  rfl
theorem gc_row2 {row : List Int32} {p : Nat} {a x : Int32} (h1 : 2 ≤ p) (h2 : p ≤ row.length) : ((row.set (p - 1) x).set (p - 2) a).take p = row.take (p - [a, x].length) ++ [a, x] ∧ ∀ j, p ≤ j → ((row.set (p - 1) x).set (p - 2) a)[j]? = row[j]? := ⟨gc_set2 h1 h2, fun j hj => (gc_hi (by omega) j hj).trans (gc_hi (by omega) j hj)⟩
theorem gc_row1m {row : List Int32} {p : Nat} {x : Int32} (h1 : 2 ≤ p) (h2 : p ≤ row.length) : ((row.set (p - 1) x).set (p - 2) 45).take p = row.take (p - (45 :: [x]).length) ++ (45 :: [x]) ∧ ∀ j, p ≤ j → ((row.set (p - 1) x).set (p - 2) 45)[j]? = row[j]? := gc_row2 h1 h2
theorem gc_row2m {row : List Int32} {p : Nat} {a x : Int32} (h1 : 3 ≤ p) (h2 : p ≤ row.length) : (((row.set (p - 1) x).set (p - 2) a).set (p - 3) 45).take p = row.take (p - (45 :: [a, x]).length) ++ (45 :: [a, x]) ∧ ∀ j, p ≤ j → (((row.set (p - 1) x).set (p - 2) a).set (p - 3) 45)[j]? = row[j]? := by
  refine ⟨?_, fun j hj => (gc_hi (by omega) j hj).trans ((gc_hi (by omega) j hj).trans (gc_hi (by omega) j hj))⟩
  rw [List.set_comm _ _ (by omega : p - 2 ≠ p - 3), List.set_comm _ _ (by omega : p - 1 ≠ p - 3), gc_set2 (by omega) (by simp; exact h2)]
  obtain ⟨q, rfl⟩ : ∃ q, p = q + 3 := ⟨p - 3, by omega⟩
  show (row.set q 45).take (q + 1) ++ [a, x] = row.take q ++ (45 :: [a, x])
  have := gc_at (row := row) (p := q + 1) (x := 45) (by omega) (by omega)
  rw [show q + 1 - 1 = q by omega] at this
  rw [this, List.append_assoc]
  rfl
theorem gc_if {sg : Int32} {l m : List Int32} : (if sg = 0 then l ++ m else 45 :: (l ++ m)) = (if sg = 0 then l else 45 :: l) ++ m := by
  split
  · rfl
  · rfl
theorem gc_rowL {row r1 txt : List Int32} {p : Nat} {a x : Int32} (h0 : 2 ≤ p) (h1 : p ≤ row.length) (hl : r1.length = row.length) (h2 : r1.take (p - 2) = ((row.set (p - 1) x).set (p - 2) a).take (p - 2 - txt.length) ++ txt) (h3 : ∀ j, p - 2 ≤ j → r1[j]? = ((row.set (p - 1) x).set (p - 2) a)[j]?) (ht : txt.length ≤ p - 2) :
    r1.take p = row.take (p - (txt ++ [a, x]).length) ++ (txt ++ [a, x]) ∧ ∀ j, p ≤ j → r1[j]? = row[j]? := by
  refine ⟨?_, fun j hj => (h3 j (by omega)).trans ((gc_hi (by omega) j hj).trans (gc_hi (by omega) j hj))⟩
  obtain ⟨q, rfl⟩ : ∃ q, p = q + 2 := ⟨p - 2, by omega⟩
  have e1 : r1[q]? = some a := by rw [h3 q (by omega), show q + 2 - 2 = q by omega, List.getElem?_set_self (by rw [List.length_set]; omega)]
  have e2 : r1[q + 1]? = some x := by rw [h3 (q + 1) (by omega), show q + 2 - 2 = q by omega, show q + 2 - 1 = q + 1 by omega, List.getElem?_set_ne (by omega), List.getElem?_set_self (by omega)]
  rw [take_snoc e2, take_snoc e1]
  have h4 : r1.take q = row.take (q - txt.length) ++ txt := by
    have h5 := h2
    rw [show q + 2 - 2 = q by omega, show q + 2 - 1 = q + 1 by omega] at h5
    rw [h5, take_set_hi (show q - txt.length ≤ q by omega), take_set_hi (show q - txt.length ≤ q + 1 by omega)]
  rw [h4, List.length_append, show q + 2 - (txt.length + [a, x].length) = q - txt.length by simp]
  simp
set_option maxHeartbeats 1000000 in
set_option maxRecDepth 100000 in
theorem c_getCh0 {G : GT} {g : Nat → Nat} {X : String → Heap → Prop} {t b : Nat} {j0 sg : Int32} (ht : t ≠ 0) (hTb : gA G 1002 ≠ b) (hOb : gA G 1003 ≠ b) {F : Heap → Prop} : ∀ (f n : Nat) (i : Int32) (p : Nat) (row : List Int32) (H : Heap), i.toInt = -(n : Int) → n ≤ 2 ^ 31 → n < 10 ^ (2 * f) → 1 ≤ f ∨ 1 ≤ n → (itoN f n).length + (if sg = 0 then 0 else 1) ≤ p → p ≤ row.length → Ia G H g t b 2 row → asc row → (∀ (H1 : Heap) (r1 : List Int32), Ia G H1 g t b 2 r1 → r1.length = row.length → r1.take p = row.take (p - ((if sg = 0 then itoN f n else 45 :: itoN f n)).length) ++ (if sg = 0 then itoN f n else 45 :: itoN f n) → (∀ j, p ≤ j → r1[j]? = row[j]?) → asc r1 → (∀ q : Nat, q ≠ b → H1[q]? = H[q]?) → F H1) → V G kJ6_getChars_ba4f3 0 0 0 (qi fun _ H1 => F H1) X 22 [some (.int i), some (.int j0), some (.ref b), none, none, some (.int (nI p)), some (.int sg)] [] H := by
  intro f
  induction f with
  | zero => intro n i p row H hi hn hf h1; simp only [Nat.mul_zero, Nat.pow_zero] at hf; omega
  | succ f ih =>
    intro n i p row H hi hn hf h1 hp hpl hb hac kk
    refine V_old2 fun hT hO => ?_
    have hp0 := itoN_pos f n
    have hpp : 1 ≤ p := by omega
    have hr20 := hb.1.2
    refine V_iload_0 dJ6_getChars_ba4f3_22 ?_
    refine V_bipush (v := (-100)) dJ6_getChars_ba4f3_23 (by decide) ?_
    refine V_icmp_gt (tgt := 72) dJ6_getChars_ba4f3_25 (by decide) (fun c_25 => ?_) (fun c_25 => ?_)
    · have hn100 : n < 100 := Nat.lt_of_not_le (mt (ng_le (k := 100) (p := -100) hi (by decide)).mpr (Int32.not_le.mpr c_25))
      refine V_aload_2 dJ6_getChars_ba4f3_72 ?_
      refine V_iinc_5 (v := -1) dJ6_getChars_ba4f3_73 rfl rfl ?_
      refine V_loc5 (y := nI (p - 1)) ((nI_m1 (by omega)).trans (congrArg nI (by omega))) ?_
      refine V_iload_5 dJ6_getChars_ba4f3_76 ?_
      refine V_gets (i := 3) (v := .ref (gA G 1003)) dJ6_getChars_ba4f3_78 rfl fs_J6_83 rfl ?_
      refine V_iload_0 dJ6_getChars_ba4f3_81 ?_
      refine V_ineg dJ6_getChars_ba4f3_82 ?_
      refine V_int (y := nI n) (ng_neg hi (by omega)) ?_
      refine V_bald (v := .int (nI (48 + n % 10))) dJ6_getChars_ba4f3_83 hO (vp_in_nI hn100 (by decide)) (by rw [nI_clamp (by omega)]; exact digO_at hn100) ?_
      have hd1 := asc_dig (k := n % 10) (by omega)
      have hra := hac
      refine V_bas2 dJ6_getChars_ba4f3_84 hb ht (vp_in_nI (by (try simp only [List.length_set]); omega) (by (try simp only [List.length_set]); omega)) (nb_a hd1) fun H1 hb e1 o1 => ?_
      rw [nI_clamp (by omega)] at hb
      replace hac := asc_set (j := p - 1) hac hd1
      have hO1 := hO.put_ne o1 hOb
      have hT1 := hT.put_ne o1 hTb
      refine V_iload_0 dJ6_getChars_ba4f3_85 ?_
      refine V_bipush (v := (-9)) dJ6_getChars_ba4f3_86 (by decide) ?_
      refine V_icmp_ge (tgt := 104) dJ6_getChars_ba4f3_88 (by decide) (fun c_88 => ?_) (fun c_88 => ?_)
      · have hn10 : n < 10 := Nat.lt_of_not_le (mt (ng_le (k := 10) (p := -10) hi (by decide)).mpr (fun h => absurd (Int32.le_trans c_88 h) (by decide)))
        replace hp : 1 + (if sg = 0 then 0 else 1) ≤ p := by rw [show itoN (f + 1) n = [nI (48 + n % 10)] by unfold itoN; rw [if_pos hn10]] at hp; exact hp
        refine V_iload_6 dJ6_getChars_ba4f3_104 ?_
        refine V_if_eq (tgt := 118) dJ6_getChars_ba4f3_106 (by decide) (fun c_106 => ?_) (fun c_106 => ?_)
        · refine V_iload_5 dJ6_getChars_ba4f3_118 ?_
          refine V_reti dJ6_getChars_ba4f3_120 rfl rfl ?_
          have es : sg = 0 := c_106
          have et : itoN (f + 1) n = [nI (48 + n % 10)] := by unfold itoN; rw [if_pos hn10]
          have hk := gc_row1 (row := row) (p := p) (x := nI (48 + n % 10)) (by omega) hpl
          refine kk H1 (row.set (p - 1) (nI (48 + n % 10))) hb (by simp only [List.length_set]) (by rw [if_pos es, et]; exact hk.1) hk.2 hac o1
        · rw [if_neg c_106] at hp
          refine V_aload_2 dJ6_getChars_ba4f3_109 ?_
          refine V_iinc_5 (v := -1) dJ6_getChars_ba4f3_110 rfl rfl ?_
          refine V_loc5 (y := nI (p - 2)) ((nI_m1 (by omega)).trans (congrArg nI (by omega))) ?_
          refine V_iload_5 dJ6_getChars_ba4f3_113 ?_
          refine V_bipush (v := 45) dJ6_getChars_ba4f3_115 (by decide) ?_
          refine V_bas2 dJ6_getChars_ba4f3_117 hb ht (vp_in_nI (by (try simp only [List.length_set]); omega) (by (try simp only [List.length_set]); omega)) (nb_a (by decide)) fun H3 hb e3 o3 => ?_
          rw [nI_clamp (by omega)] at hb
          replace hac := asc_set (x := 45) (j := p - 2) hac (by decide)
          refine V_iload_5 dJ6_getChars_ba4f3_118 ?_
          refine V_reti dJ6_getChars_ba4f3_120 rfl rfl ?_
          have et : itoN (f + 1) n = [nI (48 + n % 10)] := by unfold itoN; rw [if_pos hn10]
          have hk := gc_row1m (row := row) (p := p) (x := nI (48 + n % 10)) (by omega) hpl
          refine kk H3 ((row.set (p - 1) (nI (48 + n % 10))).set (p - 2) 45) hb (by simp only [List.length_set]) (by rw [if_neg c_106, et]; exact hk.1) hk.2 hac (fun q hq => (o3 q hq).trans (o1 q hq))
      · have hn10 : 10 ≤ n := by rcases Nat.lt_or_ge n 10 with z | z; exact absurd ((ng_le9 hi).mpr z) c_88; exact z
        replace hp : 2 + (if sg = 0 then 0 else 1) ≤ p := by rw [show itoN (f + 1) n = [nI (48 + n / 10), nI (48 + n % 10)] by unfold itoN; rw [if_neg (by omega), if_pos hn100]] at hp; exact hp
        refine V_aload_2 dJ6_getChars_ba4f3_91 ?_
        refine V_iinc_5 (v := -1) dJ6_getChars_ba4f3_92 rfl rfl ?_
        refine V_loc5 (y := nI (p - 2)) ((nI_m1 (by omega)).trans (congrArg nI (by omega))) ?_
        refine V_iload_5 dJ6_getChars_ba4f3_95 ?_
        refine V_gets (i := 2) (v := .ref (gA G 1002)) dJ6_getChars_ba4f3_97 rfl fs_J6_87 rfl ?_
        refine V_iload_0 dJ6_getChars_ba4f3_100 ?_
        refine V_ineg dJ6_getChars_ba4f3_101 ?_
        refine V_int (y := nI n) (ng_neg hi (by omega)) ?_
        refine V_bald (v := .int (nI (48 + n / 10))) dJ6_getChars_ba4f3_102 hT1 (vp_in_nI hn100 (by decide)) (by rw [nI_clamp (by omega)]; exact digT_at hn100) ?_
        have hd2 := asc_dig (k := n / 10) (by omega)
        refine V_bas2 dJ6_getChars_ba4f3_103 hb ht (vp_in_nI (by (try simp only [List.length_set]); omega) (by (try simp only [List.length_set]); omega)) (nb_a hd2) fun H2 hb e2 o2 => ?_
        rw [nI_clamp (by omega)] at hb
        replace hac := asc_set (j := p - 2) hac hd2
        refine V_iload_6 dJ6_getChars_ba4f3_104 ?_
        refine V_if_eq (tgt := 118) dJ6_getChars_ba4f3_106 (by decide) (fun c_106 => ?_) (fun c_106 => ?_)
        · refine V_iload_5 dJ6_getChars_ba4f3_118 ?_
          refine V_reti dJ6_getChars_ba4f3_120 rfl rfl ?_
          have es : sg = 0 := c_106
          have et : itoN (f + 1) n = [nI (48 + n / 10), nI (48 + n % 10)] := by unfold itoN; rw [if_neg (by omega), if_pos hn100]
          have hk := gc_row2 (row := row) (p := p) (a := nI (48 + n / 10)) (x := nI (48 + n % 10)) (by omega) hpl
          refine kk H2 ((row.set (p - 1) (nI (48 + n % 10))).set (p - 2) (nI (48 + n / 10))) hb (by simp only [List.length_set]) (by rw [if_pos es, et]; exact hk.1) hk.2 hac (fun q hq => (o2 q hq).trans (o1 q hq))
        · rw [if_neg c_106] at hp
          refine V_aload_2 dJ6_getChars_ba4f3_109 ?_
          refine V_iinc_5 (v := -1) dJ6_getChars_ba4f3_110 rfl rfl ?_
          refine V_loc5 (y := nI (p - 3)) ((nI_m1 (by omega)).trans (congrArg nI (by omega))) ?_
          refine V_iload_5 dJ6_getChars_ba4f3_113 ?_
          refine V_bipush (v := 45) dJ6_getChars_ba4f3_115 (by decide) ?_
          refine V_bas2 dJ6_getChars_ba4f3_117 hb ht (vp_in_nI (by (try simp only [List.length_set]); omega) (by (try simp only [List.length_set]); omega)) (nb_a (by decide)) fun H3 hb e3 o3 => ?_
          rw [nI_clamp (by omega)] at hb
          replace hac := asc_set (x := 45) (j := p - 3) hac (by decide)
          refine V_iload_5 dJ6_getChars_ba4f3_118 ?_
          refine V_reti dJ6_getChars_ba4f3_120 rfl rfl ?_
          have et : itoN (f + 1) n = [nI (48 + n / 10), nI (48 + n % 10)] := by unfold itoN; rw [if_neg (by omega), if_pos hn100]
          have hk := gc_row2m (row := row) (p := p) (a := nI (48 + n / 10)) (x := nI (48 + n % 10)) (by omega) hpl
          refine kk H3 (((row.set (p - 1) (nI (48 + n % 10))).set (p - 2) (nI (48 + n / 10))).set (p - 3) 45) hb (by simp only [List.length_set]) (by rw [if_neg c_106, et]; exact hk.1) hk.2 hac (fun q hq => (o3 q hq).trans ((o2 q hq).trans (o1 q hq)))
    · have hn100 : 100 ≤ n := (ng_le hi (by decide)).mp (Int32.not_lt.mp c_25)
      have et := itoN_more (f := f) (show ¬ n < 100 by omega)
      rw [et, List.length_append] at hp
      replace hp : (itoN f (n / 100)).length + 2 + (if sg = 0 then 0 else 1) ≤ p := hp
      refine V_iload_0 dJ6_getChars_ba4f3_28 ?_
      refine V_bipush (v := 100) dJ6_getChars_ba4f3_29 (by decide) ?_
      refine V_idiv dJ6_getChars_ba4f3_31 (by decide) ?_
      refine V_istore_3 dJ6_getChars_ba4f3_32 rfl ?_
      refine V_iload_3 dJ6_getChars_ba4f3_33 ?_
      refine V_bipush (v := 100) dJ6_getChars_ba4f3_34 (by decide) ?_
      refine V_imul dJ6_getChars_ba4f3_36 ?_
      refine V_iload_0 dJ6_getChars_ba4f3_37 ?_
      refine V_isub dJ6_getChars_ba4f3_38 ?_
      refine V_int (y := nI (n % 100)) (ng_rem hi hn) ?_
      refine V_istore_4 dJ6_getChars_ba4f3_39 rfl ?_
      refine V_iload_3 dJ6_getChars_ba4f3_41 ?_
      refine V_istore_0 dJ6_getChars_ba4f3_42 ?_
      refine V_aload_2 dJ6_getChars_ba4f3_43 ?_
      refine V_iinc_5 (v := -1) dJ6_getChars_ba4f3_44 rfl rfl ?_
      refine V_loc5 (y := nI (p - 1)) ((nI_m1 (by omega)).trans (congrArg nI (by omega))) ?_
      refine V_iload_5 dJ6_getChars_ba4f3_47 ?_
      refine V_gets (i := 3) (v := .ref (gA G 1003)) dJ6_getChars_ba4f3_49 rfl fs_J6_83 rfl ?_
      refine V_iload_4 dJ6_getChars_ba4f3_52 ?_
      refine V_bald (v := .int (nI (48 + n % 100 % 10))) dJ6_getChars_ba4f3_54 hO (vp_in_nI (show n % 100 < 100 by omega) (by decide)) (by rw [nI_clamp (by omega)]; exact digO_at (show n % 100 < 100 by omega)) ?_
      have hd1 := asc_dig (k := n % 100 % 10) (by omega)
      refine V_bas2 dJ6_getChars_ba4f3_55 hb ht (vp_in_nI (by (try simp only [List.length_set]); omega) (by (try simp only [List.length_set]); omega)) (nb_a hd1) fun H1 hb e1 o1 => ?_
      rw [nI_clamp (by omega)] at hb
      replace hac := asc_set (j := p - 1) hac hd1
      have hT1 := hT.put_ne o1 hTb
      refine V_aload_2 dJ6_getChars_ba4f3_56 ?_
      refine V_iinc_5 (v := -1) dJ6_getChars_ba4f3_57 rfl rfl ?_
      refine V_loc5 (y := nI (p - 2)) ((nI_m1 (by omega)).trans (congrArg nI (by omega))) ?_
      refine V_iload_5 dJ6_getChars_ba4f3_60 ?_
      refine V_gets (i := 2) (v := .ref (gA G 1002)) dJ6_getChars_ba4f3_62 rfl fs_J6_87 rfl ?_
      refine V_iload_4 dJ6_getChars_ba4f3_65 ?_
      refine V_bald (v := .int (nI (48 + n % 100 / 10))) dJ6_getChars_ba4f3_67 hT1 (vp_in_nI (show n % 100 < 100 by omega) (by decide)) (by rw [nI_clamp (by omega)]; exact digT_at (show n % 100 < 100 by omega)) ?_
      have hd2 := asc_dig (k := n % 100 / 10) (by omega)
      refine V_bas2 dJ6_getChars_ba4f3_68 hb ht (vp_in_nI (by (try simp only [List.length_set]); omega) (by (try simp only [List.length_set]); omega)) (nb_a hd2) fun H2 hb e2 o2 => ?_
      rw [nI_clamp (by omega)] at hb
      replace hac := asc_set (j := p - 2) hac hd2
      refine V_goto (tgt := 22) dJ6_getChars_ba4f3_69 (by decide) ?_
      refine V_drop 3 rfl (V_drop 4 rfl ?_)
      refine ih (n / 100) (i / 100) (p - 2) _ H2 (ng_div hi hn) (by omega) (by rw [Nat.div_lt_iff_lt_mul (by decide)]; rw [show 2 * (f + 1) = 2 * f + 2 by omega, Nat.pow_add] at hf; exact hf) (Or.inr (by omega)) (by omega) (by simp only [List.length_set]; omega) hb hac fun H3 r1 hb3 h1 h2 h3 h4 o3 => ?_
      simp only [List.length_set] at h1
      have hk := gc_rowL (row := row) (p := p) (a := nI (48 + n % 100 / 10)) (x := nI (48 + n % 100 % 10)) (txt := if sg = 0 then itoN f (n / 100) else 45 :: itoN f (n / 100)) (r1 := r1) (by split at hp <;> omega) hpl h1 h2 h3 (by split <;> simp_all <;> omega)
      refine kk H3 r1 hb3 h1 (by rw [et, gc_if]; exact hk.1) hk.2 h4 (fun q hq => (o3 q hq).trans ((o2 q hq).trans (o1 q hq)))

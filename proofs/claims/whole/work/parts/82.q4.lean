/-! firstAt, waited, began, lived -/
theorem rdq5 {h : AM} {v w j : Int} (hj : j ≠ 0) (hj2 : j ≠ 1) : mrd (mwr (mwr (mwr h 0 11 v) 235 1 0) 235 0 w) 235 j = mrd h 235 j := by rw [rdn2 hj, rdn2 hj2, rdn1 (by decide)]
theorem op_firstAt : Op_firstAt Inv := by
  intro d h a0 hI i0
  obtain ⟨s, e8, hs, k0, kM, cs, ds⟩ := ctx hI
  have ds' := ds
  have ks := cs.1
  have r1 := cs.2.2.1
  have r2 := cs.2.2.2.1
  have r3 := cs.2.2.2.2.1
  have kl := cs.2.2.2.2.2.2.2.2.2.2.2.1
  have kc := cs.2.2.2.2.2.2.2.2.2.2.2.2
  obtain ⟨d5, d6, d7, d8, dl, dc⟩ := ds
  have hm : ∀ v, CM (mwr (mwr (mwr h 0 11 v) 235 1 0) 235 0 0) := fun v => CM_q (CM_of hI)
  obtain ⟨f1, f2⟩ : RFst (mrd h) := hI.2.1.2.2.2.2.2.2.1
  have x6 : mrd h 0 6 = 148 := rf_0_6 hI.2.1.1
  have x61 : mrd h 148 1 = 150 := rf_148_1 hI.2.1.1
  have k148 := kn_148 hI.1
  have m31 : mrd h 235 31 = 247 := rf_235_31 hI.2.1.1
  have wl : w32 (mrd h 235 32 - 1) = mrd h 235 32 - 1 := w32_id (by omega) (by omega)
  by_cases hc : 0 ≤ a0 ∧ a0 < mrd h 235 32
  · have hc' : 0 ≤ a0 ∧ a0 ≤ mrd h 235 32 - 1 := by omega
    have i1 : inA h 150 16 a0 := ⟨kn_150 hI.1, hc.1, by rw [ln_150 hI.1]; omega⟩
    have i2 : inA h 247 16 a0 := ⟨kn_247 hI.1, hc.1, by rw [ln_247 hI.1]; omega⟩
    have cn : ¬ a0 < 0 := by omega
    have e := f2 a0 hc.1 (by omega)
    refine opq hI (mrd h 247 a0) 0 ?_ ?_
    · simp only [e143_0, e143_1, e143_4, e143_5, e143_6, e143_9, e143_12, e143_15, e143_16, e143_18, e143_21, e143_22, e143_23, e143_24, e143_27, e143_30, e143_31, e143_32, e143_35, psh0, psh1, psh3, true_or, or_true, eq_self, Option.bind_some, List.length_nil, List.length_cons, Nat.reduceAdd, Nat.reduceLeDiff, Nat.zero_le, ↓reduceIte, Int.reduceLT, Int.reduceEq, Int.reduceLE, Int.reduceNeg, Int.reduceAdd, Int.reduceMul, Int.reduceSub, ne_eq, not_true_eq_false, not_false_eq_true, and_true, true_and, and_false, false_and, c3lt, c3gt, c3eq, Bool.false_eq_true, isK_wr, inA_wr, inR_wr, k0, x6, x61, k148, f1, hc.2, cn, i1, e, x_answer]
    · simp only [e295_0, e295_1, e295_2, e295_5, e295_6, e295_7, e295_10, e295_11, e295_12, e295_13, e295_14, e295_17, e295_18, e295_19, e295_20, e295_23, e295_26, e295_27, e295_30, e295_31, e295_32, e295_35, e295_36, e295_38, e295_41, psh0, psh1, psh3, true_or, or_true, eq_self, Option.bind_some, List.length_nil, List.length_cons, Nat.reduceAdd, Nat.reduceLeDiff, Nat.zero_le, ↓reduceIte, Int.reduceLT, Int.reduceEq, Int.reduceLE, Int.reduceNeg, Int.reduceAdd, Int.reduceMul, Int.reduceSub, ne_eq, not_true_eq_false, not_false_eq_true, and_true, true_and, and_false, false_and, c3lt, c3gt, c3eq, Bool.false_eq_true, isK_wr, inA_wr, inR_wr, kM, m_isIn, rdq, rdq5, wl, hc', m31, i2]
  · have hc' : ¬ (0 ≤ a0 ∧ a0 ≤ mrd h 235 32 - 1) := by omega
    refine opq hI (-1) 8 ?_ ?_
    · by_cases cn : a0 < 0
      · simp only [e143_0, e143_1, e143_4, e143_5, e143_6, e143_9, e143_12, e143_15, e143_16, e143_18, e143_21, e143_22, e143_23, e143_24, e143_27, e143_30, e143_31, e143_32, e143_35, psh0, psh1, psh3, true_or, or_true, eq_self, Option.bind_some, List.length_nil, List.length_cons, Nat.reduceAdd, Nat.reduceLeDiff, Nat.zero_le, ↓reduceIte, Int.reduceLT, Int.reduceEq, Int.reduceLE, Int.reduceNeg, Int.reduceAdd, Int.reduceMul, Int.reduceSub, ne_eq, not_true_eq_false, not_false_eq_true, and_true, true_and, and_false, false_and, c3lt, c3gt, c3eq, Bool.false_eq_true, isK_wr, inA_wr, inR_wr, k0, cn, x_refuse]
      · have cn2 : ¬ a0 < mrd h 235 32 := by omega
        simp only [e143_0, e143_1, e143_4, e143_5, e143_6, e143_9, e143_12, e143_15, e143_16, e143_18, e143_21, e143_22, e143_23, e143_24, e143_27, e143_30, e143_31, e143_32, e143_35, psh0, psh1, psh3, true_or, or_true, eq_self, Option.bind_some, List.length_nil, List.length_cons, Nat.reduceAdd, Nat.reduceLeDiff, Nat.zero_le, ↓reduceIte, Int.reduceLT, Int.reduceEq, Int.reduceLE, Int.reduceNeg, Int.reduceAdd, Int.reduceMul, Int.reduceSub, ne_eq, not_true_eq_false, not_false_eq_true, and_true, true_and, and_false, false_and, c3lt, c3gt, c3eq, Bool.false_eq_true, isK_wr, inA_wr, inR_wr, k0, x6, k148, f1, cn, cn2, x_refuse]
    · simp only [e295_0, e295_1, e295_2, e295_5, e295_6, e295_7, e295_10, e295_11, e295_12, e295_13, e295_14, e295_17, e295_18, e295_19, e295_20, e295_23, e295_26, e295_27, e295_30, e295_31, e295_32, e295_35, e295_36, e295_38, e295_41, psh0, psh1, psh3, true_or, or_true, eq_self, Option.bind_some, List.length_nil, List.length_cons, Nat.reduceAdd, Nat.reduceLeDiff, Nat.zero_le, ↓reduceIte, Int.reduceLT, Int.reduceEq, Int.reduceLE, Int.reduceNeg, Int.reduceAdd, Int.reduceMul, Int.reduceSub, ne_eq, not_true_eq_false, not_false_eq_true, and_true, true_and, and_false, false_and, c3lt, c3gt, c3eq, Bool.false_eq_true, isK_wr, inA_wr, inR_wr, kM, m_isIn, rdq, rdq5, wl, hc', m_refuse, wrwr]
theorem x_planHasChild {d : Nat} {h : AM} {c : Int} (hk : isK h 152 4) : EV d 29 0 [(2, 152), (0, c)] [] h = some ((0, if 0 ≤ c ∧ c < mrd h 152 6 then 1 else 0), h) := by
  by_cases h0 : c < 0
  · have : ¬ (0 ≤ c ∧ c < mrd h 152 6) := by omega
    simp only [e29_0, e29_1, e29_4, e29_5, e29_6, e29_9, e29_12, e29_13, e29_16, e29_17, h0, this, psh0, psh1, psh3, true_or, or_true, eq_self, Option.bind_some, List.length_nil, List.length_cons, Nat.reduceAdd, Nat.reduceLeDiff, Nat.zero_le, ↓reduceIte, Int.reduceLT, Int.reduceEq, Int.reduceLE, Int.reduceNeg, Int.reduceAdd, Int.reduceMul, Int.reduceSub, ne_eq, not_true_eq_false, not_false_eq_true, and_true, true_and, and_false, false_and, c3lt, c3gt, c3eq, Bool.false_eq_true, isK_wr, inA_wr, inR_wr, hk]
  · by_cases h1 : c < mrd h 152 6
    · have : (0 ≤ c ∧ c < mrd h 152 6) := by omega
      simp only [e29_0, e29_1, e29_4, e29_5, e29_6, e29_9, e29_12, e29_13, e29_16, e29_17, h0, h1, this, psh0, psh1, psh3, true_or, or_true, eq_self, Option.bind_some, List.length_nil, List.length_cons, Nat.reduceAdd, Nat.reduceLeDiff, Nat.zero_le, ↓reduceIte, Int.reduceLT, Int.reduceEq, Int.reduceLE, Int.reduceNeg, Int.reduceAdd, Int.reduceMul, Int.reduceSub, ne_eq, not_true_eq_false, not_false_eq_true, and_true, true_and, and_false, false_and, c3lt, c3gt, c3eq, Bool.false_eq_true, isK_wr, inA_wr, inR_wr, hk]
    · simp only [e29_0, e29_1, e29_4, e29_5, e29_6, e29_9, e29_12, e29_13, e29_16, e29_17, h0, h1, psh0, psh1, psh3, true_or, or_true, eq_self, Option.bind_some, List.length_nil, List.length_cons, Nat.reduceAdd, Nat.reduceLeDiff, Nat.zero_le, ↓reduceIte, Int.reduceLT, Int.reduceEq, Int.reduceLE, Int.reduceNeg, Int.reduceAdd, Int.reduceMul, Int.reduceSub, ne_eq, not_true_eq_false, not_false_eq_true, and_true, true_and, and_false, false_and, c3lt, c3gt, c3eq, Bool.false_eq_true, isK_wr, inA_wr, inR_wr, hk]
theorem op_waited : Op_waited Inv := by
  intro d h a0 hI i0
  obtain ⟨s, e8, hs, k0, kM, cs, ds⟩ := ctx hI
  have ds' := ds
  have ks := cs.1
  have r1 := cs.2.2.1
  have r2 := cs.2.2.2.1
  have r3 := cs.2.2.2.2.1
  have kl := cs.2.2.2.2.2.2.2.2.2.2.2.1
  have kc := cs.2.2.2.2.2.2.2.2.2.2.2.2
  obtain ⟨d5, d6, d7, d8, dl, dc⟩ := ds
  have hm : ∀ v, CM (mwr (mwr (mwr h 0 11 v) 235 1 0) 235 0 0) := fun v => CM_q (CM_of hI)
  obtain ⟨f1, f2⟩ : RPln (mrd h) := hI.2.1.2.2.2.2.1
  have x7 : mrd h 0 7 = 152 := rf_0_7 hI.2.1.1
  have x71 : mrd h 152 1 = 154 := rf_152_1 hI.2.1.1
  have k152 := kn_152 hI.1
  have m38 : mrd h 235 38 = 253 := rf_235_38 hI.2.1.1
  have hx := x_hasChild_q (d := d + 59) (k := a0) ks d7.1
  have hl := fun v => m_isChildAt_q (d := d + 58) (k := a0) hI v
  have hp := x_planHasChild (d := d + 59) (c := a0) k152
  by_cases hc : 0 ≤ a0 ∧ a0 < mrd h 240 2
  · simp only [hc, and_self, if_true] at hl hx
    by_cases cp : a0 < mrd h 152 6
    · have cm : a0 < mrd h 235 42 := by omega
      rw [if_pos ⟨hc.1, cp⟩] at hp
      have i1 : inA h 154 16 a0 := ⟨kn_154 hI.1, hc.1, by rw [ln_154 hI.1]; omega⟩
      have i2 : inA h 253 16 a0 := ⟨kn_253 hI.1, hc.1, by rw [ln_253 hI.1]; omega⟩
      have e := (f2 a0 hc.1 cp).1
      refine opq hI (mrd h 253 a0) 0 ?_ ?_
      · simp only [e151_0, e151_1, e151_4, e151_5, e151_8, e151_11, e151_12, e151_13, e151_16, e151_17, e151_18, e151_21, e151_22, e151_25, e151_28, e151_29, e151_30, e151_33, e151_36, e151_37, e151_38, e151_41, e151_44, e151_45, e151_47, e151_50, psh0, psh1, psh3, true_or, or_true, eq_self, Option.bind_some, List.length_nil, List.length_cons, Nat.reduceAdd, Nat.reduceLeDiff, Nat.zero_le, ↓reduceIte, Int.reduceLT, Int.reduceEq, Int.reduceLE, Int.reduceNeg, Int.reduceAdd, Int.reduceMul, Int.reduceSub, ne_eq, not_true_eq_false, not_false_eq_true, and_true, true_and, and_false, false_and, c3lt, c3gt, c3eq, Bool.false_eq_true, isK_wr, inA_wr, inR_wr, k0, e8, ks, x7, x71, k152, hx, hp, i1, e, x_answer]
      · simp only [e310_0, e310_1, e310_2, e310_5, e310_6, e310_7, e310_10, e310_11, e310_12, e310_15, e310_18, e310_19, e310_20, e310_23, e310_24, e310_25, e310_26, e310_29, e310_32, e310_33, e310_36, e310_37, e310_38, e310_41, e310_42, e310_44, e310_47, psh0, psh1, psh3, true_or, or_true, eq_self, Option.bind_some, List.length_nil, List.length_cons, Nat.reduceAdd, Nat.reduceLeDiff, Nat.zero_le, ↓reduceIte, Int.reduceLT, Int.reduceEq, Int.reduceLE, Int.reduceNeg, Int.reduceAdd, Int.reduceMul, Int.reduceSub, ne_eq, not_true_eq_false, not_false_eq_true, and_true, true_and, and_false, false_and, c3lt, c3gt, c3eq, Bool.false_eq_true, isK_wr, inA_wr, inR_wr, kM, hl, rdq, rdq5, cm, m38, i2]
    · have cm : ¬ a0 < mrd h 235 42 := by omega
      rw [if_neg (by omega)] at hp
      refine opq hI (-1) 8 ?_ ?_
      · simp only [e151_0, e151_1, e151_4, e151_5, e151_8, e151_11, e151_12, e151_13, e151_16, e151_17, e151_18, e151_21, e151_22, e151_25, e151_28, e151_29, e151_30, e151_33, e151_36, e151_37, e151_38, e151_41, e151_44, e151_45, e151_47, e151_50, psh0, psh1, psh3, true_or, or_true, eq_self, Option.bind_some, List.length_nil, List.length_cons, Nat.reduceAdd, Nat.reduceLeDiff, Nat.zero_le, ↓reduceIte, Int.reduceLT, Int.reduceEq, Int.reduceLE, Int.reduceNeg, Int.reduceAdd, Int.reduceMul, Int.reduceSub, ne_eq, not_true_eq_false, not_false_eq_true, and_true, true_and, and_false, false_and, c3lt, c3gt, c3eq, Bool.false_eq_true, isK_wr, inA_wr, inR_wr, k0, e8, ks, x7, k152, hx, hp, x_refuse]
      · simp only [e310_0, e310_1, e310_2, e310_5, e310_6, e310_7, e310_10, e310_11, e310_12, e310_15, e310_18, e310_19, e310_20, e310_23, e310_24, e310_25, e310_26, e310_29, e310_32, e310_33, e310_36, e310_37, e310_38, e310_41, e310_42, e310_44, e310_47, psh0, psh1, psh3, true_or, or_true, eq_self, Option.bind_some, List.length_nil, List.length_cons, Nat.reduceAdd, Nat.reduceLeDiff, Nat.zero_le, ↓reduceIte, Int.reduceLT, Int.reduceEq, Int.reduceLE, Int.reduceNeg, Int.reduceAdd, Int.reduceMul, Int.reduceSub, ne_eq, not_true_eq_false, not_false_eq_true, and_true, true_and, and_false, false_and, c3lt, c3gt, c3eq, Bool.false_eq_true, isK_wr, inA_wr, inR_wr, kM, hl, rdq, rdq5, cm, m_refuse, wrwr]
  · simp only [hc, if_false] at hl hx
    refine opq hI (-1) 2 ?_ ?_
    · simp only [e151_0, e151_1, e151_4, e151_5, e151_8, e151_11, e151_12, e151_13, e151_16, e151_17, e151_18, e151_21, e151_22, e151_25, e151_28, e151_29, e151_30, e151_33, e151_36, e151_37, e151_38, e151_41, e151_44, e151_45, e151_47, e151_50, psh0, psh1, psh3, true_or, or_true, eq_self, Option.bind_some, List.length_nil, List.length_cons, Nat.reduceAdd, Nat.reduceLeDiff, Nat.zero_le, ↓reduceIte, Int.reduceLT, Int.reduceEq, Int.reduceLE, Int.reduceNeg, Int.reduceAdd, Int.reduceMul, Int.reduceSub, ne_eq, not_true_eq_false, not_false_eq_true, and_true, true_and, and_false, false_and, c3lt, c3gt, c3eq, Bool.false_eq_true, isK_wr, inA_wr, inR_wr, k0, e8, ks, x_refuse, hx]
    · simp only [e310_0, e310_1, e310_2, e310_5, e310_6, e310_7, e310_10, e310_11, e310_12, e310_15, e310_18, e310_19, e310_20, e310_23, e310_24, e310_25, e310_26, e310_29, e310_32, e310_33, e310_36, e310_37, e310_38, e310_41, e310_42, e310_44, e310_47, psh0, psh1, psh3, true_or, or_true, eq_self, Option.bind_some, List.length_nil, List.length_cons, Nat.reduceAdd, Nat.reduceLeDiff, Nat.zero_le, ↓reduceIte, Int.reduceLT, Int.reduceEq, Int.reduceLE, Int.reduceNeg, Int.reduceAdd, Int.reduceMul, Int.reduceSub, ne_eq, not_true_eq_false, not_false_eq_true, and_true, true_and, and_false, false_and, c3lt, c3gt, c3eq, Bool.false_eq_true, isK_wr, inA_wr, inR_wr, kM, hl, m_refuse, wrwr]
theorem plan_row {m : Int → Int → Int} (hr : RRef m) {k : Int} (h0 : 0 ≤ k) (h1 : k < 4) : m 155 k = 156 + k := by
  rcases (show k = 0 ∨ k = 1 ∨ k = 2 ∨ k = 3 by omega) with rfl | rfl | rfl | rfl
  · exact hr (155, 0, 156) (by decide +kernel)
  · exact hr (155, 1, 157) (by decide +kernel)
  · exact hr (155, 2, 158) (by decide +kernel)
  · exact hr (155, 3, 159) (by decide +kernel)
theorem plan_K {h : AM} (hp : Shp h) {k : Int} (h0 : 0 ≤ k) (h1 : k < 4) : isK h (156 + k) 16 ∧ mln h (156 + k) = 12 := by
  rcases (show k = 0 ∨ k = 1 ∨ k = 2 ∨ k = 3 by omega) with rfl | rfl | rfl | rfl <;> exact Shp_K hp (by decide +kernel)
theorem op_began : Op_began Inv := by
  intro d h a0 a1 hI i0 i1
  obtain ⟨s, e8, hs, k0, kM, cs, ds⟩ := ctx hI
  have ds' := ds
  have ks := cs.1
  have r1 := cs.2.2.1
  have r2 := cs.2.2.2.1
  have r3 := cs.2.2.2.2.1
  have kl := cs.2.2.2.2.2.2.2.2.2.2.2.1
  have kc := cs.2.2.2.2.2.2.2.2.2.2.2.2
  obtain ⟨d5, d6, d7, d8, dl, dc⟩ := ds
  have hm : ∀ v, CM (mwr (mwr (mwr h 0 11 v) 235 1 0) 235 0 0) := fun v => CM_q (CM_of hI)
  obtain ⟨f1, f2⟩ : RPln (mrd h) := hI.2.1.2.2.2.2.1
  have x7 : mrd h 0 7 = 152 := rf_0_7 hI.2.1.1
  have x70 : mrd h 152 0 = 153 := rf_152_0 hI.2.1.1
  have x72 : mrd h 152 2 = 155 := rf_152_2 hI.2.1.1
  have k152 := kn_152 hI.1
  have m39 : mrd h 235 39 = 254 := rf_235_39 hI.2.1.1
  have m40 : mrd h 235 40 = 255 := rf_235_40 hI.2.1.1
  have hx := x_hasChild_q (d := d + 59) (k := a0) ks d7.1
  have hl := fun v => m_isChildAt_q (d := d + 58) (k := a0) hI v
  have hp := x_planHasChild (d := d + 59) (c := a0) k152
  by_cases hc : 0 ≤ a0 ∧ a0 < mrd h 240 2
  · simp only [hc, and_self, if_true] at hl hx
    by_cases cp : a0 < mrd h 152 6
    · have cm : a0 < mrd h 235 42 := by omega
      rw [if_pos ⟨hc.1, cp⟩] at hp
      have i1 : inA h 153 16 a0 := ⟨kn_153 hI.1, hc.1, by rw [ln_153 hI.1]; omega⟩
      have i2 : inA h 255 16 a0 := ⟨kn_255 hI.1, hc.1, by rw [ln_255 hI.1]; omega⟩
      obtain ⟨-, ⟨e1, e2, e3⟩, e4⟩ := f2 a0 hc.1 cp
      have wl : w32 (mrd h 255 a0 - 1) = mrd h 255 a0 - 1 := w32_id (by omega) (by omega)
      by_cases cq : 0 ≤ a1 ∧ a1 < mrd h 255 a0
      · have cq' : 0 ≤ a1 ∧ a1 ≤ mrd h 255 a0 - 1 := by omega
        have cn : ¬ a1 < 0 := by omega
        have w1 : w32 (12 * a0) = 12 * a0 := w32_id (by omega) (by omega)
        have w2 : w32 (12 * a0 + a1) = 12 * a0 + a1 := w32_id (by omega) (by omega)
        have i3 : inA h 254 16 (12 * a0 + a1) := ⟨kn_254 hI.1, by omega, by rw [ln_254 hI.1]; omega⟩
        have pr : mrd h 155 a0 = 156 + a0 := plan_row hI.2.1.1 hc.1 (by omega)
        obtain ⟨pk, pl⟩ := plan_K hI.1 hc.1 (show a0 < 4 by omega)
        have i4 : inA h (156 + a0) 16 a1 := ⟨pk, cq.1, by rw [pl]; omega⟩
        have k155 := kn_155 hI.1
        have i5 : inR h 155 a0 := ⟨⟨k155.1, k155.2.1, by rw [k155.2.2]; decide, by rw [k155.2.2]; decide⟩, hc.1, by rw [ln_155 hI.1]; omega⟩
        have e := e4 a1 cq.1 (by omega)
        refine opq hI (mrd h 254 (12 * a0 + a1)) 0 ?_ ?_
        · simp only [e152_0, e152_1, e152_4, e152_5, e152_8, e152_11, e152_12, e152_13, e152_16, e152_17, e152_18, e152_21, e152_22, e152_25, e152_28, e152_29, e152_32, e152_33, e152_34, e152_37, e152_40, e152_41, e152_42, e152_45, e152_46, e152_48, e152_51, e152_52, e152_53, e152_54, e152_57, e152_60, e152_61, e152_62, e152_63, e152_64, e152_67, psh0, psh1, psh3, true_or, or_true, eq_self, Option.bind_some, List.length_nil, List.length_cons, Nat.reduceAdd, Nat.reduceLeDiff, Nat.zero_le, ↓reduceIte, Int.reduceLT, Int.reduceEq, Int.reduceLE, Int.reduceNeg, Int.reduceAdd, Int.reduceMul, Int.reduceSub, ne_eq, not_true_eq_false, not_false_eq_true, and_true, true_and, and_false, false_and, c3lt, c3gt, c3eq, Bool.false_eq_true, isK_wr, inA_wr, inR_wr, k0, e8, ks, x7, x70, x72, k152, hx, hp, i1, e1, cn, cq.2, pr, i4, i5, e, x_answer]
        · simp only [e311_0, e311_1, e311_2, e311_5, e311_6, e311_7, e311_10, e311_11, e311_12, e311_15, e311_18, e311_19, e311_20, e311_23, e311_24, e311_25, e311_26, e311_29, e311_32, e311_33, e311_34, e311_35, e311_36, e311_39, e311_40, e311_41, e311_42, e311_43, e311_44, e311_47, e311_50, e311_51, e311_54, e311_56, e311_57, e311_58, e311_59, e311_60, e311_61, e311_64, e311_65, e311_67, e311_70, psh0, psh1, psh3, true_or, or_true, eq_self, Option.bind_some, List.length_nil, List.length_cons, Nat.reduceAdd, Nat.reduceLeDiff, Nat.zero_le, ↓reduceIte, Int.reduceLT, Int.reduceEq, Int.reduceLE, Int.reduceNeg, Int.reduceAdd, Int.reduceMul, Int.reduceSub, ne_eq, not_true_eq_false, not_false_eq_true, and_true, true_and, and_false, false_and, c3lt, c3gt, c3eq, Bool.false_eq_true, isK_wr, inA_wr, inR_wr, kM, hl, rdq, rdq5, cm, m39, m40, i2, m_isIn, wl, cq', w1, w2, i3]
      · have cq' : ¬ (0 ≤ a1 ∧ a1 ≤ mrd h 255 a0 - 1) := by omega
        refine opq hI (-1) 8 ?_ ?_
        · by_cases cn : a1 < 0
          · simp only [e152_0, e152_1, e152_4, e152_5, e152_8, e152_11, e152_12, e152_13, e152_16, e152_17, e152_18, e152_21, e152_22, e152_25, e152_28, e152_29, e152_32, e152_33, e152_34, e152_37, e152_40, e152_41, e152_42, e152_45, e152_46, e152_48, e152_51, e152_52, e152_53, e152_54, e152_57, e152_60, e152_61, e152_62, e152_63, e152_64, e152_67, psh0, psh1, psh3, true_or, or_true, eq_self, Option.bind_some, List.length_nil, List.length_cons, Nat.reduceAdd, Nat.reduceLeDiff, Nat.zero_le, ↓reduceIte, Int.reduceLT, Int.reduceEq, Int.reduceLE, Int.reduceNeg, Int.reduceAdd, Int.reduceMul, Int.reduceSub, ne_eq, not_true_eq_false, not_false_eq_true, and_true, true_and, and_false, false_and, c3lt, c3gt, c3eq, Bool.false_eq_true, isK_wr, inA_wr, inR_wr, k0, e8, ks, x7, k152, hx, hp, cn, x_refuse]
          · have cn2 : ¬ a1 < mrd h 255 a0 := by omega
            simp only [e152_0, e152_1, e152_4, e152_5, e152_8, e152_11, e152_12, e152_13, e152_16, e152_17, e152_18, e152_21, e152_22, e152_25, e152_28, e152_29, e152_32, e152_33, e152_34, e152_37, e152_40, e152_41, e152_42, e152_45, e152_46, e152_48, e152_51, e152_52, e152_53, e152_54, e152_57, e152_60, e152_61, e152_62, e152_63, e152_64, e152_67, psh0, psh1, psh3, true_or, or_true, eq_self, Option.bind_some, List.length_nil, List.length_cons, Nat.reduceAdd, Nat.reduceLeDiff, Nat.zero_le, ↓reduceIte, Int.reduceLT, Int.reduceEq, Int.reduceLE, Int.reduceNeg, Int.reduceAdd, Int.reduceMul, Int.reduceSub, ne_eq, not_true_eq_false, not_false_eq_true, and_true, true_and, and_false, false_and, c3lt, c3gt, c3eq, Bool.false_eq_true, isK_wr, inA_wr, inR_wr, k0, e8, ks, x7, x70, k152, hx, hp, cn, cn2, i1, e1, x_refuse]
        · simp only [e311_0, e311_1, e311_2, e311_5, e311_6, e311_7, e311_10, e311_11, e311_12, e311_15, e311_18, e311_19, e311_20, e311_23, e311_24, e311_25, e311_26, e311_29, e311_32, e311_33, e311_34, e311_35, e311_36, e311_39, e311_40, e311_41, e311_42, e311_43, e311_44, e311_47, e311_50, e311_51, e311_54, e311_56, e311_57, e311_58, e311_59, e311_60, e311_61, e311_64, e311_65, e311_67, e311_70, psh0, psh1, psh3, true_or, or_true, eq_self, Option.bind_some, List.length_nil, List.length_cons, Nat.reduceAdd, Nat.reduceLeDiff, Nat.zero_le, ↓reduceIte, Int.reduceLT, Int.reduceEq, Int.reduceLE, Int.reduceNeg, Int.reduceAdd, Int.reduceMul, Int.reduceSub, ne_eq, not_true_eq_false, not_false_eq_true, and_true, true_and, and_false, false_and, c3lt, c3gt, c3eq, Bool.false_eq_true, isK_wr, inA_wr, inR_wr, kM, hl, rdq, rdq5, cm, m40, i2, m_isIn, wl, cq', m_refuse, wrwr]
    · have cm : ¬ a0 < mrd h 235 42 := by omega
      rw [if_neg (by omega)] at hp
      refine opq hI (-1) 8 ?_ ?_
      · simp only [e152_0, e152_1, e152_4, e152_5, e152_8, e152_11, e152_12, e152_13, e152_16, e152_17, e152_18, e152_21, e152_22, e152_25, e152_28, e152_29, e152_32, e152_33, e152_34, e152_37, e152_40, e152_41, e152_42, e152_45, e152_46, e152_48, e152_51, e152_52, e152_53, e152_54, e152_57, e152_60, e152_61, e152_62, e152_63, e152_64, e152_67, psh0, psh1, psh3, true_or, or_true, eq_self, Option.bind_some, List.length_nil, List.length_cons, Nat.reduceAdd, Nat.reduceLeDiff, Nat.zero_le, ↓reduceIte, Int.reduceLT, Int.reduceEq, Int.reduceLE, Int.reduceNeg, Int.reduceAdd, Int.reduceMul, Int.reduceSub, ne_eq, not_true_eq_false, not_false_eq_true, and_true, true_and, and_false, false_and, c3lt, c3gt, c3eq, Bool.false_eq_true, isK_wr, inA_wr, inR_wr, k0, e8, ks, x7, k152, hx, hp, x_refuse]
      · simp only [e311_0, e311_1, e311_2, e311_5, e311_6, e311_7, e311_10, e311_11, e311_12, e311_15, e311_18, e311_19, e311_20, e311_23, e311_24, e311_25, e311_26, e311_29, e311_32, e311_33, e311_34, e311_35, e311_36, e311_39, e311_40, e311_41, e311_42, e311_43, e311_44, e311_47, e311_50, e311_51, e311_54, e311_56, e311_57, e311_58, e311_59, e311_60, e311_61, e311_64, e311_65, e311_67, e311_70, psh0, psh1, psh3, true_or, or_true, eq_self, Option.bind_some, List.length_nil, List.length_cons, Nat.reduceAdd, Nat.reduceLeDiff, Nat.zero_le, ↓reduceIte, Int.reduceLT, Int.reduceEq, Int.reduceLE, Int.reduceNeg, Int.reduceAdd, Int.reduceMul, Int.reduceSub, ne_eq, not_true_eq_false, not_false_eq_true, and_true, true_and, and_false, false_and, c3lt, c3gt, c3eq, Bool.false_eq_true, isK_wr, inA_wr, inR_wr, kM, hl, rdq, rdq5, cm, m_refuse, wrwr]
  · simp only [hc, if_false] at hl hx
    refine opq hI (-1) 2 ?_ ?_
    · simp only [e152_0, e152_1, e152_4, e152_5, e152_8, e152_11, e152_12, e152_13, e152_16, e152_17, e152_18, e152_21, e152_22, e152_25, e152_28, e152_29, e152_32, e152_33, e152_34, e152_37, e152_40, e152_41, e152_42, e152_45, e152_46, e152_48, e152_51, e152_52, e152_53, e152_54, e152_57, e152_60, e152_61, e152_62, e152_63, e152_64, e152_67, psh0, psh1, psh3, true_or, or_true, eq_self, Option.bind_some, List.length_nil, List.length_cons, Nat.reduceAdd, Nat.reduceLeDiff, Nat.zero_le, ↓reduceIte, Int.reduceLT, Int.reduceEq, Int.reduceLE, Int.reduceNeg, Int.reduceAdd, Int.reduceMul, Int.reduceSub, ne_eq, not_true_eq_false, not_false_eq_true, and_true, true_and, and_false, false_and, c3lt, c3gt, c3eq, Bool.false_eq_true, isK_wr, inA_wr, inR_wr, k0, e8, ks, x_refuse, hx]
    · simp only [e311_0, e311_1, e311_2, e311_5, e311_6, e311_7, e311_10, e311_11, e311_12, e311_15, e311_18, e311_19, e311_20, e311_23, e311_24, e311_25, e311_26, e311_29, e311_32, e311_33, e311_34, e311_35, e311_36, e311_39, e311_40, e311_41, e311_42, e311_43, e311_44, e311_47, e311_50, e311_51, e311_54, e311_56, e311_57, e311_58, e311_59, e311_60, e311_61, e311_64, e311_65, e311_67, e311_70, psh0, psh1, psh3, true_or, or_true, eq_self, Option.bind_some, List.length_nil, List.length_cons, Nat.reduceAdd, Nat.reduceLeDiff, Nat.zero_le, ↓reduceIte, Int.reduceLT, Int.reduceEq, Int.reduceLE, Int.reduceNeg, Int.reduceAdd, Int.reduceMul, Int.reduceSub, ne_eq, not_true_eq_false, not_false_eq_true, and_true, true_and, and_false, false_and, c3lt, c3gt, c3eq, Bool.false_eq_true, isK_wr, inA_wr, inR_wr, kM, hl, m_refuse, wrwr]
theorem op_lived : Op_lived Inv := by
  intro d h a0 hI i0
  obtain ⟨s, e8, hs, k0, kM, cs, ds⟩ := ctx hI
  have ds' := ds
  have ks := cs.1
  have r1 := cs.2.2.1
  have r2 := cs.2.2.2.1
  have r3 := cs.2.2.2.2.1
  have kl := cs.2.2.2.2.2.2.2.2.2.2.2.1
  have kc := cs.2.2.2.2.2.2.2.2.2.2.2.2
  obtain ⟨d5, d6, d7, d8, dl, dc⟩ := ds
  have hm : ∀ v, CM (mwr (mwr (mwr h 0 11 v) 235 1 0) 235 0 0) := fun v => CM_q (CM_of hI)
  obtain ⟨f1, f2, f3⟩ : RLiv (mrd h) := hI.2.1.2.2.2.2.2.1
  have x4 : mrd h 0 4 = 146 := rf_0_4 hI.2.1.1
  have k146 := kn_146 hI.1
  have m43 : mrd h 235 43 = 257 := rf_235_43 hI.2.1.1
  by_cases hc : 0 ≤ a0 ∧ a0 ≤ 3
  · have c0 : ¬ a0 < 0 := by omega
    have c3 : ¬ 3 < a0 := by omega
    have i1 : inA h 257 16 a0 := ⟨kn_257 hI.1, hc.1, by rw [ln_257 hI.1]; omega⟩
    rcases f1 with f1 | f1
    · have f1' : mrd h 235 44 = 0 := by rw [← f2]; exact f1
      refine opq hI (-1) 8 ?_ ?_
      · simp only [e154_0, e154_1, e154_4, e154_5, e154_6, e154_9, e154_10, e154_11, e154_14, e154_15, e154_16, e154_19, e154_22, e154_25, e154_26, e154_28, e154_31, e154_32, e154_33c0, e154_33c1, e154_33c2, e154_33, e154_60, e154_61, e154_62, e154_65, e154_68, e154_71, e154_72, e154_73, e154_74, e154_77, e154_80, e154_83, e154_84, e154_85, e154_86, e154_89, e154_92, e154_95, e154_96, e154_97, e154_98, e154_101, e154_104, e154_107, e154_108, e154_111, e154_112, e154_115, psh0, psh1, psh3, true_or, or_true, eq_self, Option.bind_some, List.length_nil, List.length_cons, Nat.reduceAdd, Nat.reduceLeDiff, Nat.zero_le, ↓reduceIte, Int.reduceLT, Int.reduceEq, Int.reduceLE, Int.reduceNeg, Int.reduceAdd, Int.reduceMul, Int.reduceSub, ne_eq, not_true_eq_false, not_false_eq_true, and_true, true_and, and_false, false_and, c3lt, c3gt, c3eq, Bool.false_eq_true, isK_wr, inA_wr, inR_wr, k0, x4, k146, c0, c3, f1, x_refuse]
      · simp only [e322_0, e322_1, e322_2, e322_5, e322_6, e322_7, e322_10, e322_11, e322_12, e322_13, e322_16, e322_19, e322_22, e322_23, e322_24, e322_27, e322_28, e322_29, e322_32, e322_35, e322_36, e322_39, e322_40, e322_41, e322_44, e322_45, e322_47, e322_50, psh0, psh1, psh3, true_or, or_true, eq_self, Option.bind_some, List.length_nil, List.length_cons, Nat.reduceAdd, Nat.reduceLeDiff, Nat.zero_le, ↓reduceIte, Int.reduceLT, Int.reduceEq, Int.reduceLE, Int.reduceNeg, Int.reduceAdd, Int.reduceMul, Int.reduceSub, ne_eq, not_true_eq_false, not_false_eq_true, and_true, true_and, and_false, false_and, c3lt, c3gt, c3eq, Bool.false_eq_true, isK_wr, inA_wr, inR_wr, kM, m_isIn, hc, rdq, rdq5, f1', m_refuse, wrwr]
    · have f1' : mrd h 235 44 = 1 := by rw [← f2]; exact f1
      obtain ⟨g2, g3, g4, g5, g6⟩ := f3 f1
      rcases (show a0 = 0 ∨ a0 = 1 ∨ a0 = 2 ∨ a0 = 3 by omega) with rfl | rfl | rfl | rfl
      · refine opq hI (mrd h 257 0) 0 ?_ ?_
        · simp only [e154_0, e154_1, e154_4, e154_5, e154_6, e154_9, e154_10, e154_11, e154_14, e154_15, e154_16, e154_19, e154_22, e154_25, e154_26, e154_28, e154_31, e154_32, e154_33c0, e154_33c1, e154_33c2, e154_33, e154_60, e154_61, e154_62, e154_65, e154_68, e154_71, e154_72, e154_73, e154_74, e154_77, e154_80, e154_83, e154_84, e154_85, e154_86, e154_89, e154_92, e154_95, e154_96, e154_97, e154_98, e154_101, e154_104, e154_107, e154_108, e154_111, e154_112, e154_115, psh0, psh1, psh3, true_or, or_true, eq_self, Option.bind_some, List.length_nil, List.length_cons, Nat.reduceAdd, Nat.reduceLeDiff, Nat.zero_le, ↓reduceIte, Int.reduceLT, Int.reduceEq, Int.reduceLE, Int.reduceNeg, Int.reduceAdd, Int.reduceMul, Int.reduceSub, ne_eq, not_true_eq_false, not_false_eq_true, and_true, true_and, and_false, false_and, c3lt, c3gt, c3eq, Bool.false_eq_true, isK_wr, inA_wr, inR_wr, k0, x4, k146, f1, g2, x_answer]
        · simp only [e322_0, e322_1, e322_2, e322_5, e322_6, e322_7, e322_10, e322_11, e322_12, e322_13, e322_16, e322_19, e322_22, e322_23, e322_24, e322_27, e322_28, e322_29, e322_32, e322_35, e322_36, e322_39, e322_40, e322_41, e322_44, e322_45, e322_47, e322_50, psh0, psh1, psh3, true_or, or_true, eq_self, Option.bind_some, List.length_nil, List.length_cons, Nat.reduceAdd, Nat.reduceLeDiff, Nat.zero_le, ↓reduceIte, Int.reduceLT, Int.reduceEq, Int.reduceLE, Int.reduceNeg, Int.reduceAdd, Int.reduceMul, Int.reduceSub, ne_eq, not_true_eq_false, not_false_eq_true, and_true, true_and, and_false, false_and, c3lt, c3gt, c3eq, Bool.false_eq_true, isK_wr, inA_wr, inR_wr, kM, m_isIn, rdq, rdq5, f1', m43, i1]
      · refine opq hI (mrd h 257 1) 0 ?_ ?_
        · simp only [e154_0, e154_1, e154_4, e154_5, e154_6, e154_9, e154_10, e154_11, e154_14, e154_15, e154_16, e154_19, e154_22, e154_25, e154_26, e154_28, e154_31, e154_32, e154_33c0, e154_33c1, e154_33c2, e154_33, e154_60, e154_61, e154_62, e154_65, e154_68, e154_71, e154_72, e154_73, e154_74, e154_77, e154_80, e154_83, e154_84, e154_85, e154_86, e154_89, e154_92, e154_95, e154_96, e154_97, e154_98, e154_101, e154_104, e154_107, e154_108, e154_111, e154_112, e154_115, psh0, psh1, psh3, true_or, or_true, eq_self, Option.bind_some, List.length_nil, List.length_cons, Nat.reduceAdd, Nat.reduceLeDiff, Nat.zero_le, ↓reduceIte, Int.reduceLT, Int.reduceEq, Int.reduceLE, Int.reduceNeg, Int.reduceAdd, Int.reduceMul, Int.reduceSub, ne_eq, not_true_eq_false, not_false_eq_true, and_true, true_and, and_false, false_and, c3lt, c3gt, c3eq, Bool.false_eq_true, isK_wr, inA_wr, inR_wr, k0, x4, k146, f1, g3, x_answer]
        · simp only [e322_0, e322_1, e322_2, e322_5, e322_6, e322_7, e322_10, e322_11, e322_12, e322_13, e322_16, e322_19, e322_22, e322_23, e322_24, e322_27, e322_28, e322_29, e322_32, e322_35, e322_36, e322_39, e322_40, e322_41, e322_44, e322_45, e322_47, e322_50, psh0, psh1, psh3, true_or, or_true, eq_self, Option.bind_some, List.length_nil, List.length_cons, Nat.reduceAdd, Nat.reduceLeDiff, Nat.zero_le, ↓reduceIte, Int.reduceLT, Int.reduceEq, Int.reduceLE, Int.reduceNeg, Int.reduceAdd, Int.reduceMul, Int.reduceSub, ne_eq, not_true_eq_false, not_false_eq_true, and_true, true_and, and_false, false_and, c3lt, c3gt, c3eq, Bool.false_eq_true, isK_wr, inA_wr, inR_wr, kM, m_isIn, rdq, rdq5, f1', m43, i1]
      · refine opq hI (mrd h 257 2) 0 ?_ ?_
        · simp only [e154_0, e154_1, e154_4, e154_5, e154_6, e154_9, e154_10, e154_11, e154_14, e154_15, e154_16, e154_19, e154_22, e154_25, e154_26, e154_28, e154_31, e154_32, e154_33c0, e154_33c1, e154_33c2, e154_33, e154_60, e154_61, e154_62, e154_65, e154_68, e154_71, e154_72, e154_73, e154_74, e154_77, e154_80, e154_83, e154_84, e154_85, e154_86, e154_89, e154_92, e154_95, e154_96, e154_97, e154_98, e154_101, e154_104, e154_107, e154_108, e154_111, e154_112, e154_115, psh0, psh1, psh3, true_or, or_true, eq_self, Option.bind_some, List.length_nil, List.length_cons, Nat.reduceAdd, Nat.reduceLeDiff, Nat.zero_le, ↓reduceIte, Int.reduceLT, Int.reduceEq, Int.reduceLE, Int.reduceNeg, Int.reduceAdd, Int.reduceMul, Int.reduceSub, ne_eq, not_true_eq_false, not_false_eq_true, and_true, true_and, and_false, false_and, c3lt, c3gt, c3eq, Bool.false_eq_true, isK_wr, inA_wr, inR_wr, k0, x4, k146, f1, g4, x_answer]
        · simp only [e322_0, e322_1, e322_2, e322_5, e322_6, e322_7, e322_10, e322_11, e322_12, e322_13, e322_16, e322_19, e322_22, e322_23, e322_24, e322_27, e322_28, e322_29, e322_32, e322_35, e322_36, e322_39, e322_40, e322_41, e322_44, e322_45, e322_47, e322_50, psh0, psh1, psh3, true_or, or_true, eq_self, Option.bind_some, List.length_nil, List.length_cons, Nat.reduceAdd, Nat.reduceLeDiff, Nat.zero_le, ↓reduceIte, Int.reduceLT, Int.reduceEq, Int.reduceLE, Int.reduceNeg, Int.reduceAdd, Int.reduceMul, Int.reduceSub, ne_eq, not_true_eq_false, not_false_eq_true, and_true, true_and, and_false, false_and, c3lt, c3gt, c3eq, Bool.false_eq_true, isK_wr, inA_wr, inR_wr, kM, m_isIn, rdq, rdq5, f1', m43, i1]
      · refine opq hI (mrd h 257 3) 0 ?_ ?_
        · have c3' : (3 : Int) < 0 ∨ (2 : Int) < 3 := by decide
          rcases g6 with g6 | g6
          · rw [← g5, g6]
            simp only [e154_0, e154_1, e154_4, e154_5, e154_6, e154_9, e154_10, e154_11, e154_14, e154_15, e154_16, e154_19, e154_22, e154_25, e154_26, e154_28, e154_31, e154_32, e154_33c0, e154_33c1, e154_33c2, e154_33, e154_60, e154_61, e154_62, e154_65, e154_68, e154_71, e154_72, e154_73, e154_74, e154_77, e154_80, e154_83, e154_84, e154_85, e154_86, e154_89, e154_92, e154_95, e154_96, e154_97, e154_98, e154_101, e154_104, e154_107, e154_108, e154_111, e154_112, e154_115, psh0, psh1, psh3, true_or, or_true, eq_self, Option.bind_some, List.length_nil, List.length_cons, Nat.reduceAdd, Nat.reduceLeDiff, Nat.zero_le, ↓reduceIte, Int.reduceLT, Int.reduceEq, Int.reduceLE, Int.reduceNeg, Int.reduceAdd, Int.reduceMul, Int.reduceSub, ne_eq, not_true_eq_false, not_false_eq_true, and_true, true_and, and_false, false_and, c3lt, c3gt, c3eq, Bool.false_eq_true, isK_wr, inA_wr, inR_wr, k0, x4, k146, f1, g6, c3', x_answer]
          · rw [← g5, g6]
            simp only [e154_0, e154_1, e154_4, e154_5, e154_6, e154_9, e154_10, e154_11, e154_14, e154_15, e154_16, e154_19, e154_22, e154_25, e154_26, e154_28, e154_31, e154_32, e154_33c0, e154_33c1, e154_33c2, e154_33, e154_60, e154_61, e154_62, e154_65, e154_68, e154_71, e154_72, e154_73, e154_74, e154_77, e154_80, e154_83, e154_84, e154_85, e154_86, e154_89, e154_92, e154_95, e154_96, e154_97, e154_98, e154_101, e154_104, e154_107, e154_108, e154_111, e154_112, e154_115, psh0, psh1, psh3, true_or, or_true, eq_self, Option.bind_some, List.length_nil, List.length_cons, Nat.reduceAdd, Nat.reduceLeDiff, Nat.zero_le, ↓reduceIte, Int.reduceLT, Int.reduceEq, Int.reduceLE, Int.reduceNeg, Int.reduceAdd, Int.reduceMul, Int.reduceSub, ne_eq, not_true_eq_false, not_false_eq_true, and_true, true_and, and_false, false_and, c3lt, c3gt, c3eq, Bool.false_eq_true, isK_wr, inA_wr, inR_wr, k0, x4, k146, f1, g6, c3', x_answer]
        · simp only [e322_0, e322_1, e322_2, e322_5, e322_6, e322_7, e322_10, e322_11, e322_12, e322_13, e322_16, e322_19, e322_22, e322_23, e322_24, e322_27, e322_28, e322_29, e322_32, e322_35, e322_36, e322_39, e322_40, e322_41, e322_44, e322_45, e322_47, e322_50, psh0, psh1, psh3, true_or, or_true, eq_self, Option.bind_some, List.length_nil, List.length_cons, Nat.reduceAdd, Nat.reduceLeDiff, Nat.zero_le, ↓reduceIte, Int.reduceLT, Int.reduceEq, Int.reduceLE, Int.reduceNeg, Int.reduceAdd, Int.reduceMul, Int.reduceSub, ne_eq, not_true_eq_false, not_false_eq_true, and_true, true_and, and_false, false_and, c3lt, c3gt, c3eq, Bool.false_eq_true, isK_wr, inA_wr, inR_wr, kM, m_isIn, rdq, rdq5, f1', m43, i1]
  · refine opq hI (-1) 5 ?_ ?_
    · by_cases c0 : a0 < 0
      · simp only [e154_0, e154_1, e154_4, e154_5, e154_6, e154_9, e154_10, e154_11, e154_14, e154_15, e154_16, e154_19, e154_22, e154_25, e154_26, e154_28, e154_31, e154_32, e154_33c0, e154_33c1, e154_33c2, e154_33, e154_60, e154_61, e154_62, e154_65, e154_68, e154_71, e154_72, e154_73, e154_74, e154_77, e154_80, e154_83, e154_84, e154_85, e154_86, e154_89, e154_92, e154_95, e154_96, e154_97, e154_98, e154_101, e154_104, e154_107, e154_108, e154_111, e154_112, e154_115, psh0, psh1, psh3, true_or, or_true, eq_self, Option.bind_some, List.length_nil, List.length_cons, Nat.reduceAdd, Nat.reduceLeDiff, Nat.zero_le, ↓reduceIte, Int.reduceLT, Int.reduceEq, Int.reduceLE, Int.reduceNeg, Int.reduceAdd, Int.reduceMul, Int.reduceSub, ne_eq, not_true_eq_false, not_false_eq_true, and_true, true_and, and_false, false_and, c3lt, c3gt, c3eq, Bool.false_eq_true, isK_wr, inA_wr, inR_wr, k0, c0, x_refuse]
      · have c3 : 3 < a0 := by omega
        simp only [e154_0, e154_1, e154_4, e154_5, e154_6, e154_9, e154_10, e154_11, e154_14, e154_15, e154_16, e154_19, e154_22, e154_25, e154_26, e154_28, e154_31, e154_32, e154_33c0, e154_33c1, e154_33c2, e154_33, e154_60, e154_61, e154_62, e154_65, e154_68, e154_71, e154_72, e154_73, e154_74, e154_77, e154_80, e154_83, e154_84, e154_85, e154_86, e154_89, e154_92, e154_95, e154_96, e154_97, e154_98, e154_101, e154_104, e154_107, e154_108, e154_111, e154_112, e154_115, psh0, psh1, psh3, true_or, or_true, eq_self, Option.bind_some, List.length_nil, List.length_cons, Nat.reduceAdd, Nat.reduceLeDiff, Nat.zero_le, ↓reduceIte, Int.reduceLT, Int.reduceEq, Int.reduceLE, Int.reduceNeg, Int.reduceAdd, Int.reduceMul, Int.reduceSub, ne_eq, not_true_eq_false, not_false_eq_true, and_true, true_and, and_false, false_and, c3lt, c3gt, c3eq, Bool.false_eq_true, isK_wr, inA_wr, inR_wr, k0, c0, c3, x_refuse]
    · simp only [e322_0, e322_1, e322_2, e322_5, e322_6, e322_7, e322_10, e322_11, e322_12, e322_13, e322_16, e322_19, e322_22, e322_23, e322_24, e322_27, e322_28, e322_29, e322_32, e322_35, e322_36, e322_39, e322_40, e322_41, e322_44, e322_45, e322_47, e322_50, psh0, psh1, psh3, true_or, or_true, eq_self, Option.bind_some, List.length_nil, List.length_cons, Nat.reduceAdd, Nat.reduceLeDiff, Nat.zero_le, ↓reduceIte, Int.reduceLT, Int.reduceEq, Int.reduceLE, Int.reduceNeg, Int.reduceAdd, Int.reduceMul, Int.reduceSub, ne_eq, not_true_eq_false, not_false_eq_true, and_true, true_and, and_false, false_and, c3lt, c3gt, c3eq, Bool.false_eq_true, isK_wr, inA_wr, inR_wr, kM, m_isIn, hc, m_refuse, wrwr]

/-! the two readers in step: numbers, letters, names -/
section
variable {a a' a1 b b' b1 : AM} {N d d' : Nat}
theorem m_count0 {lo hi : Int} (kM : isK b 235 11) (h : 0 < mrd b 235 12) : EV d 216 0 [(2, 235), (0, lo), (0, hi), (3, 0)] [] b = some ((0, 0), b) := by
  have z : ¬ mrd b 235 12 = 0 := by omega
  simp only [e216_0, e216_1, e216_4, e216_7, e216_8, e216_11, e216_12, e216_15, e216_16, e216_19, e216_20, e216_23, e216_26, e216_27, e216_30, e216_31, e216_32, e216_33, e216_34, e216_35, e216_38, e216_41, e216_42, e216_43, e216_44, e216_47, e216_50, e216_51, e216_54, e216_57, e216_58, e216_59, e216_60, e216_63, e216_64, e216_65, e216_68, e216_69, psh0, psh1, psh3, true_or, or_true, eq_self, Option.bind_some, List.length_nil, List.length_cons, Nat.reduceAdd, Nat.reduceLeDiff, Nat.zero_le, ↓reduceIte, Int.reduceLT, Int.reduceEq, Int.reduceLE, Int.reduceNeg, Int.reduceAdd, Int.reduceMul, Int.reduceSub, ne_eq, not_true_eq_false, not_false_eq_true, and_true, true_and, and_false, false_and, c3lt, c3gt, c3eq, Bool.false_eq_true, isK_wr, inA_wr, inR_wr, kM, h, z]
theorem m_countW {lo hi : Int} (kM : isK b 235 11) (h : mrd b 235 12 = 0) (h2 : mrd b 235 14 ≠ 2) (g : EV d 214 0 [(2, 235)] [] b = some ((3, 0), b')) (k' : isK b' 235 11) (h' : 0 < mrd b' 235 12) : EV (d + 1) 216 0 [(2, 235), (0, lo), (0, hi), (3, 0)] [] b = some ((0, 0), b') := by
  have z : ¬ mrd b' 235 12 = 0 := by omega
  simp only [e216_0, e216_1, e216_4, e216_7, e216_8, e216_11, e216_12, e216_15, e216_16, e216_19, e216_20, e216_23, e216_26, e216_27, e216_30, e216_31, e216_32, e216_33, e216_34, e216_35, e216_38, e216_41, e216_42, e216_43, e216_44, e216_47, e216_50, e216_51, e216_54, e216_57, e216_58, e216_59, e216_60, e216_63, e216_64, e216_65, e216_68, e216_69, psh0, psh1, psh3, true_or, or_true, eq_self, Option.bind_some, List.length_nil, List.length_cons, Nat.reduceAdd, Nat.reduceLeDiff, Nat.zero_le, ↓reduceIte, Int.reduceLT, Int.reduceEq, Int.reduceLE, Int.reduceNeg, Int.reduceAdd, Int.reduceMul, Int.reduceSub, ne_eq, not_true_eq_false, not_false_eq_true, and_true, true_and, and_false, false_and, c3lt, c3gt, c3eq, Bool.false_eq_true, isK_wr, inA_wr, inR_wr, kM, h, h2, g, k', h', z]
theorem m_countF {lo hi : Int} (kM : isK b 235 11) (h : mrd b 235 12 = 0) (h2 : mrd b 235 14 = 2) (hr : ¬ (lo ≤ mrd b 235 17 ∧ mrd b 235 17 ≤ hi)) (k' : isK (flm b 4 (mrd b 235 15)) 235 11) (h' : 0 < mrd (flm b 4 (mrd b 235 15)) 235 12) : EV (d + 1) 216 0 [(2, 235), (0, lo), (0, hi), (3, 0)] [] b = some ((0, 0), flm b 4 (mrd b 235 15)) := by
  simp only [e216_0, e216_1, e216_4, e216_7, e216_8, e216_11, e216_12, e216_15, e216_16, e216_19, e216_20, e216_23, e216_26, e216_27, e216_30, e216_31, e216_32, e216_33, e216_34, e216_35, e216_38, e216_41, e216_42, e216_43, e216_44, e216_47, e216_50, e216_51, e216_54, e216_57, e216_58, e216_59, e216_60, e216_63, e216_64, e216_65, e216_68, e216_69, psh0, psh1, psh3, true_or, or_true, eq_self, Option.bind_some, List.length_nil, List.length_cons, Nat.reduceAdd, Nat.reduceLeDiff, Nat.zero_le, ↓reduceIte, Int.reduceLT, Int.reduceEq, Int.reduceLE, Int.reduceNeg, Int.reduceAdd, Int.reduceMul, Int.reduceSub, ne_eq, not_true_eq_false, not_false_eq_true, and_true, true_and, and_false, false_and, c3lt, c3gt, c3eq, Bool.false_eq_true, isK_wr, inA_wr, inR_wr, kM, h, h2, m_isIn, hr, m_fail kM, k', h']
theorem m_countT {lo hi : Int} (kM : isK b 235 11) (h : mrd b 235 12 = 0) (h2 : mrd b 235 14 = 2) (hr : lo ≤ mrd b 235 17 ∧ mrd b 235 17 ≤ hi) (g : EV d 193 0 [(2, 235), (3, 0)] [] b = some ((3, 0), b')) : EV (d + 1) 216 0 [(2, 235), (0, lo), (0, hi), (3, 0)] [] b = some ((0, mrd b 235 17), b') := by
  simp only [e216_0, e216_1, e216_4, e216_7, e216_8, e216_11, e216_12, e216_15, e216_16, e216_19, e216_20, e216_23, e216_26, e216_27, e216_30, e216_31, e216_32, e216_33, e216_34, e216_35, e216_38, e216_41, e216_42, e216_43, e216_44, e216_47, e216_50, e216_51, e216_54, e216_57, e216_58, e216_59, e216_60, e216_63, e216_64, e216_65, e216_68, e216_69, psh0, psh1, psh3, true_or, or_true, eq_self, Option.bind_some, List.length_nil, List.length_cons, Nat.reduceAdd, Nat.reduceLeDiff, Nat.zero_le, ↓reduceIte, Int.reduceLT, Int.reduceEq, Int.reduceLE, Int.reduceNeg, Int.reduceAdd, Int.reduceMul, Int.reduceSub, ne_eq, not_true_eq_false, not_false_eq_true, and_true, true_and, and_false, false_and, c3lt, c3gt, c3eq, Bool.false_eq_true, isK_wr, inA_wr, inR_wr, kM, h, h2, m_isIn, hr, g]
theorem x_num0 {lo hi : Int} (kk : isK a 110 5) (h : mrd a 110 9 ≠ 0 ∨ mrd a 110 5 ≠ 2) (g : EV d 40 0 [(2, 110)] [] a = some ((3, 0), a')) : EV (d + 1) 45 0 [(2, 110), (0, lo), (0, hi), (3, 0)] [] a = some ((0, lo), a') := by
  by_cases c : mrd a 110 9 = 0
  · have c5 : ¬ mrd a 110 5 = 2 := by omega
    simp only [e45_0, e45_1, e45_4, e45_7, e45_8, e45_11, e45_12, e45_15, e45_16, e45_19, e45_20, e45_21, e45_22, e45_25, e45_26, e45_27, e45_28, e45_31, e45_32, e45_35, e45_36, e45_37, e45_38, e45_41, e45_42, e45_43, e45_46, e45_47, e45_48, e45_49, e45_52, e45_53, e45_54, e45_55, e45_58, e45_59, psh0, psh1, psh3, true_or, or_true, eq_self, Option.bind_some, List.length_nil, List.length_cons, Nat.reduceAdd, Nat.reduceLeDiff, Nat.zero_le, ↓reduceIte, Int.reduceLT, Int.reduceEq, Int.reduceLE, Int.reduceNeg, Int.reduceAdd, Int.reduceMul, Int.reduceSub, ne_eq, not_true_eq_false, not_false_eq_true, and_true, true_and, and_false, false_and, c3lt, c3gt, c3eq, Bool.false_eq_true, isK_wr, inA_wr, inR_wr, kk, c, c5, g]
  · simp only [e45_0, e45_1, e45_4, e45_7, e45_8, e45_11, e45_12, e45_15, e45_16, e45_19, e45_20, e45_21, e45_22, e45_25, e45_26, e45_27, e45_28, e45_31, e45_32, e45_35, e45_36, e45_37, e45_38, e45_41, e45_42, e45_43, e45_46, e45_47, e45_48, e45_49, e45_52, e45_53, e45_54, e45_55, e45_58, e45_59, psh0, psh1, psh3, true_or, or_true, eq_self, Option.bind_some, List.length_nil, List.length_cons, Nat.reduceAdd, Nat.reduceLeDiff, Nat.zero_le, ↓reduceIte, Int.reduceLT, Int.reduceEq, Int.reduceLE, Int.reduceNeg, Int.reduceAdd, Int.reduceMul, Int.reduceSub, ne_eq, not_true_eq_false, not_false_eq_true, and_true, true_and, and_false, false_and, c3lt, c3gt, c3eq, Bool.false_eq_true, isK_wr, inA_wr, inR_wr, kk, c, g]
theorem x_numF {lo hi : Int} (kk : isK a 110 5) (h : mrd a 110 9 = 0) (h5 : mrd a 110 5 = 2) (hr : ¬ (lo ≤ mrd a 110 7 ∧ mrd a 110 7 ≤ hi)) : EV (d + 1) 45 0 [(2, 110), (0, lo), (0, hi), (3, 0)] [] a = some ((0, lo), blm a 4) := by
  by_cases c1 : mrd a 110 7 < lo
  · simp only [e45_0, e45_1, e45_4, e45_7, e45_8, e45_11, e45_12, e45_15, e45_16, e45_19, e45_20, e45_21, e45_22, e45_25, e45_26, e45_27, e45_28, e45_31, e45_32, e45_35, e45_36, e45_37, e45_38, e45_41, e45_42, e45_43, e45_46, e45_47, e45_48, e45_49, e45_52, e45_53, e45_54, e45_55, e45_58, e45_59, psh0, psh1, psh3, true_or, or_true, eq_self, Option.bind_some, List.length_nil, List.length_cons, Nat.reduceAdd, Nat.reduceLeDiff, Nat.zero_le, ↓reduceIte, Int.reduceLT, Int.reduceEq, Int.reduceLE, Int.reduceNeg, Int.reduceAdd, Int.reduceMul, Int.reduceSub, ne_eq, not_true_eq_false, not_false_eq_true, and_true, true_and, and_false, false_and, c3lt, c3gt, c3eq, Bool.false_eq_true, isK_wr, inA_wr, inR_wr, kk, h, h5, c1, x_blame kk]
  · have c2 : hi < mrd a 110 7 := by omega
    simp only [e45_0, e45_1, e45_4, e45_7, e45_8, e45_11, e45_12, e45_15, e45_16, e45_19, e45_20, e45_21, e45_22, e45_25, e45_26, e45_27, e45_28, e45_31, e45_32, e45_35, e45_36, e45_37, e45_38, e45_41, e45_42, e45_43, e45_46, e45_47, e45_48, e45_49, e45_52, e45_53, e45_54, e45_55, e45_58, e45_59, psh0, psh1, psh3, true_or, or_true, eq_self, Option.bind_some, List.length_nil, List.length_cons, Nat.reduceAdd, Nat.reduceLeDiff, Nat.zero_le, ↓reduceIte, Int.reduceLT, Int.reduceEq, Int.reduceLE, Int.reduceNeg, Int.reduceAdd, Int.reduceMul, Int.reduceSub, ne_eq, not_true_eq_false, not_false_eq_true, and_true, true_and, and_false, false_and, c3lt, c3gt, c3eq, Bool.false_eq_true, isK_wr, inA_wr, inR_wr, kk, h, h5, c1, c2, x_blame kk]
theorem x_numT {lo hi : Int} (kk : isK a 110 5) (h : mrd a 110 9 = 0) (h5 : mrd a 110 5 = 2) (hr : lo ≤ mrd a 110 7 ∧ mrd a 110 7 ≤ hi) (hv : 0 ≤ mrd a 110 7 ∧ mrd a 110 7 ≤ 9999) (g : EV d 35 0 [(2, 110)] [] a = some ((3, 0), a')) : EV (d + 1) 45 0 [(2, 110), (0, lo), (0, hi), (3, 0)] [] a = some ((0, mrd a 110 7), a') := by
  have c1 : ¬ mrd a 110 7 < lo := by omega
  have c2 : ¬ hi < mrd a 110 7 := by omega
  have w : w32 (mrd a 110 7) = mrd a 110 7 := w32_id (by omega) (by omega)
  simp only [e45_0, e45_1, e45_4, e45_7, e45_8, e45_11, e45_12, e45_15, e45_16, e45_19, e45_20, e45_21, e45_22, e45_25, e45_26, e45_27, e45_28, e45_31, e45_32, e45_35, e45_36, e45_37, e45_38, e45_41, e45_42, e45_43, e45_46, e45_47, e45_48, e45_49, e45_52, e45_53, e45_54, e45_55, e45_58, e45_59, psh0, psh1, psh3, true_or, or_true, eq_self, Option.bind_some, List.length_nil, List.length_cons, Nat.reduceAdd, Nat.reduceLeDiff, Nat.zero_le, ↓reduceIte, Int.reduceLT, Int.reduceEq, Int.reduceLE, Int.reduceNeg, Int.reduceAdd, Int.reduceMul, Int.reduceSub, ne_eq, not_true_eq_false, not_false_eq_true, and_true, true_and, and_false, false_and, c3lt, c3gt, c3eq, Bool.false_eq_true, isK_wr, inA_wr, inR_wr, kk, h, h5, c1, c2, w, g]
/-- passNumber and count -/
theorem pn_both {lo hi : Int} (q : QQ N a b) (l0 : 0 ≤ lo) (l1 : lo ≤ hi) : ∃ v v' a' b', EV (d + 2) 45 0 [(2, 110), (0, lo), (0, hi), (3, 0)] [] a = some ((0, v), a') ∧ EV (d' + 2) 216 0 [(2, 235), (0, lo), (0, hi), (3, 0)] [] b = some ((0, v'), b') ∧ Stp2 N a b a' b' ∧ (lo ≤ v ∧ v ≤ hi) ∧ (0 ≤ v' ∧ v' ≤ hi) ∧ (mrd a' 110 9 = 0 → v' = v) := by
  have e12 := q.e12
  have ge := q.ge
  by_cases c : mrd a 110 9 = 0
  · have t := q.tg c
    have t1 := t.1.1
    by_cases c2 : mrd b 235 14 = 2
    · obtain ⟨t6, t6a, t6b⟩ := t.2.2.2.2.2.1 c2
      by_cases c3 : lo ≤ mrd b 235 17 ∧ mrd b 235 17 ≤ hi
      · obtain ⟨a', b', y1, y2, y3, y4, y5, y6, y7⟩ := adv2 (d := d) (d' := d') q c (by omega)
        have t3 := t.2.2.1 (by omega)
        have t4 := t3.2.2.2 (by omega)
        exact ⟨mrd a 110 7, mrd b 235 17, a', b', x_numT q.k c (by omega) (by omega) (by omega) y1, m_countT q.km (by omega) c2 c3 y2, ⟨y3, y4, y5, fun _ => ⟨c, by omega⟩, fun z => absurd c z⟩, by omega, by omega, fun _ => t6.symm⟩
      · obtain ⟨r1, r2, r3, r4⟩ := blm_both q (w := 4) (by decide)
        have r5 := r1.e12
        have r6 := r1.ge
        exact ⟨lo, 0, _, _, x_numF q.k c (by omega) (by omega), m_countF q.km (by omega) c2 c3 r1.km (by omega), ⟨r3, r4, r1, fun z => absurd z r2, fun z => absurd c z⟩, by omega, by omega, fun z => absurd z r2⟩
    · obtain ⟨a', b', y1, y2, y3, y4, y5, y6, y7⟩ := mis_both (d := d) (d' := d') q
      have r5 := y5.e12
      have r6 := y5.ge
      exact ⟨lo, 0, a', b', x_num0 q.k (Or.inr (by omega)) y1, m_countW q.km (by omega) c2 y2 y5.km (by omega), ⟨y3, y4, y5, fun z => absurd z y6, y7⟩, by omega, by omega, fun z => absurd z y6⟩
  · obtain ⟨a', b', y1, y2, y3, y4, y5, y6, y7⟩ := mis_both (d := d) (d' := d') q
    obtain ⟨rfl, rfl⟩ := y7 c
    exact ⟨lo, 0, a', b', x_num0 q.k (Or.inl c) y1, m_count0 q.km (by omega), ⟨y3, y4, y5, fun z => absurd z y6, y7⟩, by omega, by omega, fun z => absurd z y6⟩
theorem x_let0 (kk : isK a 110 5) (h : mrd a 110 9 ≠ 0 ∨ mrd a 110 5 ≠ 1 ∨ w32 (mrd a 110 4 - mrd a 110 6) ≠ 1) (g : EV d 40 0 [(2, 110)] [] a = some ((3, 0), a')) : EV (d + 1) 46 0 [(2, 110), (3, 0)] [] a = some ((0, 0), a') := by
  by_cases c : mrd a 110 9 = 0
  · by_cases c5 : mrd a 110 5 = 1
    · have c6 : ¬ w32 (mrd a 110 4 - mrd a 110 6) = 1 := by omega
      simp only [e46_0, e46_1, e46_4, e46_7, e46_8, e46_11, e46_12, e46_15, e46_16, e46_19, e46_20, e46_23, e46_24, e46_25, e46_28, e46_29, e46_32, e46_33, e46_34, e46_35, e46_38, e46_39, e46_40, e46_41, e46_44, e46_45, psh0, psh1, psh3, true_or, or_true, eq_self, Option.bind_some, List.length_nil, List.length_cons, Nat.reduceAdd, Nat.reduceLeDiff, Nat.zero_le, ↓reduceIte, Int.reduceLT, Int.reduceEq, Int.reduceLE, Int.reduceNeg, Int.reduceAdd, Int.reduceMul, Int.reduceSub, ne_eq, not_true_eq_false, not_false_eq_true, and_true, true_and, and_false, false_and, c3lt, c3gt, c3eq, Bool.false_eq_true, isK_wr, inA_wr, inR_wr, kk, c, c5, c6, g]
    · simp only [e46_0, e46_1, e46_4, e46_7, e46_8, e46_11, e46_12, e46_15, e46_16, e46_19, e46_20, e46_23, e46_24, e46_25, e46_28, e46_29, e46_32, e46_33, e46_34, e46_35, e46_38, e46_39, e46_40, e46_41, e46_44, e46_45, psh0, psh1, psh3, true_or, or_true, eq_self, Option.bind_some, List.length_nil, List.length_cons, Nat.reduceAdd, Nat.reduceLeDiff, Nat.zero_le, ↓reduceIte, Int.reduceLT, Int.reduceEq, Int.reduceLE, Int.reduceNeg, Int.reduceAdd, Int.reduceMul, Int.reduceSub, ne_eq, not_true_eq_false, not_false_eq_true, and_true, true_and, and_false, false_and, c3lt, c3gt, c3eq, Bool.false_eq_true, isK_wr, inA_wr, inR_wr, kk, c, c5, g]
  · simp only [e46_0, e46_1, e46_4, e46_7, e46_8, e46_11, e46_12, e46_15, e46_16, e46_19, e46_20, e46_23, e46_24, e46_25, e46_28, e46_29, e46_32, e46_33, e46_34, e46_35, e46_38, e46_39, e46_40, e46_41, e46_44, e46_45, psh0, psh1, psh3, true_or, or_true, eq_self, Option.bind_some, List.length_nil, List.length_cons, Nat.reduceAdd, Nat.reduceLeDiff, Nat.zero_le, ↓reduceIte, Int.reduceLT, Int.reduceEq, Int.reduceLE, Int.reduceNeg, Int.reduceAdd, Int.reduceMul, Int.reduceSub, ne_eq, not_true_eq_false, not_false_eq_true, and_true, true_and, and_false, false_and, c3lt, c3gt, c3eq, Bool.false_eq_true, isK_wr, inA_wr, inR_wr, kk, c, g]
theorem x_let1 (kk : isK a 110 5) (c : mrd a 110 9 = 0) (c5 : mrd a 110 5 = 1) (c6 : w32 (mrd a 110 4 - mrd a 110 6) = 1) (hv : 0 ≤ mrd a 110 7 ∧ mrd a 110 7 ≤ 26) (g : EV d 35 0 [(2, 110)] [] a = some ((3, 0), a')) : EV (d + 1) 46 0 [(2, 110), (3, 0)] [] a = some ((0, mrd a 110 7), a') := by
  have w : w32 (mrd a 110 7) = mrd a 110 7 := w32_id (by omega) (by omega)
  simp only [e46_0, e46_1, e46_4, e46_7, e46_8, e46_11, e46_12, e46_15, e46_16, e46_19, e46_20, e46_23, e46_24, e46_25, e46_28, e46_29, e46_32, e46_33, e46_34, e46_35, e46_38, e46_39, e46_40, e46_41, e46_44, e46_45, psh0, psh1, psh3, true_or, or_true, eq_self, Option.bind_some, List.length_nil, List.length_cons, Nat.reduceAdd, Nat.reduceLeDiff, Nat.zero_le, ↓reduceIte, Int.reduceLT, Int.reduceEq, Int.reduceLE, Int.reduceNeg, Int.reduceAdd, Int.reduceMul, Int.reduceSub, ne_eq, not_true_eq_false, not_false_eq_true, and_true, true_and, and_false, false_and, c3lt, c3gt, c3eq, Bool.false_eq_true, isK_wr, inA_wr, inR_wr, kk, c, c5, c6, w, g]
/-- passLetter and must -/
theorem pl_both (q : QQ N a b) : ∃ v a' b', EV (d + 2) 46 0 [(2, 110), (3, 0)] [] a = some ((0, v), a') ∧ EV (d' + 2) 215 0 [(2, 235), (0, if mrd b 235 14 = 1 ∧ mrd b 235 18 = 1 then 1 else 0)] [] b = some ((3, 0), b') ∧ Stp2 N a b a' b' ∧ (0 ≤ v ∧ v ≤ 26) ∧ (mrd a' 110 9 = 0 → v = mrd b 239 (mrd b 235 15) - 96 ∧ 1 ≤ v ∧ mrd b 235 15 < N) := by
  have e12 := q.e12
  have ge := q.ge
  have n9 := q.2.1.2.2.1
  by_cases c : mrd a 110 9 = 0
  · have t := q.tg c
    have t1 := t.1.1
    by_cases c2 : mrd b 235 14 = 1
    · obtain ⟨s1, s2, s3, s4⟩ := t.2.2.2.2.1 c2
      have t3 := t.2.2.1 (by omega)
      have t4 := t3.2.2.2 (by omega)
      have t2 := t.2.1
      have ew : w32 (mrd a 110 4 - mrd a 110 6) = mrd b 235 18 := by
        rw [t3.1, t2.1, s1]; exact w32_id (by omega) (by omega)
      by_cases c3 : mrd b 235 18 = 1
      · obtain ⟨a', b', y1, y2, y3, y4, y5, y6, y7⟩ := adv2 (d := d) (d' := d') q c (by omega)
        obtain ⟨u1, u2, u3⟩ := s2 (by omega)
        obtain ⟨v1, v2, v3⟩ := s4 c3
        refine ⟨mrd a 110 7, a', b', x_let1 q.k c (by omega) (by omega) (by omega) y1, ?_, ⟨y3, y4, y5, fun _ => ⟨c, by omega⟩, fun z => absurd c z⟩, by omega, fun _ => ⟨by omega, by omega, by omega⟩⟩
        rw [if_pos ⟨c2, c3⟩]
        exact m_must1 q.km (by omega) y2
      · obtain ⟨a', b', y1, y2, y3, y4, y5, y6, y7⟩ := mis_both (d := d) (d' := d') q
        refine ⟨0, a', b', x_let0 q.k (Or.inr (Or.inr (by omega))) y1, ?_, ⟨y3, y4, y5, fun z => absurd z y6, y7⟩, by omega, fun z => absurd z y6⟩
        rw [if_neg (fun z => c3 z.2)]
        exact m_mustF q.km (by omega) y2
    · obtain ⟨a', b', y1, y2, y3, y4, y5, y6, y7⟩ := mis_both (d := d) (d' := d') q
      refine ⟨0, a', b', x_let0 q.k (Or.inr (Or.inl (by omega))) y1, ?_, ⟨y3, y4, y5, fun z => absurd z y6, y7⟩, by omega, fun z => absurd z y6⟩
      rw [if_neg (fun z => c2 z.1)]
      exact m_mustF q.km (by omega) y2
  · obtain ⟨a', b', y1, y2, y3, y4, y5, y6, y7⟩ := mis_both (d := d) (d' := d') q
    obtain ⟨rfl, rfl⟩ := y7 c
    exact ⟨0, a', b', x_let0 q.k (Or.inl c) y1, m_must0 q.km (by omega), ⟨y3, y4, y5, fun z => absurd z y6, y7⟩, by omega, fun z => absurd z y6⟩
theorem x_see0 (kk : isK a 110 5) (h : mrd a 110 9 ≠ 0 ∨ mrd a 110 5 ≠ 1 ∨ mrd a 110 8 ≠ -1 ∨ 8 < w32 (mrd a 110 4 - mrd a 110 6)) (g : EV d 40 0 [(2, 110)] [] a = some ((3, 0), a')) : EV (d + 1) 48 0 [(2, 110)] [] a = some ((1, 0), a') := by
  by_cases c : mrd a 110 9 = 0
  · by_cases c5 : mrd a 110 5 = 1
    · by_cases c8 : mrd a 110 8 = -1
      · have c6 : 8 < w32 (mrd a 110 4 - mrd a 110 6) := by omega
        simp only [e48_0, e48_1, e48_4, e48_7, e48_8, e48_11, e48_12, e48_15, e48_16, e48_19, e48_20, e48_23, e48_24, e48_27, e48_28, e48_31, e48_32, e48_34, e48_37, e48_38, e48_41, e48_42, e48_43, e48_46, e48_47, psh0, psh1, psh3, true_or, or_true, eq_self, Option.bind_some, List.length_nil, List.length_cons, Nat.reduceAdd, Nat.reduceLeDiff, Nat.zero_le, ↓reduceIte, Int.reduceLT, Int.reduceEq, Int.reduceLE, Int.reduceNeg, Int.reduceAdd, Int.reduceMul, Int.reduceSub, ne_eq, not_true_eq_false, not_false_eq_true, and_true, true_and, and_false, false_and, c3lt, c3gt, c3eq, Bool.false_eq_true, isK_wr, inA_wr, inR_wr, kk, c, c5, c8, c6, g]
      · simp only [e48_0, e48_1, e48_4, e48_7, e48_8, e48_11, e48_12, e48_15, e48_16, e48_19, e48_20, e48_23, e48_24, e48_27, e48_28, e48_31, e48_32, e48_34, e48_37, e48_38, e48_41, e48_42, e48_43, e48_46, e48_47, psh0, psh1, psh3, true_or, or_true, eq_self, Option.bind_some, List.length_nil, List.length_cons, Nat.reduceAdd, Nat.reduceLeDiff, Nat.zero_le, ↓reduceIte, Int.reduceLT, Int.reduceEq, Int.reduceLE, Int.reduceNeg, Int.reduceAdd, Int.reduceMul, Int.reduceSub, ne_eq, not_true_eq_false, not_false_eq_true, and_true, true_and, and_false, false_and, c3lt, c3gt, c3eq, Bool.false_eq_true, isK_wr, inA_wr, inR_wr, kk, c, c5, c8, g]
    · simp only [e48_0, e48_1, e48_4, e48_7, e48_8, e48_11, e48_12, e48_15, e48_16, e48_19, e48_20, e48_23, e48_24, e48_27, e48_28, e48_31, e48_32, e48_34, e48_37, e48_38, e48_41, e48_42, e48_43, e48_46, e48_47, psh0, psh1, psh3, true_or, or_true, eq_self, Option.bind_some, List.length_nil, List.length_cons, Nat.reduceAdd, Nat.reduceLeDiff, Nat.zero_le, ↓reduceIte, Int.reduceLT, Int.reduceEq, Int.reduceLE, Int.reduceNeg, Int.reduceAdd, Int.reduceMul, Int.reduceSub, ne_eq, not_true_eq_false, not_false_eq_true, and_true, true_and, and_false, false_and, c3lt, c3gt, c3eq, Bool.false_eq_true, isK_wr, inA_wr, inR_wr, kk, c, c5, g]
  · simp only [e48_0, e48_1, e48_4, e48_7, e48_8, e48_11, e48_12, e48_15, e48_16, e48_19, e48_20, e48_23, e48_24, e48_27, e48_28, e48_31, e48_32, e48_34, e48_37, e48_38, e48_41, e48_42, e48_43, e48_46, e48_47, psh0, psh1, psh3, true_or, or_true, eq_self, Option.bind_some, List.length_nil, List.length_cons, Nat.reduceAdd, Nat.reduceLeDiff, Nat.zero_le, ↓reduceIte, Int.reduceLT, Int.reduceEq, Int.reduceLE, Int.reduceNeg, Int.reduceAdd, Int.reduceMul, Int.reduceSub, ne_eq, not_true_eq_false, not_false_eq_true, and_true, true_and, and_false, false_and, c3lt, c3gt, c3eq, Bool.false_eq_true, isK_wr, inA_wr, inR_wr, kk, c, g]
theorem x_see1 (kk : isK a 110 5) (c : mrd a 110 9 = 0) (c5 : mrd a 110 5 = 1) (c8 : mrd a 110 8 = -1) (c6 : ¬ 8 < w32 (mrd a 110 4 - mrd a 110 6)) : EV (d + 1) 48 0 [(2, 110)] [] a = some ((1, mrd a 110 7), a) := by
  simp only [e48_0, e48_1, e48_4, e48_7, e48_8, e48_11, e48_12, e48_15, e48_16, e48_19, e48_20, e48_23, e48_24, e48_27, e48_28, e48_31, e48_32, e48_34, e48_37, e48_38, e48_41, e48_42, e48_43, e48_46, e48_47, psh0, psh1, psh3, true_or, or_true, eq_self, Option.bind_some, List.length_nil, List.length_cons, Nat.reduceAdd, Nat.reduceLeDiff, Nat.zero_le, ↓reduceIte, Int.reduceLT, Int.reduceEq, Int.reduceLE, Int.reduceNeg, Int.reduceAdd, Int.reduceMul, Int.reduceSub, ne_eq, not_true_eq_false, not_false_eq_true, and_true, true_and, and_false, false_and, c3lt, c3gt, c3eq, Bool.false_eq_true, isK_wr, inA_wr, inR_wr, kk, c, c5, c8, c6]
/-- the reference's sight of a name -/
def nq (b : AM) : Int := if mrd b 235 14 = 1 ∧ mrd b 235 18 ≤ 8 ∧ wx b = -1 then 1 else 0
/-- seeName and isName: a name that both see, or both have a fault; nothing is passed -/
theorem sn_both (q : QQ N a b) : ∃ v a' b', EV (d + 2) 48 0 [(2, 110)] [] a = some ((1, v), a') ∧ AX a a' ∧ NX b b' ∧ QQ N a' b' ∧ (mrd a 110 9 ≠ 0 → a' = a ∧ b' = b ∧ v = 0) ∧ (mrd a 110 9 = 0 → nq b = 1 → a' = a ∧ b' = b ∧ v = mrd b 235 19 ∧ 0 ≤ v ∧ mrd b 235 14 = 1) ∧ (mrd a 110 9 = 0 → nq b ≠ 1 → nq b = 0 ∧ EV (d' + 1) 214 0 [(2, 235)] [] b = some ((3, 0), b') ∧ mrd a' 110 9 ≠ 0 ∧ v = 0) := by
  have e12 := q.e12
  have ge := q.ge
  have n9 := q.2.1.2.2.1
  obtain ⟨a', b', y1, y2, y3, y4, y5, y6, y7⟩ := mis_both (d := d) (d' := d') q
  by_cases c : mrd a 110 9 = 0
  · have t := q.tg c
    have t1 := t.1.1
    have w8 := t.w8
    by_cases cn : mrd b 235 14 = 1 ∧ mrd b 235 18 ≤ 8 ∧ wx b = -1
    · have n1 : nq b = 1 := if_pos cn
      obtain ⟨c2, c3, c4⟩ := cn
      obtain ⟨s1, s2, s3, s4⟩ := t.2.2.2.2.1 c2
      have t3 := t.2.2.1 (by omega)
      have t4 := t3.2.2.2 (by omega)
      have t2 := t.2.1
      have ew : w32 (mrd a 110 4 - mrd a 110 6) = mrd b 235 18 := by
        rw [t3.1, t2.1, s1]; exact w32_id (by omega) (by omega)
      obtain ⟨u1, u2, u3⟩ := s2 c3
      refine ⟨mrd a 110 7, a, b, x_see1 q.k c (by omega) (by omega) (by omega), AX.rf, NX.rf, q, fun z => absurd c z, fun _ _ => ⟨rfl, rfl, u1, by omega, c2⟩, fun _ z => absurd n1 z⟩
    · have n0 : nq b = 0 := if_neg cn
      refine ⟨0, a', b', x_see0 q.k (Or.inr ?_) y1, y3, y4, y5, fun z => absurd c z, fun _ z => by omega, fun _ _ => ⟨n0, y2, y6, rfl⟩⟩
      by_cases c2 : mrd b 235 14 = 1
      · obtain ⟨s1, s2, s3, s4⟩ := t.2.2.2.2.1 c2
        have t3 := t.2.2.1 (by omega)
        have t2 := t.2.1
        have ew : w32 (mrd a 110 4 - mrd a 110 6) = mrd b 235 18 := by
          rw [t3.1, t2.1, s1]; exact w32_id (by omega) (by omega)
        rw [ew, w8]
        by_cases c3 : wx b = -1
        · exact Or.inr (Or.inr (by omega))
        · exact Or.inr (Or.inl c3)
      · exact Or.inl (by omega)
  · obtain ⟨rfl, rfl⟩ := y7 c
    exact ⟨0, a', b', x_see0 q.k (Or.inl c) y1, y3, y4, y5, fun _ => ⟨rfl, rfl, rfl⟩, fun z => absurd z c, fun z => absurd z c⟩
theorem x_foundN (kk : isK a 110 5) (k' : isK (blm a 3) 110 5) (h : mrd (blm a 3) 110 9 ≠ 0) : EV (d + 1) 49 0 [(2, 110), (0, -1)] [] a = some ((0, 0), blm a 3) := by
  simp only [e49_0, e49_1, e49_2, e49_5, e49_6, e49_7, e49_10, e49_11, e49_14, e49_17, e49_18, e49_19, e49_20, e49_23, e49_24, psh0, psh1, psh3, true_or, or_true, eq_self, Option.bind_some, List.length_nil, List.length_cons, Nat.reduceAdd, Nat.reduceLeDiff, Nat.zero_le, ↓reduceIte, Int.reduceLT, Int.reduceEq, Int.reduceLE, Int.reduceNeg, Int.reduceAdd, Int.reduceMul, Int.reduceSub, ne_eq, not_true_eq_false, not_false_eq_true, and_true, true_and, and_false, false_and, c3lt, c3gt, c3eq, Bool.false_eq_true, isK_wr, inA_wr, inR_wr, kk, k', h, x_blame kk]
theorem x_foundW {k : Int} (kk : isK a 110 5) (hk : k ≠ -1) (h : mrd a 110 9 ≠ 0) : EV d 49 0 [(2, 110), (0, k)] [] a = some ((0, 0), a) := by
  simp only [e49_0, e49_1, e49_2, e49_5, e49_6, e49_7, e49_10, e49_11, e49_14, e49_17, e49_18, e49_19, e49_20, e49_23, e49_24, psh0, psh1, psh3, true_or, or_true, eq_self, Option.bind_some, List.length_nil, List.length_cons, Nat.reduceAdd, Nat.reduceLeDiff, Nat.zero_le, ↓reduceIte, Int.reduceLT, Int.reduceEq, Int.reduceLE, Int.reduceNeg, Int.reduceAdd, Int.reduceMul, Int.reduceSub, ne_eq, not_true_eq_false, not_false_eq_true, and_true, true_and, and_false, false_and, c3lt, c3gt, c3eq, Bool.false_eq_true, isK_wr, inA_wr, inR_wr, kk, hk, h]
theorem x_foundT {k : Int} (kk : isK a 110 5) (hk : k ≠ -1) (h : mrd a 110 9 = 0) (g : EV d 35 0 [(2, 110)] [] a = some ((3, 0), a')) : EV (d + 1) 49 0 [(2, 110), (0, k)] [] a = some ((0, k), a') := by
  simp only [e49_0, e49_1, e49_2, e49_5, e49_6, e49_7, e49_10, e49_11, e49_14, e49_17, e49_18, e49_19, e49_20, e49_23, e49_24, psh0, psh1, psh3, true_or, or_true, eq_self, Option.bind_some, List.length_nil, List.length_cons, Nat.reduceAdd, Nat.reduceLeDiff, Nat.zero_le, ↓reduceIte, Int.reduceLT, Int.reduceEq, Int.reduceLE, Int.reduceNeg, Int.reduceAdd, Int.reduceMul, Int.reduceSub, ne_eq, not_true_eq_false, not_false_eq_true, and_true, true_and, and_false, false_and, c3lt, c3gt, c3eq, Bool.false_eq_true, isK_wr, inA_wr, inR_wr, kk, hk, h, g]
/-- passFound; and a fault or none, then must -/
theorem pf_both {k : Int} (q : QQ N a b) (k0 : -1 ≤ k) (hn : mrd a 110 9 = 0 → mrd b 235 14 = 1) : ∃ v a' b', EV (d + 2) 49 0 [(2, 110), (0, k)] [] a = some ((0, v), a') ∧ EV (d' + 2) 215 0 [(2, 235), (0, 1)] [] (if k < 0 then flm b 3 (mrd b 235 15) else b) = some ((3, 0), b') ∧ Stp2 N a b a' b' ∧ (0 ≤ v ∧ (v = k ∨ v = 0)) ∧ (mrd a' 110 9 = 0 → v = k ∧ 0 ≤ k) := by
  have e12 := q.e12
  have ge := q.ge
  by_cases ck : k = -1
  · obtain ⟨r1, r2, r3, r4⟩ := blm_both q (w := 3) (by decide)
    have r5 := r1.e12
    have r6 := r1.ge
    subst ck
    rw [if_pos (by decide)]
    refine ⟨0, _, _, x_foundN q.k r1.k r2, m_must0 r1.km (by omega), ⟨r3, r4, r1, fun z => absurd z r2, fun z => ?_⟩, by omega, fun z => absurd z r2⟩
    exact ⟨if_neg z, if_pos (by omega)⟩
  · rw [if_neg (by omega)]
    by_cases c : mrd a 110 9 = 0
    · have h1 := hn c
      obtain ⟨a', b', y1, y2, y3, y4, y5, y6, y7⟩ := adv2 (d := d) (d' := d') q c (by omega)
      have t3 := (q.tg c).2.2.1 (by omega)
      have t4 := t3.2.2.2 (by omega)
      exact ⟨k, a', b', x_foundT q.k ck c y1, m_must1 q.km (by omega) y2, ⟨y3, y4, y5, fun _ => ⟨c, by omega⟩, fun z => absurd c z⟩, by omega, fun _ => ⟨rfl, by omega⟩⟩
    · exact ⟨0, a, b, x_foundW q.k ck c, m_must0 q.km (by omega), ⟨AX.rf, NX.rf, q, fun z => absurd z c, fun _ => ⟨rfl, rfl⟩⟩, by omega, fun z => absurd z c⟩
end

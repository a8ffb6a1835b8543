/-! calls that ask one thing -/
theorem op_status : Op_status Inv := by
  intro d h hI
  obtain ⟨s, e8, hs, k0, kM, cs, ds⟩ := ctx hI
  refine ⟨mrd h 0 11, h, mwr h 235 1 0, ?_, ?_, ?_⟩
  · simp only [e104_0, e104_1, e104_4, psh0, psh1, psh3, true_or, or_true, eq_self, Option.bind_some, List.length_nil, List.length_cons, Nat.reduceAdd, Nat.reduceLeDiff, Nat.zero_le, ↓reduceIte, Int.reduceLT, Int.reduceEq, Int.reduceLE, Int.reduceNeg, Int.reduceAdd, Int.reduceMul, Int.reduceSub, ne_eq, not_true_eq_false, not_false_eq_true, and_true, true_and, and_false, false_and, c3lt, c3gt, c3eq, Bool.false_eq_true, isK_wr, inA_wr, inR_wr, k0]
  · simp only [e172_0, e172_1, e172_2, e172_5, e172_6, e172_9, psh0, psh1, psh3, true_or, or_true, eq_self, Option.bind_some, List.length_nil, List.length_cons, Nat.reduceAdd, Nat.reduceLeDiff, Nat.zero_le, ↓reduceIte, Int.reduceLT, Int.reduceEq, Int.reduceLE, Int.reduceNeg, Int.reduceAdd, Int.reduceMul, Int.reduceSub, ne_eq, not_true_eq_false, not_false_eq_true, and_true, true_and, and_false, false_and, c3lt, c3gt, c3eq, Bool.false_eq_true, isK_wr, inA_wr, inR_wr, kM]
    rw [rdn2 (by decide)]
    rw [hI.2.2.1]
  · refine Inv_fr hI (Fr_wr Scr_m1 Fr.rf) ?_ hI.1 (RSum_eq rfl ?_ hI.2.2.2.1) rfl
    · rw [rdn1 (by decide), rdn2 (by decide)]; exact hI.2.2.1
    · rw [rdn1 (by decide)]
theorem Inv_m1 {h : AM} (hI : Inv h) : Inv (mwr h 235 1 0) := by
  refine Inv_fr hI (Fr_wr Scr_m1 Fr.rf) ?_ hI.1 (RSum_eq rfl ?_ hI.2.2.2.1) rfl
  · rw [rdn1 (by decide), rdn2 (by decide)]; exact hI.2.2.1
  · rw [rdn1 (by decide)]
theorem op_top : Op_top Inv := by
  intro d h hI
  obtain ⟨s, e8, hs, k0, kM, cs, ds⟩ := ctx hI
  refine ⟨mrd h 0 12, h, mwr h 235 1 0, ?_, ?_, Inv_m1 hI⟩
  · simp only [e105_0, e105_1, e105_4, psh0, psh1, psh3, true_or, or_true, eq_self, Option.bind_some, List.length_nil, List.length_cons, Nat.reduceAdd, Nat.reduceLeDiff, Nat.zero_le, ↓reduceIte, Int.reduceLT, Int.reduceEq, Int.reduceLE, Int.reduceNeg, Int.reduceAdd, Int.reduceMul, Int.reduceSub, ne_eq, not_true_eq_false, not_false_eq_true, and_true, true_and, and_false, false_and, c3lt, c3gt, c3eq, Bool.false_eq_true, isK_wr, inA_wr, inR_wr, k0]
  · simp only [e173_0, e173_1, e173_2, e173_5, e173_6, e173_9, psh0, psh1, psh3, true_or, or_true, eq_self, Option.bind_some, List.length_nil, List.length_cons, Nat.reduceAdd, Nat.reduceLeDiff, Nat.zero_le, ↓reduceIte, Int.reduceLT, Int.reduceEq, Int.reduceLE, Int.reduceNeg, Int.reduceAdd, Int.reduceMul, Int.reduceSub, ne_eq, not_true_eq_false, not_false_eq_true, and_true, true_and, and_false, false_and, c3lt, c3gt, c3eq, Bool.false_eq_true, isK_wr, inA_wr, inR_wr, kM]
    rw [rdn2 (by decide), show mrd h 0 12 = mrd h 235 2 from hI.2.1.2.1.2.2.1]
theorem op_bottom : Op_bottom Inv := by
  intro d h hI
  obtain ⟨s, e8, hs, k0, kM, cs, ds⟩ := ctx hI
  refine ⟨mrd h 0 13, h, mwr h 235 1 0, ?_, ?_, Inv_m1 hI⟩
  · simp only [e106_0, e106_1, e106_4, psh0, psh1, psh3, true_or, or_true, eq_self, Option.bind_some, List.length_nil, List.length_cons, Nat.reduceAdd, Nat.reduceLeDiff, Nat.zero_le, ↓reduceIte, Int.reduceLT, Int.reduceEq, Int.reduceLE, Int.reduceNeg, Int.reduceAdd, Int.reduceMul, Int.reduceSub, ne_eq, not_true_eq_false, not_false_eq_true, and_true, true_and, and_false, false_and, c3lt, c3gt, c3eq, Bool.false_eq_true, isK_wr, inA_wr, inR_wr, k0]
  · simp only [e174_0, e174_1, e174_2, e174_5, e174_6, e174_9, psh0, psh1, psh3, true_or, or_true, eq_self, Option.bind_some, List.length_nil, List.length_cons, Nat.reduceAdd, Nat.reduceLeDiff, Nat.zero_le, ↓reduceIte, Int.reduceLT, Int.reduceEq, Int.reduceLE, Int.reduceNeg, Int.reduceAdd, Int.reduceMul, Int.reduceSub, ne_eq, not_true_eq_false, not_false_eq_true, and_true, true_and, and_false, false_and, c3lt, c3gt, c3eq, Bool.false_eq_true, isK_wr, inA_wr, inR_wr, kM]
    rw [rdn2 (by decide), show mrd h 0 13 = mrd h 235 3 from hI.2.1.2.1.2.2.2]
theorem op_fault : Op_fault Inv := by
  intro d h a0 hI _
  obtain ⟨s, e8, hs, k0, kM, cs, ds⟩ := ctx hI
  have e1 : mrd h 0 14 = mrd h 235 10 := hI.2.1.2.1.1
  have e2 : mrd h 0 15 = mrd h 235 11 := hI.2.1.2.1.2.1
  have f1 : mrd (mwr h 235 1 0) 235 10 = mrd h 235 10 := rdn2 (by decide)
  have f2 : mrd (mwr h 235 1 0) 235 11 = mrd h 235 11 := rdn2 (by decide)
  by_cases c0 : a0 = 0
  · subst c0
    refine ⟨mrd h 0 14, h, mwr h 235 1 0, ?_, ?_, Inv_m1 hI⟩
    · simp only [e114_0, e114_1, e114_4, e114_5, e114_8, e114_9, e114_10, e114_11, e114_14, e114_15, e114_18, e114_21, e114_22, psh0, psh1, psh3, true_or, or_true, eq_self, Option.bind_some, List.length_nil, List.length_cons, Nat.reduceAdd, Nat.reduceLeDiff, Nat.zero_le, ↓reduceIte, Int.reduceLT, Int.reduceEq, Int.reduceLE, Int.reduceNeg, Int.reduceAdd, Int.reduceMul, Int.reduceSub, ne_eq, not_true_eq_false, not_false_eq_true, and_true, true_and, and_false, false_and, c3lt, c3gt, c3eq, Bool.false_eq_true, isK_wr, inA_wr, inR_wr, k0]
    · simp only [e221_0, e221_1, e221_2, e221_5, e221_6, e221_9, e221_10, e221_13, e221_16, e221_17, e221_18, e221_21, e221_22, e221_25, e221_28, e221_29, psh0, psh1, psh3, true_or, or_true, eq_self, Option.bind_some, List.length_nil, List.length_cons, Nat.reduceAdd, Nat.reduceLeDiff, Nat.zero_le, ↓reduceIte, Int.reduceLT, Int.reduceEq, Int.reduceLE, Int.reduceNeg, Int.reduceAdd, Int.reduceMul, Int.reduceSub, ne_eq, not_true_eq_false, not_false_eq_true, and_true, true_and, and_false, false_and, c3lt, c3gt, c3eq, Bool.false_eq_true, isK_wr, inA_wr, inR_wr, kM, f1, e1]
  by_cases c1 : a0 = 1
  · subst c1
    refine ⟨mrd h 0 15, h, mwr h 235 1 0, ?_, ?_, Inv_m1 hI⟩
    · simp only [e114_0, e114_1, e114_4, e114_5, e114_8, e114_9, e114_10, e114_11, e114_14, e114_15, e114_18, e114_21, e114_22, psh0, psh1, psh3, true_or, or_true, eq_self, Option.bind_some, List.length_nil, List.length_cons, Nat.reduceAdd, Nat.reduceLeDiff, Nat.zero_le, ↓reduceIte, Int.reduceLT, Int.reduceEq, Int.reduceLE, Int.reduceNeg, Int.reduceAdd, Int.reduceMul, Int.reduceSub, ne_eq, not_true_eq_false, not_false_eq_true, and_true, true_and, and_false, false_and, c3lt, c3gt, c3eq, Bool.false_eq_true, isK_wr, inA_wr, inR_wr, k0]
    · simp only [e221_0, e221_1, e221_2, e221_5, e221_6, e221_9, e221_10, e221_13, e221_16, e221_17, e221_18, e221_21, e221_22, e221_25, e221_28, e221_29, psh0, psh1, psh3, true_or, or_true, eq_self, Option.bind_some, List.length_nil, List.length_cons, Nat.reduceAdd, Nat.reduceLeDiff, Nat.zero_le, ↓reduceIte, Int.reduceLT, Int.reduceEq, Int.reduceLE, Int.reduceNeg, Int.reduceAdd, Int.reduceMul, Int.reduceSub, ne_eq, not_true_eq_false, not_false_eq_true, and_true, true_and, and_false, false_and, c3lt, c3gt, c3eq, Bool.false_eq_true, isK_wr, inA_wr, inR_wr, kM, f2, e2]
  · refine ⟨-1, h, mwr h 235 1 0, ?_, ?_, Inv_m1 hI⟩
    · simp only [e114_0, e114_1, e114_4, e114_5, e114_8, e114_9, e114_10, e114_11, e114_14, e114_15, e114_18, e114_21, e114_22, psh0, psh1, psh3, true_or, or_true, eq_self, Option.bind_some, List.length_nil, List.length_cons, Nat.reduceAdd, Nat.reduceLeDiff, Nat.zero_le, ↓reduceIte, Int.reduceLT, Int.reduceEq, Int.reduceLE, Int.reduceNeg, Int.reduceAdd, Int.reduceMul, Int.reduceSub, ne_eq, not_true_eq_false, not_false_eq_true, and_true, true_and, and_false, false_and, c3lt, c3gt, c3eq, Bool.false_eq_true, isK_wr, inA_wr, inR_wr, k0, c0, c1]
    · simp only [e221_0, e221_1, e221_2, e221_5, e221_6, e221_9, e221_10, e221_13, e221_16, e221_17, e221_18, e221_21, e221_22, e221_25, e221_28, e221_29, psh0, psh1, psh3, true_or, or_true, eq_self, Option.bind_some, List.length_nil, List.length_cons, Nat.reduceAdd, Nat.reduceLeDiff, Nat.zero_le, ↓reduceIte, Int.reduceLT, Int.reduceEq, Int.reduceLE, Int.reduceNeg, Int.reduceAdd, Int.reduceMul, Int.reduceSub, ne_eq, not_true_eq_false, not_false_eq_true, and_true, true_and, and_false, false_and, c3lt, c3gt, c3eq, Bool.false_eq_true, isK_wr, inA_wr, inR_wr, kM, c0, c1]

/-! the fault is kept, both sides -/
section
variable {d : Nat} {a b : AM}
theorem x_keep (k0 : isK a 0 10) (r1 : mrd a 0 1 = 110) (kk : isK a 110 5) : EV d 163 0 [(2, 0)] [] a = some ((3, 0), mwr (mwr (mwr a 110 2 0) 0 14 (mrd a 110 9)) 0 15 (if mrd a 110 9 = 0 then -1 else mrd a 110 10)) := by
  have e1 : mrd (mwr a 110 2 0) 0 1 = 110 := by rw [rdn1 (by decide)]; exact r1
  have e9 : mrd (mwr a 110 2 0) 110 9 = mrd a 110 9 := rdn2 (by decide)
  have f1 : mrd (mwr (mwr a 110 2 0) 0 14 (mrd a 110 9)) 0 1 = 110 := by rw [rdn2 (by decide)]; exact e1
  have f9 : mrd (mwr (mwr a 110 2 0) 0 14 (mrd a 110 9)) 110 9 = mrd a 110 9 := by rw [rdn1 (by decide)]; exact e9
  have f10 : mrd (mwr (mwr a 110 2 0) 0 14 (mrd a 110 9)) 110 10 = mrd a 110 10 := by rw [rdn1 (by decide), rdn2 (by decide)]
  by_cases c : mrd a 110 9 = 0
  · rw [if_pos c]
    rw [c] at e9 f1 f9 ⊢
    simp only [e163_0, e163_1, e163_4, e163_5, e163_8, e163_9, e163_10, e163_13, e163_16, e163_19, e163_20, e163_21, e163_24, e163_27, e163_30, e163_31, e163_34, e163_35, e163_38, e163_41, e163_44, psh0, psh1, psh3, true_or, or_true, eq_self, Option.bind_some, List.length_nil, List.length_cons, Nat.reduceAdd, Nat.reduceLeDiff, Nat.zero_le, ↓reduceIte, Int.reduceLT, Int.reduceEq, Int.reduceLE, Int.reduceNeg, Int.reduceAdd, Int.reduceMul, Int.reduceSub, ne_eq, not_true_eq_false, not_false_eq_true, and_true, true_and, and_false, false_and, c3lt, c3gt, c3eq, Bool.false_eq_true, isK_wr, inA_wr, inR_wr, k0, r1, kk, e1, e9, f1, f9]
  · rw [if_neg c]
    simp only [e163_0, e163_1, e163_4, e163_5, e163_8, e163_9, e163_10, e163_13, e163_16, e163_19, e163_20, e163_21, e163_24, e163_27, e163_30, e163_31, e163_34, e163_35, e163_38, e163_41, e163_44, psh0, psh1, psh3, true_or, or_true, eq_self, Option.bind_some, List.length_nil, List.length_cons, Nat.reduceAdd, Nat.reduceLeDiff, Nat.zero_le, ↓reduceIte, Int.reduceLT, Int.reduceEq, Int.reduceLE, Int.reduceNeg, Int.reduceAdd, Int.reduceMul, Int.reduceSub, ne_eq, not_true_eq_false, not_false_eq_true, and_true, true_and, and_false, false_and, c3lt, c3gt, c3eq, Bool.false_eq_true, isK_wr, inA_wr, inR_wr, k0, r1, kk, e1, e9, f1, f9, f10, c]
theorem m_well1 (kM : isK b 235 11) (c : mrd b 235 12 = 0) : EV (d + 1) 220 0 [(2, 235)] [] b = some ((0, 1), mwr (mwr b 235 10 0) 235 11 (-1)) := by
  have e : mrd (mwr b 235 10 0) 235 12 = 0 := by rw [rdn2 (by decide)]; exact c
  have f : mrd (mwr (mwr b 235 10 0) 235 11 (-1)) 235 12 = 0 := by rw [rdn2 (by decide)]; exact e
  simp only [e220_0, e220_1, e220_2, e220_5, e220_8, e220_9, e220_10, e220_13, e220_16, e220_17, e220_20, e220_21, e220_24, e220_27, e220_28, e220_31, e220_34, e220_35, e220_37, e220_40, e220_43, e220_44, e220_47, e220_48, psh0, psh1, psh3, true_or, or_true, eq_self, Option.bind_some, List.length_nil, List.length_cons, Nat.reduceAdd, Nat.reduceLeDiff, Nat.zero_le, ↓reduceIte, Int.reduceLT, Int.reduceEq, Int.reduceLE, Int.reduceNeg, Int.reduceAdd, Int.reduceMul, Int.reduceSub, ne_eq, not_true_eq_false, not_false_eq_true, and_true, true_and, and_false, false_and, c3lt, c3gt, c3eq, Bool.false_eq_true, isK_wr, inA_wr, inR_wr, kM, c, e, f]
theorem m_well0 (kM : isK b 235 11) (c : mrd b 235 12 ≠ 0) : EV (d + 1) 220 0 [(2, 235)] [] b = some ((0, 0), mwr (mwr (mwr b 235 10 (mrd b 235 12)) 235 11 (mrd b 235 13)) 235 0 10) := by
  have e : mrd (mwr b 235 10 (mrd b 235 12)) 235 12 = mrd b 235 12 := rdn2 (by decide)
  have e3 : mrd (mwr b 235 10 (mrd b 235 12)) 235 13 = mrd b 235 13 := rdn2 (by decide)
  have f : mrd (mwr (mwr b 235 10 (mrd b 235 12)) 235 11 (mrd b 235 13)) 235 12 = mrd b 235 12 := by rw [rdn2 (by decide)]; exact e
  have g : ∀ b : AM, isK b 235 11 → EV d 176 0 [(2, 235), (0, 10)] [] b = some ((0, 0), mwr b 235 0 10) := fun b kb => by
    simp only [e176_0, e176_1, e176_2, e176_5, e176_6, psh0, psh1, psh3, true_or, or_true, eq_self, Option.bind_some, List.length_nil, List.length_cons, Nat.reduceAdd, Nat.reduceLeDiff, Nat.zero_le, ↓reduceIte, Int.reduceLT, Int.reduceEq, Int.reduceLE, Int.reduceNeg, Int.reduceAdd, Int.reduceMul, Int.reduceSub, ne_eq, not_true_eq_false, not_false_eq_true, and_true, true_and, and_false, false_and, c3lt, c3gt, c3eq, Bool.false_eq_true, isK_wr, inA_wr, inR_wr, kb]
  have g' := g (mwr (mwr b 235 10 (mrd b 235 12)) 235 11 (mrd b 235 13)) kM
  simp only [e220_0, e220_1, e220_2, e220_5, e220_8, e220_9, e220_10, e220_13, e220_16, e220_17, e220_20, e220_21, e220_24, e220_27, e220_28, e220_31, e220_34, e220_35, e220_37, e220_40, e220_43, e220_44, e220_47, e220_48, psh0, psh1, psh3, true_or, or_true, eq_self, Option.bind_some, List.length_nil, List.length_cons, Nat.reduceAdd, Nat.reduceLeDiff, Nat.zero_le, ↓reduceIte, Int.reduceLT, Int.reduceEq, Int.reduceLE, Int.reduceNeg, Int.reduceAdd, Int.reduceMul, Int.reduceSub, ne_eq, not_true_eq_false, not_false_eq_true, and_true, true_and, and_false, false_and, c3lt, c3gt, c3eq, Bool.false_eq_true, isK_wr, inA_wr, inR_wr, kM, c, e, e3, f, g']
end

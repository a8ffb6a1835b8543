/-! sets: what is known, what is open -/
abbrev opn (x n l : Int) : Prop := bI x l.toNat = false ∧ i_and n (i_xor x (-1)) = 0
section
variable {d : Nat} {h : AM} {s a b c k l p v w x y z : Int}
theorem m_has (l0 : 0 ≤ l) (l1 : l < 32) : EV d 188 0 [(0, x), (0, l)] [] h = some ((0, if bI x l.toNat = true then 1 else 0), h) := by
  by_cases hb : bI x l.toNat = true
  · have := (has_1 l0 l1).mpr hb
    simp only [e188_0, e188_1, e188_2, e188_3, e188_4, e188_5, e188_6, e188_9, e188_10, e188_13, e188_14, psh0, psh1, psh3, true_or, or_true, eq_self, Option.bind_some, List.length_nil, List.length_cons, Nat.reduceAdd, Nat.reduceLeDiff, Nat.zero_le, ↓reduceIte, Int.reduceLT, Int.reduceEq, Int.reduceLE, Int.reduceNeg, Int.reduceAdd, Int.reduceMul, Int.reduceSub, ne_eq, not_true_eq_false, not_false_eq_true, and_true, true_and, and_false, false_and, c3lt, c3gt, c3eq, Bool.false_eq_true, isK_wr, inA_wr, inR_wr, this, hb]
  · have : ¬ i_and (i_shr x l) 1 = 1 := fun z => hb ((has_1 l0 l1).mp z)
    simp only [e188_0, e188_1, e188_2, e188_3, e188_4, e188_5, e188_6, e188_9, e188_10, e188_13, e188_14, psh0, psh1, psh3, true_or, or_true, eq_self, Option.bind_some, List.length_nil, List.length_cons, Nat.reduceAdd, Nat.reduceLeDiff, Nat.zero_le, ↓reduceIte, Int.reduceLT, Int.reduceEq, Int.reduceLE, Int.reduceNeg, Int.reduceAdd, Int.reduceMul, Int.reduceSub, ne_eq, not_true_eq_false, not_false_eq_true, and_true, true_and, and_false, false_and, c3lt, c3gt, c3eq, Bool.false_eq_true, isK_wr, inA_wr, inR_wr, this, hb]
theorem m_isOpenTo (hm : CM h) (l0 : 0 ≤ l) (l1 : l < 12) : EV (d + 1) 252 0 [(2, 235), (0, x), (0, l)] [] h = some ((0, if opn x (mrd h 240 (52 + l)) l then 1 else 0), h) := by
  have w1 : w32 (52 + l) = 52 + l := w32_id (by omega) (by omega)
  have hh : EV d 188 0 [(0, x), (0, l)] [] h = some ((0, if bI x l.toNat = true then 1 else 0), h) := m_has l0 (by omega)
  by_cases hb : bI x l.toNat = true
  · have hn : ¬ opn x (mrd h 240 (52 + l)) l := fun z => by have z1 := z.1; rw [hb] at z1; exact absurd z1 (by decide)
    rw [if_pos hb] at hh
    rw [if_neg hn]
    simp only [e252_0, e252_1, e252_2, e252_5, e252_8, e252_9, e252_12, e252_14, e252_15, e252_16, e252_17, e252_18, e252_19, e252_20, e252_21, e252_24, e252_25, e252_28, e252_29, psh0, psh1, psh3, true_or, or_true, eq_self, Option.bind_some, List.length_nil, List.length_cons, Nat.reduceAdd, Nat.reduceLeDiff, Nat.zero_le, ↓reduceIte, Int.reduceLT, Int.reduceEq, Int.reduceLE, Int.reduceNeg, Int.reduceAdd, Int.reduceMul, Int.reduceSub, ne_eq, not_true_eq_false, not_false_eq_true, and_true, true_and, and_false, false_and, c3lt, c3gt, c3eq, Bool.false_eq_true, isK_wr, inA_wr, inR_wr, hh]
  · rw [if_neg hb] at hh
    have hb' : bI x l.toNat = false := by simpa using hb
    by_cases hc : i_and (mrd h 240 (52 + l)) (i_xor x (-1)) = 0
    · rw [if_pos ⟨hb', hc⟩]
      simp only [e252_0, e252_1, e252_2, e252_5, e252_8, e252_9, e252_12, e252_14, e252_15, e252_16, e252_17, e252_18, e252_19, e252_20, e252_21, e252_24, e252_25, e252_28, e252_29, psh0, psh1, psh3, true_or, or_true, eq_self, Option.bind_some, List.length_nil, List.length_cons, Nat.reduceAdd, Nat.reduceLeDiff, Nat.zero_le, ↓reduceIte, Int.reduceLT, Int.reduceEq, Int.reduceLE, Int.reduceNeg, Int.reduceAdd, Int.reduceMul, Int.reduceSub, ne_eq, not_true_eq_false, not_false_eq_true, and_true, true_and, and_false, false_and, c3lt, c3gt, c3eq, Bool.false_eq_true, isK_wr, inA_wr, inR_wr, hh, mC hm, hm.1, inC hm (j := 52 + l) (by omega) (by omega), w1, hc]
    · rw [if_neg (fun z => hc z.2)]
      simp only [e252_0, e252_1, e252_2, e252_5, e252_8, e252_9, e252_12, e252_14, e252_15, e252_16, e252_17, e252_18, e252_19, e252_20, e252_21, e252_24, e252_25, e252_28, e252_29, psh0, psh1, psh3, true_or, or_true, eq_self, Option.bind_some, List.length_nil, List.length_cons, Nat.reduceAdd, Nat.reduceLeDiff, Nat.zero_le, ↓reduceIte, Int.reduceLT, Int.reduceEq, Int.reduceLE, Int.reduceNeg, Int.reduceAdd, Int.reduceMul, Int.reduceSub, ne_eq, not_true_eq_false, not_false_eq_true, and_true, true_and, and_false, false_and, c3lt, c3gt, c3eq, Bool.false_eq_true, isK_wr, inA_wr, inR_wr, hh, mC hm, hm.1, inC hm (j := 52 + l) (by omega) (by omega), w1, hc]
theorem x_lets (hs : CS h s) (l0 : 0 ≤ l) (l1 : l < 12) : EV d 68 0 [(2, s), (0, x), (0, l)] [] h = some ((0, if opn x (mrd h (s + 13 + l) 6) l then 1 else 0), h) := by
  obtain ⟨ks, -, r1, r2, r3, r4, -, -, k7, k8, k9, kl, kc⟩ := hs
  obtain ⟨t1, t2, t3⟩ := kl _ l0 l1
  by_cases hb : bI x l.toNat = false
  · have e := (and1_0 l0 (by omega)).mpr hb
    by_cases hc : i_and (mrd h (s + 13 + l) 6) (i_xor x (-1)) = 0
    · rw [if_pos ⟨hb, hc⟩]
      simp only [e68_0, e68_1, e68_2, e68_3, e68_4, e68_5, e68_8, e68_9, e68_12, e68_13, e68_14, e68_17, e68_18, e68_19, e68_20, e68_21, e68_24, e68_25, e68_28, e68_29, psh0, psh1, psh3, true_or, or_true, eq_self, Option.bind_some, List.length_nil, List.length_cons, Nat.reduceAdd, Nat.reduceLeDiff, Nat.zero_le, ↓reduceIte, Int.reduceLT, Int.reduceEq, Int.reduceLE, Int.reduceNeg, Int.reduceAdd, Int.reduceMul, Int.reduceSub, ne_eq, not_true_eq_false, not_false_eq_true, and_true, true_and, and_false, false_and, c3lt, c3gt, c3eq, Bool.false_eq_true, isK_wr, inA_wr, inR_wr, ks, r1, t1, t2, t3, e, hc]
    · rw [if_neg (fun z => hc z.2)]
      simp only [e68_0, e68_1, e68_2, e68_3, e68_4, e68_5, e68_8, e68_9, e68_12, e68_13, e68_14, e68_17, e68_18, e68_19, e68_20, e68_21, e68_24, e68_25, e68_28, e68_29, psh0, psh1, psh3, true_or, or_true, eq_self, Option.bind_some, List.length_nil, List.length_cons, Nat.reduceAdd, Nat.reduceLeDiff, Nat.zero_le, ↓reduceIte, Int.reduceLT, Int.reduceEq, Int.reduceLE, Int.reduceNeg, Int.reduceAdd, Int.reduceMul, Int.reduceSub, ne_eq, not_true_eq_false, not_false_eq_true, and_true, true_and, and_false, false_and, c3lt, c3gt, c3eq, Bool.false_eq_true, isK_wr, inA_wr, inR_wr, ks, r1, t1, t2, t3, e, hc]
  · have e : ¬ i_and x (i_shl 1 l) = 0 := fun z => hb ((and1_0 l0 (by omega)).mp z)
    rw [if_neg (fun z => hb z.1)]
    simp only [e68_0, e68_1, e68_2, e68_3, e68_4, e68_5, e68_8, e68_9, e68_12, e68_13, e68_14, e68_17, e68_18, e68_19, e68_20, e68_21, e68_24, e68_25, e68_28, e68_29, psh0, psh1, psh3, true_or, or_true, eq_self, Option.bind_some, List.length_nil, List.length_cons, Nat.reduceAdd, Nat.reduceLeDiff, Nat.zero_le, ↓reduceIte, Int.reduceLT, Int.reduceEq, Int.reduceLE, Int.reduceNeg, Int.reduceAdd, Int.reduceMul, Int.reduceSub, ne_eq, not_true_eq_false, not_false_eq_true, and_true, true_and, and_false, false_and, c3lt, c3gt, c3eq, Bool.false_eq_true, isK_wr, inA_wr, inR_wr, ks, r1, t1, t2, t3, e]
theorem m_knownOf_loop (hm : CM h) (k0 : 0 ≤ k) (k1 : k < 4) (b0 : 0 ≤ mrd h 240 (76 + k)) (b1 : mrd h 240 (76 + k) ≤ 12) (n : Nat) : ∀ i : Nat, (i : Int) + n = mrd h 240 (76 + k) → EV (d + 1) 244 4 [(2, 235), (0, k), (0, kb (fun p => mrd h 240 (80 + 12 * k + p)) i), (0, i)] [] h = some ((0, kb (fun p => mrd h 240 (80 + 12 * k + p)) (mrd h 240 (76 + k)).toNat), h) := by
  induction n with
  | zero =>
    intro i hi
    have c : ¬ (i : Int) < mrd h 240 (76 + k) := by omega
    have e : (mrd h 240 (76 + k)).toNat = i := by omega
    rw [e, e244_4]
    simp only [e244_0, e244_1, e244_2, e244_3, e244_5, e244_6, e244_7, e244_10, e244_13, e244_14, e244_15, e244_16, e244_17, e244_18, e244_21, e244_22, e244_23, e244_24, e244_27, e244_30, e244_31, psh0, psh1, psh3, true_or, or_true, eq_self, Option.bind_some, List.length_nil, List.length_cons, Nat.reduceAdd, Nat.reduceLeDiff, Nat.zero_le, ↓reduceIte, Int.reduceLT, Int.reduceEq, Int.reduceLE, Int.reduceNeg, Int.reduceAdd, Int.reduceMul, Int.reduceSub, ne_eq, not_true_eq_false, not_false_eq_true, and_true, true_and, and_false, false_and, c3lt, c3gt, c3eq, Bool.false_eq_true, isK_wr, inA_wr, inR_wr, hm.1, m_lengthOf hm k0 k1, c]
  | succ n ih =>
    intro i hi
    have c : (i : Int) < mrd h 240 (76 + k) := by omega
    have w1 : w32 ((i : Int) + 1) = ((i + 1 : Nat) : Int) := by rw [w32_id (by omega) (by omega)]; omega
    rw [e244_4]
    simp only [e244_0, e244_1, e244_2, e244_3, e244_5, e244_6, e244_7, e244_10, e244_13, e244_14, e244_15, e244_16, e244_17, e244_18, e244_21, e244_22, e244_23, e244_24, e244_27, e244_30, e244_31, psh0, psh1, psh3, true_or, or_true, eq_self, Option.bind_some, List.length_nil, List.length_cons, Nat.reduceAdd, Nat.reduceLeDiff, Nat.zero_le, ↓reduceIte, Int.reduceLT, Int.reduceEq, Int.reduceLE, Int.reduceNeg, Int.reduceAdd, Int.reduceMul, Int.reduceSub, ne_eq, not_true_eq_false, not_false_eq_true, and_true, true_and, and_false, false_and, c3lt, c3gt, c3eq, Bool.false_eq_true, isK_wr, inA_wr, inR_wr, hm.1, m_lengthOf hm k0 k1, c, m_lessonOf hm k0 k1 (p := (i : Int)) (by omega) (by omega), w1]
    exact ih (i + 1) (by omega)
theorem m_knownOf (hm : CM h) (k0 : 0 ≤ k) (k1 : k < 4) (b0 : 0 ≤ mrd h 240 (76 + k)) (b1 : mrd h 240 (76 + k) ≤ 12) : EV (d + 1) 244 0 [(2, 235), (0, k), (3, 0), (3, 0)] [] h = some ((0, kb (fun p => mrd h 240 (80 + 12 * k + p)) (mrd h 240 (76 + k)).toNat), h) := by
  simp only [e244_0, e244_1, e244_2, e244_3]
  exact m_knownOf_loop hm k0 k1 b0 b1 (mrd h 240 (76 + k)).toNat 0 (by omega)
end

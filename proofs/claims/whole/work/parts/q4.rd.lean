/-! a school's text: both loops -/
section
variable {d d' N : Nat} {a b : AM} {D : Int} {l1 l2 : AV}
theorem x_goes1 (kk : isK a 110 5) (h9 : mrd a 110 9 = 0) (h5 : mrd a 110 5 ≠ 0) : EV d 38 0 [(2, 110)] [] a = some ((0, 1), a) := by
  simp only [e38_0, e38_1, e38_4, e38_7, e38_8, e38_11, e38_14, e38_15, e38_18, e38_19, psh0, psh1, psh3, true_or, or_true, eq_self, Option.bind_some, List.length_nil, List.length_cons, Nat.reduceAdd, Nat.reduceLeDiff, Nat.zero_le, ↓reduceIte, Int.reduceLT, Int.reduceEq, Int.reduceLE, Int.reduceNeg, Int.reduceAdd, Int.reduceMul, Int.reduceSub, ne_eq, not_true_eq_false, not_false_eq_true, and_true, true_and, and_false, false_and, c3lt, c3gt, c3eq, Bool.false_eq_true, isK_wr, inA_wr, inR_wr, kk, h9, h5]
theorem x_goes0 (kk : isK a 110 5) (h : mrd a 110 9 ≠ 0 ∨ mrd a 110 5 = 0) : EV d 38 0 [(2, 110)] [] a = some ((0, 0), a) := by
  by_cases c : mrd a 110 9 = 0
  · have h5 : mrd a 110 5 = 0 := by omega
    simp only [e38_0, e38_1, e38_4, e38_7, e38_8, e38_11, e38_14, e38_15, e38_18, e38_19, psh0, psh1, psh3, true_or, or_true, eq_self, Option.bind_some, List.length_nil, List.length_cons, Nat.reduceAdd, Nat.reduceLeDiff, Nat.zero_le, ↓reduceIte, Int.reduceLT, Int.reduceEq, Int.reduceLE, Int.reduceNeg, Int.reduceAdd, Int.reduceMul, Int.reduceSub, ne_eq, not_true_eq_false, not_false_eq_true, and_true, true_and, and_false, false_and, c3lt, c3gt, c3eq, Bool.false_eq_true, isK_wr, inA_wr, inR_wr, kk, c, h5]
  · simp only [e38_0, e38_1, e38_4, e38_7, e38_8, e38_11, e38_14, e38_15, e38_18, e38_19, psh0, psh1, psh3, true_or, or_true, eq_self, Option.bind_some, List.length_nil, List.length_cons, Nat.reduceAdd, Nat.reduceLeDiff, Nat.zero_le, ↓reduceIte, Int.reduceLT, Int.reduceEq, Int.reduceLE, Int.reduceNeg, Int.reduceAdd, Int.reduceMul, Int.reduceSub, ne_eq, not_true_eq_false, not_false_eq_true, and_true, true_and, and_false, false_and, c3lt, c3gt, c3eq, Bool.false_eq_true, isK_wr, inA_wr, inR_wr, kk, c]
/-- both stop -/
theorem x_txE {i : Int} (kk : isK a 110 5) (h : ¬ i < 900 ∨ mrd a 110 9 ≠ 0 ∨ mrd a 110 5 = 0) : EV (d + 1) 52 35 [(2, D), (2, 110), (0, i)] [] a = some ((3, 0), a) := by
  rw [e52_35]
  by_cases c : i < 900
  · have g := x_goes0 (d := d) kk (by omega)
    simp only [e52_0, e52_1, e52_2, e52_5, e52_6, e52_7, e52_10, e52_11, e52_12, e52_15, e52_16, e52_17, e52_20, e52_21, e52_22, e52_25, e52_26, e52_29, e52_30, e52_33, e52_34, e52_36, e52_39, e52_42, e52_43, e52_46, e52_49, e52_50, e52_51, e52_54, e52_57, e52_58, e52_59, e52_62, e52_65, e52_66, e52_67, e52_70, e52_73, e52_74, e52_75, e52_78, e52_81, e52_82, e52_84, e52_87, e52_90, e52_91, e52_92, e52_95, e52_98, e52_99, e52_101, e52_104, e52_107, e52_108, e52_109, e52_112, e52_115, e52_116, e52_119, e52_120, e52_122, e52_125, e52_128, e52_131, psh0, psh1, psh3, true_or, or_true, eq_self, Option.bind_some, List.length_nil, List.length_cons, Nat.reduceAdd, Nat.reduceLeDiff, Nat.zero_le, ↓reduceIte, Int.reduceLT, Int.reduceEq, Int.reduceLE, Int.reduceNeg, Int.reduceAdd, Int.reduceMul, Int.reduceSub, ne_eq, not_true_eq_false, not_false_eq_true, and_true, true_and, and_false, false_and, c3lt, c3gt, c3eq, Bool.false_eq_true, isK_wr, inA_wr, inR_wr, kk, c, g]
  · simp only [e52_0, e52_1, e52_2, e52_5, e52_6, e52_7, e52_10, e52_11, e52_12, e52_15, e52_16, e52_17, e52_20, e52_21, e52_22, e52_25, e52_26, e52_29, e52_30, e52_33, e52_34, e52_36, e52_39, e52_42, e52_43, e52_46, e52_49, e52_50, e52_51, e52_54, e52_57, e52_58, e52_59, e52_62, e52_65, e52_66, e52_67, e52_70, e52_73, e52_74, e52_75, e52_78, e52_81, e52_82, e52_84, e52_87, e52_90, e52_91, e52_92, e52_95, e52_98, e52_99, e52_101, e52_104, e52_107, e52_108, e52_109, e52_112, e52_115, e52_116, e52_119, e52_120, e52_122, e52_125, e52_128, e52_131, psh0, psh1, psh3, true_or, or_true, eq_self, Option.bind_some, List.length_nil, List.length_cons, Nat.reduceAdd, Nat.reduceLeDiff, Nat.zero_le, ↓reduceIte, Int.reduceLT, Int.reduceEq, Int.reduceLE, Int.reduceNeg, Int.reduceAdd, Int.reduceMul, Int.reduceSub, ne_eq, not_true_eq_false, not_false_eq_true, and_true, true_and, and_false, false_and, c3lt, c3gt, c3eq, Bool.false_eq_true, isK_wr, inA_wr, inR_wr, c]
theorem m_txE (kM : isK b 235 11) (h : mrd b 235 12 ≠ 0 ∨ mrd b 235 14 = 0) : EV d 234 63 [(2, 235), l1, l2] [] b = EV d 234 150 [(2, 235), l1, l2] [] b := by
  rw [e234_63]
  by_cases c : mrd b 235 12 = 0
  · have h5 : mrd b 235 14 = 0 := by omega
    simp only [e234_0, e234_1, e234_2, e234_5, e234_6, e234_7, e234_10, e234_11, e234_12, e234_15, e234_18, e234_21, e234_22, e234_23, e234_24, e234_25, e234_26, e234_29, e234_32, e234_33, e234_36, e234_39, e234_40, e234_41, e234_42, e234_43, e234_46, e234_49, e234_50, e234_53, e234_56, e234_57, e234_58, e234_59, e234_60, e234_64, e234_67, e234_70, e234_71, e234_74, e234_77, e234_78, e234_81, e234_84, e234_85, e234_88, e234_91, e234_92, e234_95, e234_98, e234_99, e234_102, e234_105, e234_106, e234_109, e234_112, e234_113, e234_116, e234_119, e234_120, e234_123, e234_126, e234_127, e234_130, e234_133, e234_134, e234_137, e234_138, e234_139, e234_141, e234_144, e234_147, e234_151, e234_154, e234_157, e234_158, e234_159, e234_160, e234_161, e234_162, e234_165, e234_166, e234_169, e234_170, e234_171, psh0, psh1, psh3, true_or, or_true, eq_self, Option.bind_some, List.length_nil, List.length_cons, Nat.reduceAdd, Nat.reduceLeDiff, Nat.zero_le, ↓reduceIte, Int.reduceLT, Int.reduceEq, Int.reduceLE, Int.reduceNeg, Int.reduceAdd, Int.reduceMul, Int.reduceSub, ne_eq, not_true_eq_false, not_false_eq_true, and_true, true_and, and_false, false_and, c3lt, c3gt, c3eq, Bool.false_eq_true, isK_wr, inA_wr, inR_wr, kM, c, h5]
  · simp only [e234_0, e234_1, e234_2, e234_5, e234_6, e234_7, e234_10, e234_11, e234_12, e234_15, e234_18, e234_21, e234_22, e234_23, e234_24, e234_25, e234_26, e234_29, e234_32, e234_33, e234_36, e234_39, e234_40, e234_41, e234_42, e234_43, e234_46, e234_49, e234_50, e234_53, e234_56, e234_57, e234_58, e234_59, e234_60, e234_64, e234_67, e234_70, e234_71, e234_74, e234_77, e234_78, e234_81, e234_84, e234_85, e234_88, e234_91, e234_92, e234_95, e234_98, e234_99, e234_102, e234_105, e234_106, e234_109, e234_112, e234_113, e234_116, e234_119, e234_120, e234_123, e234_126, e234_127, e234_130, e234_133, e234_134, e234_137, e234_138, e234_139, e234_141, e234_144, e234_147, e234_151, e234_154, e234_157, e234_158, e234_159, e234_160, e234_161, e234_162, e234_165, e234_166, e234_169, e234_170, e234_171, psh0, psh1, psh3, true_or, or_true, eq_self, Option.bind_some, List.length_nil, List.length_cons, Nat.reduceAdd, Nat.reduceLeDiff, Nat.zero_le, ↓reduceIte, Int.reduceLT, Int.reduceEq, Int.reduceLE, Int.reduceNeg, Int.reduceAdd, Int.reduceMul, Int.reduceSub, ne_eq, not_true_eq_false, not_false_eq_true, and_true, true_and, and_false, false_and, c3lt, c3gt, c3eq, Bool.false_eq_true, isK_wr, inA_wr, inR_wr, kM, c]
/-- both go on -/
theorem x_txO {i : Int} (kk : isK a 110 5) (c : i < 900) (h9 : mrd a 110 9 = 0) (h5 : mrd a 110 5 ≠ 0) : EV (d + 1) 52 35 [(2, D), (2, 110), (0, i)] [] a = EV (d + 1) 52 49 [(2, D), (2, 110), (0, i)] [] a := by
  have g := x_goes1 (d := d) kk h9 h5
  rw [e52_35]
  simp only [e52_0, e52_1, e52_2, e52_5, e52_6, e52_7, e52_10, e52_11, e52_12, e52_15, e52_16, e52_17, e52_20, e52_21, e52_22, e52_25, e52_26, e52_29, e52_30, e52_33, e52_34, e52_36, e52_39, e52_42, e52_43, e52_46, e52_50, e52_51, e52_54, e52_57, e52_58, e52_59, e52_62, e52_65, e52_66, e52_67, e52_70, e52_73, e52_74, e52_75, e52_78, e52_81, e52_82, e52_84, e52_87, e52_90, e52_91, e52_92, e52_95, e52_98, e52_99, e52_101, e52_104, e52_107, e52_108, e52_109, e52_112, e52_115, e52_116, e52_119, e52_120, e52_122, e52_125, e52_128, e52_131, psh0, psh1, psh3, true_or, or_true, eq_self, Option.bind_some, List.length_nil, List.length_cons, Nat.reduceAdd, Nat.reduceLeDiff, Nat.zero_le, ↓reduceIte, Int.reduceLT, Int.reduceEq, Int.reduceLE, Int.reduceNeg, Int.reduceAdd, Int.reduceMul, Int.reduceSub, ne_eq, not_true_eq_false, not_false_eq_true, and_true, true_and, and_false, false_and, c3lt, c3gt, c3eq, Bool.false_eq_true, isK_wr, inA_wr, inR_wr, kk, c, g]
theorem m_txO (kM : isK b 235 11) (h : mrd b 235 12 = 0) (h4 : mrd b 235 14 ≠ 0) : EV d 234 63 [(2, 235), l1, l2] [] b = EV d 234 77 [(2, 235), l1, l2] [] b := by
  rw [e234_63]
  simp only [e234_0, e234_1, e234_2, e234_5, e234_6, e234_7, e234_10, e234_11, e234_12, e234_15, e234_18, e234_21, e234_22, e234_23, e234_24, e234_25, e234_26, e234_29, e234_32, e234_33, e234_36, e234_39, e234_40, e234_41, e234_42, e234_43, e234_46, e234_49, e234_50, e234_53, e234_56, e234_57, e234_58, e234_59, e234_60, e234_64, e234_67, e234_70, e234_71, e234_74, e234_78, e234_81, e234_84, e234_85, e234_88, e234_91, e234_92, e234_95, e234_98, e234_99, e234_102, e234_105, e234_106, e234_109, e234_112, e234_113, e234_116, e234_119, e234_120, e234_123, e234_126, e234_127, e234_130, e234_133, e234_134, e234_137, e234_138, e234_139, e234_141, e234_144, e234_147, e234_150, e234_151, e234_154, e234_157, e234_158, e234_159, e234_160, e234_161, e234_162, e234_165, e234_166, e234_169, e234_170, e234_171, psh0, psh1, psh3, true_or, or_true, eq_self, Option.bind_some, List.length_nil, List.length_cons, Nat.reduceAdd, Nat.reduceLeDiff, Nat.zero_le, ↓reduceIte, Int.reduceLT, Int.reduceEq, Int.reduceLE, Int.reduceNeg, Int.reduceAdd, Int.reduceMul, Int.reduceSub, ne_eq, not_true_eq_false, not_false_eq_true, and_true, true_and, and_false, false_and, c3lt, c3gt, c3eq, Bool.false_eq_true, isK_wr, inA_wr, inR_wr, kM, h, h4]
theorem tx_loop (hD : HD D) : ∀ (n : Nat) (i : Nat) (a b : AM), i + n = 900 → QQ N a b → (mrd a 110 9 = 0 → DR D a b ∧ 2 * (i : Int) ≤ mrd b 235 15) → ∃ a' b', EV (d + 5) 52 35 [(2, D), (2, 110), (0, (i : Int))] [] a = some ((3, 0), a') ∧ EV (d' + 7) 234 63 [(2, 235), l1, l2] [] b = EV (d' + 7) 234 150 [(2, 235), l1, l2] [] b' ∧ DX D a a' ∧ DM b b' ∧ QQ N a' b' ∧ (mrd a' 110 9 = 0 → DR D a' b') := by
  intro n
  induction n with
  | zero =>
    intro i a b hi q hg
    have e12 := q.e12
    have n9 := q.2.1.2.2.1
    have ne : mrd a 110 9 ≠ 0 := fun z => by
      have h1 := (hg z).2
      have h2 := (q.tg z).2.1.2.2
      omega
    exact ⟨a, b, x_txE (d := d + 4) q.k (Or.inr (Or.inl ne)), m_txE q.km (Or.inl (by omega)), ⟨rfl, fun _ _ _ => rfl⟩, ⟨rfl, fun _ _ _ => rfl⟩, q, fun z => absurd z ne⟩
  | succ n ih =>
    intro i a b hi q hg
    have e12 := q.e12
    by_cases c : mrd a 110 9 = 0 ∧ mrd a 110 5 ≠ 0
    · obtain ⟨h9, h5⟩ := c
      have t1 := (q.tg h9).1.1
      obtain ⟨dr, pos⟩ := hg h9
      obtain ⟨a1, b1, x1, y1, p1⟩ := pt_both (d := d) (d' := d') (i := (i : Int)) (l1 := l1) (l2 := l2) q h9 hD dr
      obtain ⟨a2, b2, x2, y2, p2, p3, p4, p5⟩ := pe_both (d := d + 2) (d' := d' + 4) (i := (i : Int)) (l1 := l1) (l2 := l2) p1 hD (by omega) (by omega)
      obtain ⟨a3, b3, x3, y3, p6, p7, p8, p9⟩ := ih (i + 1) a2 b2 (by omega) p4 (fun z => ⟨(p5 z).1, by have := (p5 z).2; omega⟩)
      have xx := x_txO (d := d + 4) (D := D) (i := (i : Int)) q.k (by omega) h9 h5
      have yy := m_txO (d := d' + 7) (l1 := l1) (l2 := l2) q.km (by omega) (by omega)
      rw [show ((i + 1 : Nat) : Int) = (i : Int) + 1 by omega] at x3
      exact ⟨a3, b3, xx.trans (x1.trans (x2.trans x3)), yy.trans (y1.trans (y2.trans y3)), p2.tr p6, p3.tr p7, p8, p9⟩
    · have hs : mrd a 110 9 ≠ 0 ∨ mrd a 110 5 = 0 := by omega
      refine ⟨a, b, x_txE (d := d + 4) q.k (Or.inr hs), m_txE q.km ?_, ⟨rfl, fun _ _ _ => rfl⟩, ⟨rfl, fun _ _ _ => rfl⟩, q, fun z => (hg z).1⟩
      by_cases z : mrd a 110 9 = 0
      · have t1 := (q.tg z).1.1
        exact Or.inr (by omega)
      · exact Or.inl (by omega)
end

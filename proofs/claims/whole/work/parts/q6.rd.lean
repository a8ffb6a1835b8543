/-! the empty draft, both sides -/
section
variable {d N : Nat} {D : Int} {l1 : AV}
theorem m_zer : ∀ (n i : Nat) (b : AM), CM b → i + n = 410 → ∃ b', EV d 234 25 [(2, 235), l1, (0, (i : Int))] [] b = EV d 234 49 [(2, 235), l1, (0, 410)] [] b' ∧ CM b' ∧ b'.2 = b.2 ∧ (∀ x j, ¬ (x = 240 ∧ 1640 + (i : Int) ≤ j ∧ j < 2050) → mrd b' x j = mrd b x j) ∧ ∀ j, 1640 + (i : Int) ≤ j → j < 2050 → mrd b' 240 j = 0 := by
  intro n
  induction n with
  | zero =>
    intro i b hm hi
    have e : (i : Int) = 410 := by omega
    refine ⟨b, ?_, hm, rfl, fun _ _ _ => rfl, fun j j0 j1 => by omega⟩
    rw [e234_25, e]
    simp only [e234_0, e234_1, e234_2, e234_5, e234_6, e234_7, e234_10, e234_11, e234_12, e234_15, e234_18, e234_21, e234_22, e234_23, e234_24, e234_26, e234_29, e234_32, e234_33, e234_36, e234_39, e234_40, e234_41, e234_42, e234_43, e234_46, e234_50, e234_53, e234_56, e234_57, e234_58, e234_59, e234_60, e234_63, e234_64, e234_67, e234_70, e234_71, e234_74, e234_77, e234_78, e234_81, e234_84, e234_85, e234_88, e234_91, e234_92, e234_95, e234_98, e234_99, e234_102, e234_105, e234_106, e234_109, e234_112, e234_113, e234_116, e234_119, e234_120, e234_123, e234_126, e234_127, e234_130, e234_133, e234_134, e234_137, e234_138, e234_139, e234_141, e234_144, e234_147, e234_150, e234_151, e234_154, e234_157, e234_158, e234_159, e234_160, e234_161, e234_162, e234_165, e234_166, e234_169, e234_170, e234_171, psh0, psh1, psh3, true_or, or_true, eq_self, Option.bind_some, List.length_nil, List.length_cons, Nat.reduceAdd, Nat.reduceLeDiff, Nat.zero_le, ↓reduceIte, Int.reduceLT, Int.reduceEq, Int.reduceLE, Int.reduceNeg, Int.reduceAdd, Int.reduceMul, Int.reduceSub, ne_eq, not_true_eq_false, not_false_eq_true, and_true, true_and, and_false, false_and, c3lt, c3gt, c3eq, Bool.false_eq_true, isK_wr, inA_wr, inR_wr]
  | succ n ih =>
    intro i b hm hi
    have c : (i : Int) < 410 := by omega
    have kM := hm.1
    have r0 := mC hm
    have hA := inB hm (j := 1640 + (i : Int)) (by omega) (by omega)
    have w : w32 (1640 + (i : Int)) = 1640 + (i : Int) := w32_id (by omega) (by omega)
    have w1 : w32 ((i : Int) + 1) = ((i + 1 : Nat) : Int) := by rw [w32_id (by omega) (by omega)]; omega
    have hm1 : CM (mwr b 240 (1640 + (i : Int)) 0) := CM_wrA (by decide +kernel) hm
    obtain ⟨b', g, h1, h2, h3, h4⟩ := ih (i + 1) _ hm1 (by omega)
    refine ⟨b', ?_, h1, h2, fun x j hx => ?_, fun j j0 j1 => ?_⟩
    · rw [← g, e234_25]
      simp only [e234_0, e234_1, e234_2, e234_5, e234_6, e234_7, e234_10, e234_11, e234_12, e234_15, e234_18, e234_21, e234_22, e234_23, e234_24, e234_26, e234_29, e234_32, e234_33, e234_36, e234_39, e234_40, e234_41, e234_42, e234_43, e234_46, e234_50, e234_53, e234_56, e234_57, e234_58, e234_59, e234_60, e234_63, e234_64, e234_67, e234_70, e234_71, e234_74, e234_77, e234_78, e234_81, e234_84, e234_85, e234_88, e234_91, e234_92, e234_95, e234_98, e234_99, e234_102, e234_105, e234_106, e234_109, e234_112, e234_113, e234_116, e234_119, e234_120, e234_123, e234_126, e234_127, e234_130, e234_133, e234_134, e234_137, e234_138, e234_139, e234_141, e234_144, e234_147, e234_150, e234_151, e234_154, e234_157, e234_158, e234_159, e234_160, e234_161, e234_162, e234_165, e234_166, e234_169, e234_170, e234_171, psh0, psh1, psh3, true_or, or_true, eq_self, Option.bind_some, List.length_nil, List.length_cons, Nat.reduceAdd, Nat.reduceLeDiff, Nat.zero_le, ↓reduceIte, Int.reduceLT, Int.reduceEq, Int.reduceLE, Int.reduceNeg, Int.reduceAdd, Int.reduceMul, Int.reduceSub, ne_eq, not_true_eq_false, not_false_eq_true, and_true, true_and, and_false, false_and, c3lt, c3gt, c3eq, Bool.false_eq_true, isK_wr, inA_wr, inR_wr, kM, c, r0, w, hA, w1]
    · rw [h3 x j (by omega), rd_wr, if_neg (by omega)]
    · by_cases e : j = 1640 + (i : Int)
      · rw [h3 _ _ (by omega), e, rde]
      · exact h4 j (by omega) j1
theorem m_scS {b : AM} (hm : CM b) : EV d 234 49 [(2, 235), l1, (0, 410)] [] b = EV d 234 63 [(2, 235), l1, (0, 410)] [] (mwr (mwr b 240 1643 2) 235 24 0) := by
  have kM := hm.1
  have r0 := mC hm
  have hA := inB hm (j := 1643) (by decide) (by decide)
  simp only [e234_0, e234_1, e234_2, e234_5, e234_6, e234_7, e234_10, e234_11, e234_12, e234_15, e234_18, e234_21, e234_22, e234_23, e234_24, e234_25, e234_26, e234_29, e234_32, e234_33, e234_36, e234_39, e234_40, e234_41, e234_42, e234_43, e234_46, e234_49, e234_50, e234_53, e234_56, e234_57, e234_58, e234_59, e234_60, e234_64, e234_67, e234_70, e234_71, e234_74, e234_77, e234_78, e234_81, e234_84, e234_85, e234_88, e234_91, e234_92, e234_95, e234_98, e234_99, e234_102, e234_105, e234_106, e234_109, e234_112, e234_113, e234_116, e234_119, e234_120, e234_123, e234_126, e234_127, e234_130, e234_133, e234_134, e234_137, e234_138, e234_139, e234_141, e234_144, e234_147, e234_150, e234_151, e234_154, e234_157, e234_158, e234_159, e234_160, e234_161, e234_162, e234_165, e234_166, e234_169, e234_170, e234_171, psh0, psh1, psh3, true_or, or_true, eq_self, Option.bind_some, List.length_nil, List.length_cons, Nat.reduceAdd, Nat.reduceLeDiff, Nat.zero_le, ↓reduceIte, Int.reduceLT, Int.reduceEq, Int.reduceLE, Int.reduceNeg, Int.reduceAdd, Int.reduceMul, Int.reduceSub, ne_eq, not_true_eq_false, not_false_eq_true, and_true, true_and, and_false, false_and, c3lt, c3gt, c3eq, Bool.false_eq_true, isK_wr, inA_wr, inR_wr, kM, r0, hA]
theorem x_txS {a : AM} {g : Int} (cs : CS a D) (h4 : mrd a D 4 = g) (kg : isK a g 0) : EV d 52 0 [(2, D), (2, 110), (3, 0)] [] a = EV d 52 35 [(2, D), (2, 110), (0, 0)] [] (mwr (mwr (mwr (mwr (mwr (mwr a D 5 0) D 6 0) D 7 0) D 8 2) D 9 0) g 6 0) := by
  have ks := cs.1
  have e4 : mrd (mwr (mwr (mwr (mwr (mwr a D 5 0) D 6 0) D 7 0) D 8 2) D 9 0) D 4 = g := by
    rw [rdn2 (by decide), rdn2 (by decide), rdn2 (by decide), rdn2 (by decide), rdn2 (by decide)]; exact h4
  simp only [e52_0, e52_1, e52_2, e52_5, e52_6, e52_7, e52_10, e52_11, e52_12, e52_15, e52_16, e52_17, e52_20, e52_21, e52_22, e52_25, e52_26, e52_29, e52_30, e52_33, e52_34, e52_36, e52_39, e52_42, e52_43, e52_46, e52_49, e52_50, e52_51, e52_54, e52_57, e52_58, e52_59, e52_62, e52_65, e52_66, e52_67, e52_70, e52_73, e52_74, e52_75, e52_78, e52_81, e52_82, e52_84, e52_87, e52_90, e52_91, e52_92, e52_95, e52_98, e52_99, e52_101, e52_104, e52_107, e52_108, e52_109, e52_112, e52_115, e52_116, e52_119, e52_120, e52_122, e52_125, e52_128, e52_131, psh0, psh1, psh3, true_or, or_true, eq_self, Option.bind_some, List.length_nil, List.length_cons, Nat.reduceAdd, Nat.reduceLeDiff, Nat.zero_le, ↓reduceIte, Int.reduceLT, Int.reduceEq, Int.reduceLE, Int.reduceNeg, Int.reduceAdd, Int.reduceMul, Int.reduceSub, ne_eq, not_true_eq_false, not_false_eq_true, and_true, true_and, and_false, false_and, c3lt, c3gt, c3eq, Bool.false_eq_true, isK_wr, inA_wr, inR_wr, ks, e4, kg]
/-- nothing is read yet -/
theorem DR.start {a b : AM} (h5 : mrd a D 5 = 0) (h6 : mrd a D 6 = 0) (h7 : mrd a D 7 = 0) (h8 : mrd a D 8 = 2) (h9 : mrd a D 9 = 0) (c3 : mrd b 240 1643 = 2) (c24 : mrd b 235 24 = 0) (z : ∀ j, 1640 ≤ j → j < 2050 → j ≠ 1643 → mrd b 240 j = 0) : DR D a b := by
  unfold DR NmR
  rw [h5, h6, h7, h8, h9, c3, c24, z 1640 (by decide) (by decide) (by decide), z 1641 (by decide) (by decide) (by decide), z 1642 (by decide) (by decide) (by decide), z 1768 (by decide) (by decide) (by decide)]
  exact ⟨⟨⟨rfl, by decide, by decide⟩, ⟨rfl, by decide, by decide⟩, ⟨rfl, by decide, by decide⟩, fun j j0 j1 => by omega, fun j j0 j1 => by omega, fun j j0 j1 => by omega⟩, ⟨rfl, by decide, by decide⟩, ⟨rfl, Or.inl rfl⟩, fun j j0 j1 => by omega, fun j j0 j1 => by omega, fun l l0 l1 => z _ (by omega) (by omega) (by omega), fun l l0 l1 => ⟨z _ (by omega) (by omega) (by omega), z _ (by omega) (by omega) (by omega)⟩, fun l l0 l1 => ⟨z _ (by omega) (by omega) (by omega), z _ (by omega) (by omega) (by omega)⟩, rfl⟩
end

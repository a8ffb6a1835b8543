/-! a child, both sides -/
def HD (D : Int) : Prop := D = 162 ∨ D = 195
def OZ (D o : Int) : Prop := o = D + 25 ∨ o = D + 27 ∨ o = D + 29 ∨ o = D + 31
section
variable {d d' N : Nat} {a a' a1 a2 b b' b1 b2 : AM} {D v v' k o : Int}
theorem x_rC4 (ks : isK a D 6) (kk : isK a 110 5) (h : ¬ mrd a D 7 < 4) : EV (d + 1) 56 0 [(2, D), (2, 110), (3, 0)] [] a = some ((3, 0), blm a 6) := by
  simp only [e56_0, e56_1, e56_4, e56_5, e56_8, e56_9, e56_11, e56_14, e56_15, e56_16, e56_19, e56_20, e56_23, e56_24, e56_27, e56_28, e56_29, e56_30, e56_31, e56_32, e56_35, e56_38, e56_39, e56_40, e56_42, e56_44, e56_47, e56_50, e56_51, e56_52, e56_54, e56_57, e56_60, e56_63, e56_64, e56_64i, e56_65, e56_68, e56_69, e56_70, e56_73, psh0, psh1, psh3, true_or, or_true, eq_self, Option.bind_some, List.length_nil, List.length_cons, Nat.reduceAdd, Nat.reduceLeDiff, Nat.zero_le, ↓reduceIte, Int.reduceLT, Int.reduceEq, Int.reduceLE, Int.reduceNeg, Int.reduceAdd, Int.reduceMul, Int.reduceSub, ne_eq, not_true_eq_false, not_false_eq_true, and_true, true_and, and_false, false_and, c3lt, c3gt, c3eq, Bool.false_eq_true, isK_wr, inA_wr, inR_wr, ks, kk, h, x_blame kk]
theorem x_begin (ko : isK a o 1) : EV d 9 0 [(2, o), (1, v), (3, 1)] [] a = some ((3, 0), mwr (mwr (mwr (mwr a o 1 v) o 4 0) o 5 0) o 6 0) := by
  simp only [e9_0, e9_1, e9_2, e9_5, e9_6, e9_7, e9_10, e9_11, e9_12, e9_15, e9_16, e9_17, e9_20, psh0, psh1, psh3, true_or, or_true, eq_self, Option.bind_some, List.length_nil, List.length_cons, Nat.reduceAdd, Nat.reduceLeDiff, Nat.zero_le, ↓reduceIte, Int.reduceLT, Int.reduceEq, Int.reduceLE, Int.reduceNeg, Int.reduceAdd, Int.reduceMul, Int.reduceSub, ne_eq, not_true_eq_false, not_false_eq_true, and_true, true_and, and_false, false_and, c3lt, c3gt, c3eq, Bool.false_eq_true, isK_wr, inA_wr, inR_wr, ko]
theorem x_rCa (ks : isK a D 6) (kk : isK a 110 5) (hk : mrd a D 7 = k) (k4 : k < 4) (g1 : EV d 35 0 [(2, 110)] [] a = some ((3, 0), a1)) (ks1 : isK a1 D 6) (r2 : mrd a1 D 2 = D + 3) (hk1 : mrd a1 D 7 = k) (hR : inR a1 (D + 3) k) (ho : mrd a1 (D + 3) k = o) (kk1 : isK a1 110 5) (g2 : EV d 59 0 [(2, D), (2, 110), (3, 0), (3, 0)] [] a1 = some ((1, v), a2)) (ko : isK a2 o 1) : EV (d + 1) 56 0 [(2, D), (2, 110), (3, 0)] [] a = EV (d + 1) 56 38 [(2, D), (2, 110), (2, o)] [] (mwr (mwr (mwr (mwr a2 o 1 v) o 4 0) o 5 0) o 6 0) := by
  simp only [e56_0, e56_1, e56_4, e56_5, e56_8, e56_9, e56_11, e56_14, e56_15, e56_16, e56_19, e56_20, e56_23, e56_24, e56_27, e56_28, e56_29, e56_30, e56_31, e56_32, e56_35, e56_39, e56_40, e56_42, e56_44, e56_47, e56_50, e56_51, e56_52, e56_54, e56_57, e56_60, e56_63, e56_64, e56_64i, e56_65, e56_68, e56_69, e56_70, e56_73, psh0, psh1, psh3, true_or, or_true, eq_self, Option.bind_some, List.length_nil, List.length_cons, Nat.reduceAdd, Nat.reduceLeDiff, Nat.zero_le, ↓reduceIte, Int.reduceLT, Int.reduceEq, Int.reduceLE, Int.reduceNeg, Int.reduceAdd, Int.reduceMul, Int.reduceSub, ne_eq, not_true_eq_false, not_false_eq_true, and_true, true_and, and_false, false_and, c3lt, c3gt, c3eq, Bool.false_eq_true, isK_wr, inA_wr, inR_wr, ks, kk, hk, k4, g1, ks1, r2, hk1, hR, ho, kk1, g2, ko, x_begin ko]
theorem x_rCb (g : EV d 58 0 [(2, 110), (0, 8), (0, 9)] [] a = some ((0, v), a1)) (kk : isK a 110 5) (ko : isK a1 o 1) : EV (d + 1) 56 38 [(2, D), (2, 110), (2, o)] [] a = EV (d + 1) 56 50 [(2, D), (2, 110), (2, o)] [] (mwr a1 o 2 v) := by
  simp only [e56_0, e56_1, e56_4, e56_5, e56_8, e56_9, e56_11, e56_14, e56_15, e56_16, e56_19, e56_20, e56_23, e56_24, e56_27, e56_28, e56_29, e56_30, e56_31, e56_32, e56_35, e56_38, e56_39, e56_40, e56_42, e56_44, e56_47, e56_51, e56_52, e56_54, e56_57, e56_60, e56_63, e56_64, e56_64i, e56_65, e56_68, e56_69, e56_70, e56_73, psh0, psh1, psh3, true_or, or_true, eq_self, Option.bind_some, List.length_nil, List.length_cons, Nat.reduceAdd, Nat.reduceLeDiff, Nat.zero_le, ↓reduceIte, Int.reduceLT, Int.reduceEq, Int.reduceLE, Int.reduceNeg, Int.reduceAdd, Int.reduceMul, Int.reduceSub, ne_eq, not_true_eq_false, not_false_eq_true, and_true, true_and, and_false, false_and, c3lt, c3gt, c3eq, Bool.false_eq_true, isK_wr, inA_wr, inR_wr, kk, g, ko]
theorem x_rCc (g : EV d 58 0 [(2, 110), (0, 9), (0, 999)] [] a = some ((0, v), a1)) (kk : isK a 110 5) (ko : isK a1 o 1) (ks : isK a1 D 6) (oD : o ≠ D) (hk : mrd a1 D 7 = k) (k0 : 0 ≤ k) (k4 : k < 4) : EV (d + 1) 56 50 [(2, D), (2, 110), (2, o)] [] a = some ((3, 0), mwr (mwr a1 o 3 v) D 7 (k + 1)) := by
  have e : mrd (mwr a1 o 3 v) D 7 = k := by rw [rdn1 (by omega)]; exact hk
  have w : w32 (k + 1) = k + 1 := w32_id (by omega) (by omega)
  simp only [e56_0, e56_1, e56_4, e56_5, e56_8, e56_9, e56_11, e56_14, e56_15, e56_16, e56_19, e56_20, e56_23, e56_24, e56_27, e56_28, e56_29, e56_30, e56_31, e56_32, e56_35, e56_38, e56_39, e56_40, e56_42, e56_44, e56_47, e56_50, e56_51, e56_52, e56_54, e56_57, e56_60, e56_63, e56_64, e56_64i, e56_65, e56_68, e56_69, e56_70, e56_73, psh0, psh1, psh3, true_or, or_true, eq_self, Option.bind_some, List.length_nil, List.length_cons, Nat.reduceAdd, Nat.reduceLeDiff, Nat.zero_le, ↓reduceIte, Int.reduceLT, Int.reduceEq, Int.reduceLE, Int.reduceNeg, Int.reduceAdd, Int.reduceMul, Int.reduceSub, ne_eq, not_true_eq_false, not_false_eq_true, and_true, true_and, and_false, false_and, c3lt, c3gt, c3eq, Bool.false_eq_true, isK_wr, inA_wr, inR_wr, kk, g, ko, ks, e, w]
theorem m_rC4 (hm : CM b) (h4 : mrd b 240 1642 = 4) (k' : isK (flm b 6 (mrd b 235 15)) 235 11) (h' : 0 < mrd (flm b 6 (mrd b 235 15)) 235 12) : EV (d + 1) 232 0 [(2, 235), (3, 0)] [] b = some ((3, 0), flm b 6 (mrd b 235 15)) := by
  have kM := hm.1
  have r0 := mC hm
  have hA : inA b 240 16 1642 := ⟨kn_240 hm.2.1, by omega, by rw [ln_240 hm.2.1]; omega⟩
  simp only [e232_0, e232_1, e232_4, e232_7, e232_8, e232_9, e232_10, e232_11, e232_14, e232_15, e232_17, e232_18, e232_21, e232_24, e232_25, e232_28, e232_31, e232_32, e232_33, e232_35, e232_36, e232_37, e232_40, e232_41, e232_44, e232_47, e232_48, e232_51, e232_54, e232_55, e232_58, e232_59, e232_62, e232_65, e232_66, e232_67, e232_68, e232_69, e232_71, e232_74, e232_75, e232_76, e232_79, e232_82, e232_83, e232_86, e232_89, e232_90, e232_93, e232_94, e232_97, e232_100, e232_101, e232_102, e232_103, e232_104, e232_107, e232_110, e232_111, e232_112, e232_115, e232_118, e232_119, e232_122, e232_125, e232_126, e232_127, e232_128, e232_129, e232_130, psh0, psh1, psh3, true_or, or_true, eq_self, Option.bind_some, List.length_nil, List.length_cons, Nat.reduceAdd, Nat.reduceLeDiff, Nat.zero_le, ↓reduceIte, Int.reduceLT, Int.reduceEq, Int.reduceLE, Int.reduceNeg, Int.reduceAdd, Int.reduceMul, Int.reduceSub, ne_eq, not_true_eq_false, not_false_eq_true, and_true, true_and, and_false, false_and, c3lt, c3gt, c3eq, Bool.false_eq_true, isK_wr, inA_wr, inR_wr, kM, r0, hA, h4, m_fail kM, k', h']
theorem m_rCa (hm : CM b) (h12 : mrd b 235 12 = 0) (he : mrd b 240 1642 = k) (k0 : 0 ≤ k) (k4 : k < 4) (g : EV d 226 0 [(2, 235), (0, 16 + k)] [] b = some ((3, 0), b1)) : EV (d + 1) 232 0 [(2, 235), (3, 0)] [] b = EV (d + 1) 232 40 [(2, 235), (0, k)] [] b1 := by
  have kM := hm.1
  have r0 := mC hm
  have hA : inA b 240 16 1642 := ⟨kn_240 hm.2.1, by omega, by rw [ln_240 hm.2.1]; omega⟩
  have n4 : ¬ k = 4 := by omega
  have w : w32 (16 + k) = 16 + k := w32_id (by omega) (by omega)
  simp only [e232_0, e232_1, e232_4, e232_7, e232_8, e232_9, e232_10, e232_11, e232_14, e232_15, e232_17, e232_18, e232_21, e232_24, e232_25, e232_28, e232_31, e232_32, e232_33, e232_35, e232_36, e232_37, e232_41, e232_44, e232_47, e232_48, e232_51, e232_54, e232_55, e232_58, e232_59, e232_62, e232_65, e232_66, e232_67, e232_68, e232_69, e232_71, e232_74, e232_75, e232_76, e232_79, e232_82, e232_83, e232_86, e232_89, e232_90, e232_93, e232_94, e232_97, e232_100, e232_101, e232_102, e232_103, e232_104, e232_107, e232_110, e232_111, e232_112, e232_115, e232_118, e232_119, e232_122, e232_125, e232_126, e232_127, e232_128, e232_129, e232_130, psh0, psh1, psh3, true_or, or_true, eq_self, Option.bind_some, List.length_nil, List.length_cons, Nat.reduceAdd, Nat.reduceLeDiff, Nat.zero_le, ↓reduceIte, Int.reduceLT, Int.reduceEq, Int.reduceLE, Int.reduceNeg, Int.reduceAdd, Int.reduceMul, Int.reduceSub, ne_eq, not_true_eq_false, not_false_eq_true, and_true, true_and, and_false, false_and, c3lt, c3gt, c3eq, Bool.false_eq_true, isK_wr, inA_wr, inR_wr, kM, r0, hA, he, n4, h12, w, g]
theorem m_rCb (hm : CM b) (k0 : 0 ≤ k) (k4 : k < 4) (h : (mrd b 235 12 = 0 ∧ wx b = 8 ∧ ∃ b1 v' b2, EV (d + 1) 193 0 [(2, 235), (3, 0)] [] b = some ((3, 0), b1) ∧ CM b1 ∧ EV (d + 1) 216 0 [(2, 235), (0, 0), (0, 9), (3, 0)] [] b1 = some ((0, v'), b2) ∧ CM b2 ∧ b' = mwr b2 240 (1704 + k) v') ∨ (¬ (mrd b 235 12 = 0 ∧ wx b = 8) ∧ b' = b)) : EV (d + 2) 232 40 [(2, 235), (0, k)] [] b = EV (d + 2) 232 75 [(2, 235), (0, k)] [] b' := by
  have kM := hm.1
  have g := m_isGift (d := d) kM
  rcases h with ⟨h12, hw, b1, v', b2, g1, hm1, g2, hm2, rfl⟩ | ⟨hn, rfl⟩
  · rw [wq_1 hw] at g
    have k1 := hm1.1
    have r1 := mC hm1
    have hA : inA b2 240 16 (1704 + k) := ⟨kn_240 hm2.2.1, by omega, by rw [ln_240 hm2.2.1]; omega⟩
    have w : w32 (1704 + k) = 1704 + k := w32_id (by omega) (by omega)
    simp only [e232_0, e232_1, e232_4, e232_7, e232_8, e232_9, e232_10, e232_11, e232_14, e232_15, e232_17, e232_18, e232_21, e232_24, e232_25, e232_28, e232_31, e232_32, e232_33, e232_35, e232_36, e232_37, e232_40, e232_41, e232_44, e232_47, e232_48, e232_51, e232_54, e232_55, e232_58, e232_59, e232_62, e232_65, e232_66, e232_67, e232_68, e232_69, e232_71, e232_74, e232_76, e232_79, e232_82, e232_83, e232_86, e232_89, e232_90, e232_93, e232_94, e232_97, e232_100, e232_101, e232_102, e232_103, e232_104, e232_107, e232_110, e232_111, e232_112, e232_115, e232_118, e232_119, e232_122, e232_125, e232_126, e232_127, e232_128, e232_129, e232_130, psh0, psh1, psh3, true_or, or_true, eq_self, Option.bind_some, List.length_nil, List.length_cons, Nat.reduceAdd, Nat.reduceLeDiff, Nat.zero_le, ↓reduceIte, Int.reduceLT, Int.reduceEq, Int.reduceLE, Int.reduceNeg, Int.reduceAdd, Int.reduceMul, Int.reduceSub, ne_eq, not_true_eq_false, not_false_eq_true, and_true, true_and, and_false, false_and, c3lt, c3gt, c3eq, Bool.false_eq_true, isK_wr, inA_wr, inR_wr, kM, h12, g, g1, k1, r1, w, g2, hA]
  · by_cases h12 : mrd b' 235 12 = 0
    · rw [wq_0 (fun z => hn ⟨h12, z⟩)] at g
      simp only [e232_0, e232_1, e232_4, e232_7, e232_8, e232_9, e232_10, e232_11, e232_14, e232_15, e232_17, e232_18, e232_21, e232_24, e232_25, e232_28, e232_31, e232_32, e232_33, e232_35, e232_36, e232_37, e232_40, e232_41, e232_44, e232_47, e232_48, e232_51, e232_54, e232_55, e232_58, e232_59, e232_62, e232_65, e232_66, e232_67, e232_68, e232_69, e232_71, e232_74, e232_76, e232_79, e232_82, e232_83, e232_86, e232_89, e232_90, e232_93, e232_94, e232_97, e232_100, e232_101, e232_102, e232_103, e232_104, e232_107, e232_110, e232_111, e232_112, e232_115, e232_118, e232_119, e232_122, e232_125, e232_126, e232_127, e232_128, e232_129, e232_130, psh0, psh1, psh3, true_or, or_true, eq_self, Option.bind_some, List.length_nil, List.length_cons, Nat.reduceAdd, Nat.reduceLeDiff, Nat.zero_le, ↓reduceIte, Int.reduceLT, Int.reduceEq, Int.reduceLE, Int.reduceNeg, Int.reduceAdd, Int.reduceMul, Int.reduceSub, ne_eq, not_true_eq_false, not_false_eq_true, and_true, true_and, and_false, false_and, c3lt, c3gt, c3eq, Bool.false_eq_true, isK_wr, inA_wr, inR_wr, kM, h12, g]
    · simp only [e232_0, e232_1, e232_4, e232_7, e232_8, e232_9, e232_10, e232_11, e232_14, e232_15, e232_17, e232_18, e232_21, e232_24, e232_25, e232_28, e232_31, e232_32, e232_33, e232_35, e232_36, e232_37, e232_40, e232_41, e232_44, e232_47, e232_48, e232_51, e232_54, e232_55, e232_58, e232_59, e232_62, e232_65, e232_66, e232_67, e232_68, e232_69, e232_71, e232_74, e232_76, e232_79, e232_82, e232_83, e232_86, e232_89, e232_90, e232_93, e232_94, e232_97, e232_100, e232_101, e232_102, e232_103, e232_104, e232_107, e232_110, e232_111, e232_112, e232_115, e232_118, e232_119, e232_122, e232_125, e232_126, e232_127, e232_128, e232_129, e232_130, psh0, psh1, psh3, true_or, or_true, eq_self, Option.bind_some, List.length_nil, List.length_cons, Nat.reduceAdd, Nat.reduceLeDiff, Nat.zero_le, ↓reduceIte, Int.reduceLT, Int.reduceEq, Int.reduceLE, Int.reduceNeg, Int.reduceAdd, Int.reduceMul, Int.reduceSub, ne_eq, not_true_eq_false, not_false_eq_true, and_true, true_and, and_false, false_and, c3lt, c3gt, c3eq, Bool.false_eq_true, isK_wr, inA_wr, inR_wr, kM, h12]
theorem m_rCc (hm : CM b) (k0 : 0 ≤ k) (k4 : k < 4) (h : (mrd b 235 12 = 0 ∧ wx b = 9 ∧ ∃ b1 v' b2, EV (d + 1) 193 0 [(2, 235), (3, 0)] [] b = some ((3, 0), b1) ∧ CM b1 ∧ EV (d + 1) 216 0 [(2, 235), (0, 0), (0, 999), (3, 0)] [] b1 = some ((0, v'), b2) ∧ CM b2 ∧ b' = mwr b2 240 (1708 + k) v') ∨ (¬ (mrd b 235 12 = 0 ∧ wx b = 9) ∧ b' = b)) : EV (d + 2) 232 75 [(2, 235), (0, k)] [] b = EV (d + 2) 232 111 [(2, 235), (0, k)] [] b' := by
  have kM := hm.1
  have g := m_isPurse (d := d) kM
  rcases h with ⟨h12, hw, b1, v', b2, g1, hm1, g2, hm2, rfl⟩ | ⟨hn, rfl⟩
  · rw [wq_1 hw] at g
    have k1 := hm1.1
    have r1 := mC hm1
    have hA : inA b2 240 16 (1708 + k) := ⟨kn_240 hm2.2.1, by omega, by rw [ln_240 hm2.2.1]; omega⟩
    have w : w32 (1708 + k) = 1708 + k := w32_id (by omega) (by omega)
    simp only [e232_0, e232_1, e232_4, e232_7, e232_8, e232_9, e232_10, e232_11, e232_14, e232_15, e232_17, e232_18, e232_21, e232_24, e232_25, e232_28, e232_31, e232_32, e232_33, e232_35, e232_36, e232_37, e232_40, e232_41, e232_44, e232_47, e232_48, e232_51, e232_54, e232_55, e232_58, e232_59, e232_62, e232_65, e232_66, e232_67, e232_68, e232_69, e232_71, e232_74, e232_75, e232_76, e232_79, e232_82, e232_83, e232_86, e232_89, e232_90, e232_93, e232_94, e232_97, e232_100, e232_101, e232_102, e232_103, e232_104, e232_107, e232_110, e232_112, e232_115, e232_118, e232_119, e232_122, e232_125, e232_126, e232_127, e232_128, e232_129, e232_130, psh0, psh1, psh3, true_or, or_true, eq_self, Option.bind_some, List.length_nil, List.length_cons, Nat.reduceAdd, Nat.reduceLeDiff, Nat.zero_le, ↓reduceIte, Int.reduceLT, Int.reduceEq, Int.reduceLE, Int.reduceNeg, Int.reduceAdd, Int.reduceMul, Int.reduceSub, ne_eq, not_true_eq_false, not_false_eq_true, and_true, true_and, and_false, false_and, c3lt, c3gt, c3eq, Bool.false_eq_true, isK_wr, inA_wr, inR_wr, kM, h12, g, g1, k1, r1, w, g2, hA]
  · by_cases h12 : mrd b' 235 12 = 0
    · rw [wq_0 (fun z => hn ⟨h12, z⟩)] at g
      simp only [e232_0, e232_1, e232_4, e232_7, e232_8, e232_9, e232_10, e232_11, e232_14, e232_15, e232_17, e232_18, e232_21, e232_24, e232_25, e232_28, e232_31, e232_32, e232_33, e232_35, e232_36, e232_37, e232_40, e232_41, e232_44, e232_47, e232_48, e232_51, e232_54, e232_55, e232_58, e232_59, e232_62, e232_65, e232_66, e232_67, e232_68, e232_69, e232_71, e232_74, e232_75, e232_76, e232_79, e232_82, e232_83, e232_86, e232_89, e232_90, e232_93, e232_94, e232_97, e232_100, e232_101, e232_102, e232_103, e232_104, e232_107, e232_110, e232_112, e232_115, e232_118, e232_119, e232_122, e232_125, e232_126, e232_127, e232_128, e232_129, e232_130, psh0, psh1, psh3, true_or, or_true, eq_self, Option.bind_some, List.length_nil, List.length_cons, Nat.reduceAdd, Nat.reduceLeDiff, Nat.zero_le, ↓reduceIte, Int.reduceLT, Int.reduceEq, Int.reduceLE, Int.reduceNeg, Int.reduceAdd, Int.reduceMul, Int.reduceSub, ne_eq, not_true_eq_false, not_false_eq_true, and_true, true_and, and_false, false_and, c3lt, c3gt, c3eq, Bool.false_eq_true, isK_wr, inA_wr, inR_wr, kM, h12, g]
    · simp only [e232_0, e232_1, e232_4, e232_7, e232_8, e232_9, e232_10, e232_11, e232_14, e232_15, e232_17, e232_18, e232_21, e232_24, e232_25, e232_28, e232_31, e232_32, e232_33, e232_35, e232_36, e232_37, e232_40, e232_41, e232_44, e232_47, e232_48, e232_51, e232_54, e232_55, e232_58, e232_59, e232_62, e232_65, e232_66, e232_67, e232_68, e232_69, e232_71, e232_74, e232_75, e232_76, e232_79, e232_82, e232_83, e232_86, e232_89, e232_90, e232_93, e232_94, e232_97, e232_100, e232_101, e232_102, e232_103, e232_104, e232_107, e232_110, e232_112, e232_115, e232_118, e232_119, e232_122, e232_125, e232_126, e232_127, e232_128, e232_129, e232_130, psh0, psh1, psh3, true_or, or_true, eq_self, Option.bind_some, List.length_nil, List.length_cons, Nat.reduceAdd, Nat.reduceLeDiff, Nat.zero_le, ↓reduceIte, Int.reduceLT, Int.reduceEq, Int.reduceLE, Int.reduceNeg, Int.reduceAdd, Int.reduceMul, Int.reduceSub, ne_eq, not_true_eq_false, not_false_eq_true, and_true, true_and, and_false, false_and, c3lt, c3gt, c3eq, Bool.false_eq_true, isK_wr, inA_wr, inR_wr, kM, h12]
theorem m_rCd (hm : CM b) (he : mrd b 240 1642 = k) (k0 : 0 ≤ k) (k4 : k < 4) : EV d 232 111 [(2, 235), (0, k)] [] b = some ((3, 0), if mrd b 235 12 = 0 then mwr b 240 1642 (k + 1) else b) := by
  have kM := hm.1
  have r0 := mC hm
  have hA : inA b 240 16 1642 := ⟨kn_240 hm.2.1, by omega, by rw [ln_240 hm.2.1]; omega⟩
  have w : w32 (k + 1) = k + 1 := w32_id (by omega) (by omega)
  by_cases c : mrd b 235 12 = 0
  · rw [if_pos c]
    simp only [e232_0, e232_1, e232_4, e232_7, e232_8, e232_9, e232_10, e232_11, e232_14, e232_15, e232_17, e232_18, e232_21, e232_24, e232_25, e232_28, e232_31, e232_32, e232_33, e232_35, e232_36, e232_37, e232_40, e232_41, e232_44, e232_47, e232_48, e232_51, e232_54, e232_55, e232_58, e232_59, e232_62, e232_65, e232_66, e232_67, e232_68, e232_69, e232_71, e232_74, e232_75, e232_76, e232_79, e232_82, e232_83, e232_86, e232_89, e232_90, e232_93, e232_94, e232_97, e232_100, e232_101, e232_102, e232_103, e232_104, e232_107, e232_110, e232_111, e232_112, e232_115, e232_118, e232_119, e232_122, e232_125, e232_126, e232_127, e232_128, e232_129, e232_130, psh0, psh1, psh3, true_or, or_true, eq_self, Option.bind_some, List.length_nil, List.length_cons, Nat.reduceAdd, Nat.reduceLeDiff, Nat.zero_le, ↓reduceIte, Int.reduceLT, Int.reduceEq, Int.reduceLE, Int.reduceNeg, Int.reduceAdd, Int.reduceMul, Int.reduceSub, ne_eq, not_true_eq_false, not_false_eq_true, and_true, true_and, and_false, false_and, c3lt, c3gt, c3eq, Bool.false_eq_true, isK_wr, inA_wr, inR_wr, kM, r0, hA, c, he, w]
  · rw [if_neg c]
    simp only [e232_0, e232_1, e232_4, e232_7, e232_8, e232_9, e232_10, e232_11, e232_14, e232_15, e232_17, e232_18, e232_21, e232_24, e232_25, e232_28, e232_31, e232_32, e232_33, e232_35, e232_36, e232_37, e232_40, e232_41, e232_44, e232_47, e232_48, e232_51, e232_54, e232_55, e232_58, e232_59, e232_62, e232_65, e232_66, e232_67, e232_68, e232_69, e232_71, e232_74, e232_75, e232_76, e232_79, e232_82, e232_83, e232_86, e232_89, e232_90, e232_93, e232_94, e232_97, e232_100, e232_101, e232_102, e232_103, e232_104, e232_107, e232_110, e232_111, e232_112, e232_115, e232_118, e232_119, e232_122, e232_125, e232_126, e232_127, e232_128, e232_129, e232_130, psh0, psh1, psh3, true_or, or_true, eq_self, Option.bind_some, List.length_nil, List.length_cons, Nat.reduceAdd, Nat.reduceLeDiff, Nat.zero_le, ↓reduceIte, Int.reduceLT, Int.reduceEq, Int.reduceLE, Int.reduceNeg, Int.reduceAdd, Int.reduceMul, Int.reduceSub, ne_eq, not_true_eq_false, not_false_eq_true, and_true, true_and, and_false, false_and, c3lt, c3gt, c3eq, Bool.false_eq_true, isK_wr, inA_wr, inR_wr, kM, c]
set_option maxHeartbeats 1000000 in
/-- a child, both sides -/
theorem sc_both (q : QQ N a b) (h9 : mrd a 110 9 = 0) (h14 : mrd b 235 14 = 1) (hD : D = 162 ∨ D = 195) (dr : DR D a b) : ∃ a' b', EV (d + 4) 56 0 [(2, D), (2, 110), (3, 0)] [] a = some ((3, 0), a') ∧ EV (d' + 5) 232 0 [(2, 235), (3, 0)] [] b = some ((3, 0), b') ∧ PO N D a b a' b' := by
  have D1 : 162 ≤ D := by omega
  have D0 : D < 200 := by omega
  have nD : D ≠ 110 := by omega
  have hE : HD D := hD
  clear hD
  have cs : CS a D := CS_of q.1.1 q.1.2.1 (S6_cur hE)
  have e12 := q.e12
  obtain ⟨n5, nL, ⟨n1, n2, n3⟩, nm4, nm5, nm6⟩ := dr.1
  obtain ⟨k, hk⟩ : ∃ k, k = mrd a D 7 := ⟨_, rfl⟩
  rw [← hk] at n1 n2 n3 nm6
  by_cases c : k < 4
  · obtain ⟨a1, v, a2, b1, y1, y2, y3, y4, y5, y6, y7, y8⟩ := nn_both (d := d) (d' := d') (s := D) q h9 h14 hE dr.1 (p := 16 + k) (by omega) (by omega)
    obtain ⟨o, ho⟩ : ∃ o, o = D + 25 + 2 * k := ⟨_, rfl⟩
    have oz : OZ D o := by unfold OZ; omega
    have on : o ≠ 110 := by omega
    have oD : o ≠ D := by omega
    have cs1 : CS a1 D := CS_of (q.1.ax y2).1 (q.1.ax y2).2.1 (S6_cur hE)
    have cs2 : CS a2 D := CS_of y7.1.1 y7.1.2.1 (S6_cur hE)
    obtain ⟨l1, l2, l3, l4⟩ := cs1.2.2.2.2.2.2.2.2.2.2.2.2 k n2 c
    have ko2 := (cs2.2.2.2.2.2.2.2.2.2.2.2.2 k n2 c).2.2.1
    rw [← ho] at l2 l3 ko2
    have hk1 : mrd a1 D 7 = k := by rw [y2.2 _ _ (by omega)]; exact hk.symm
    have zo : ∀ i, 1 ≤ i → ZD D o i := fun i hi => Or.inr (Or.inr (Or.inr (Or.inr ⟨oz, hi⟩)))
    have g1 := x_rCa (d := d + 3) cs.1 q.k hk.symm c y1 cs1.1 cs1.2.2.2.1 hk1 l1 l2 (kn_110 (q.1.ax y2).1) y3 ko2
    obtain ⟨a3, h3⟩ : ∃ a3, a3 = mwr (mwr (mwr (mwr a2 o 1 v) o 4 0) o 5 0) o 6 0 := ⟨_, rfl⟩
    rw [← h3] at g1
    have d3 : DX D a2 a3 := by rw [h3]; exact (((DX.wr ⟨rfl, fun _ _ _ => rfl⟩ (zo 1 (by decide))).wr (zo 4 (by decide))).wr (zo 5 (by decide))).wr (zo 6 (by decide))
    have b0 : DM b1 b1 := ⟨rfl, fun _ _ _ => rfl⟩
    have f3 : ∀ x i, x ≠ o → mrd a3 x i = mrd a2 x i := fun x i hx => by rw [h3, rdn1 hx, rdn1 hx, rdn1 hx, rdn1 hx]
    have q3 : QQ N a3 b1 := y7.xm hE d3 (fun i => f3 _ _ (by omega)) b0 (fun _ _ => rfl)
    obtain ⟨v2, a4, b2, p1, p2, p3, p4, p5, p6, p7⟩ := per_both (d := d) (d' := d' + 2) (k := 8) (hi := 9) (c := 1704 + k) q3 (by decide) (by decide) (by omega)
    have gm1 := m_rCb (d := d' + 3) y7.2.1.1 n2 c p7
    clear p7
    have cs4 : CS a4 D := CS_of p4.1.1 p4.1.2.1 (S6_cur hE)
    have ko4 := (cs4.2.2.2.2.2.2.2.2.2.2.2.2 k n2 c).2.2.1
    rw [← ho] at ko4
    have g2 := x_rCb (d := d + 3) (D := D) p1 q3.k ko4
    obtain ⟨a5, h5⟩ : ∃ a5, a5 = mwr a4 o 2 v2 := ⟨_, rfl⟩
    rw [← h5] at g2
    have d5 : DX D a4 a5 := by rw [h5]; exact DX.wr ⟨rfl, fun _ _ _ => rfl⟩ (zo 2 (by decide))
    have f5 : ∀ x i, x ≠ o → mrd a5 x i = mrd a4 x i := fun x i hx => by rw [h5, rdn1 hx]
    have b02 : DM b2 b2 := ⟨rfl, fun _ _ _ => rfl⟩
    have q5 : QQ N a5 b2 := p4.xm hE d5 (fun i => f5 _ _ (by omega)) b02 (fun _ _ => rfl)
    obtain ⟨v3, a6, b3, r1, r2, r3, r4, r5, r6, r7⟩ := per_both (d := d) (d' := d' + 2) (k := 9) (hi := 999) (c := 1708 + k) q5 (by decide) (by decide) (by omega)
    have gm2 := m_rCc (d := d' + 3) p4.2.1.1 n2 c r7
    clear r7
    have cs6 : CS a6 D := CS_of r4.1.1 r4.1.2.1 (S6_cur hE)
    have ko6 := (cs6.2.2.2.2.2.2.2.2.2.2.2.2 k n2 c).2.2.1
    rw [← ho] at ko6
    have fa : ∀ x i, x ≠ 110 → x ≠ o → mrd a6 x i = mrd a x i := fun x i h0 h1 => by
      rw [r2.2 x i (by omega), f5 x i h1, p2.2 x i (by omega), f3 x i h1]; exact y4.2 x i (by omega)
    have hk6 : mrd a6 D 7 = k := by rw [fa D 7 nD (by omega)]; exact hk.symm
    have g3 := x_rCc (d := d + 3) (D := D) r1 q5.k ko6 cs6.1 oD hk6 n2 c
    have fb : ∀ x i, x ≠ 235 → ¬ (x = 242 ∧ i = 80 + (16 + k)) → ¬ (x = 240 ∧ i = 1704 + k) → ¬ (x = 240 ∧ i = 1708 + k) → mrd b3 x i = mrd b x i := fun x i h0 h1 h2 h3 => by
      rw [r3.2 x i (by omega) h3, p3.2 x i (by omega) h2]; exact y6.2 x i (by omega) h1
    have he3 : mrd b3 240 1642 = k := by rw [fb _ _ (by decide) (by omega) (by omega) (by omega)]; exact n1.symm
    have gm := (m_rCa (d := d' + 4) q.2.1.1 (by omega) n1.symm n2 c y5).trans (gm1.trans (gm2.trans (m_rCd r4.2.1.1 he3 n2 c)))
    have z7 : ZD D D 7 := Or.inr (Or.inl ⟨rfl, by decide, by decide⟩)
    have d8 : DX D a6 (mwr (mwr a6 o 3 v3) D 7 (k + 1)) := (DX.wr ⟨rfl, fun _ _ _ => rfl⟩ (zo 3 (by decide))).wr z7
    have r110 : ∀ i, mrd (mwr (mwr a6 o 3 v3) D 7 (k + 1)) 110 i = mrd a6 110 i := fun i => by rw [rdn1 (by omega), rdn1 (by omega)]
    have dxa : DX D a (mwr (mwr a6 o 3 v3) D 7 (k + 1)) := ((((y4.dx).tr d3).tr p2.dx).tr d5).tr ((r2.dx).tr d8)
    have dmb : DM b b3 := ((y6.dm (by omega)).tr (p3.dm (by omega))).tr (r3.dm (by omega))
    refine ⟨_, _, g1.trans (g2.trans g3), gm, ?_⟩
    have f12 := r4.e12
    by_cases cg : mrd a6 110 9 = 0
    · rw [if_pos (by omega)]
      have zM : ZM 240 1642 := Or.inr (Or.inl ⟨rfl, by decide⟩)
      have dB : DM b3 (mwr b3 240 1642 (k + 1)) := DM.wr ⟨rfl, fun _ _ _ => rfl⟩ zM
      refine ⟨dxa, dmb.tr dB, r4.xm hE d8 r110 dB (fun i _ => by rw [rdn1 (by decide)]), fun _ => ?_⟩
      obtain ⟨s1, s2, s3⟩ := r6 cg
      rw [f5 _ _ (by omega)] at s1
      obtain ⟨t1, t2, t3⟩ := p6 s1
      rw [f3 _ _ (by omega)] at t1
      obtain ⟨w1, w2⟩ := y8 t1
      refine ⟨?_, by rw [rdn1 (by decide)]; omega⟩
      obtain ⟨zc1, zc2⟩ := dr.2.2.2.2.2.2.1 k (by omega) c
      obtain ⟨zk1, zk2⟩ := dr.2.2.2.2.2.2.2.1 k n2 c
      have e2 : mrd b2 240 (1704 + k) = v2 := t3 (by rw [y6.2 _ _ (by omega) (by omega)]; exact zc1)
      have e3 : mrd b3 240 (1708 + k) = v3 := s3 (by rw [p3.2 _ _ (by omega) (by omega), y6.2 _ _ (by omega) (by omega)]; exact zc2)
      have e4 : mrd b3 240 (1704 + k) = v2 := by rw [r3.2 _ _ (by omega) (by omega)]; exact e2
      have e5 : mrd b3 242 (80 + (16 + k)) = v := by rw [r3.2 _ _ (by omega) (by omega), p3.2 _ _ (by omega) (by omega)]; exact w1
      obtain ⟨A, hA⟩ : ∃ A, A = mwr (mwr a6 o 3 v3) D 7 (k + 1) := ⟨_, rfl⟩
      obtain ⟨B, hB⟩ : ∃ B, B = mwr b3 240 1642 (k + 1) := ⟨_, rfl⟩
      rw [← hA, ← hB]
      have ea : ∀ x i, x ≠ 110 → x ≠ o → ¬ (x = D ∧ i = 7) → mrd A x i = mrd a x i := fun x i h0 h1 h2 => by
        rw [hA, rd_wr, if_neg h2, rdn1 h1]; exact fa x i h0 h1
      have eb : ∀ x i, x ≠ 235 → ¬ (x = 242 ∧ i = 80 + (16 + k)) → ¬ (x = 240 ∧ i = 1704 + k) → ¬ (x = 240 ∧ i = 1708 + k) → ¬ (x = 240 ∧ i = 1642) → mrd B x i = mrd b x i := fun x i h0 h1 h2 h3 h4 => by
        rw [hB, rd_wr, if_neg h4]; exact fb x i h0 h1 h2 h3
      have o1 : mrd A o 1 = v := by rw [hA, rdn1 oD, rdn2 (by decide), r2.2 _ _ (by omega), h5, rdn2 (by decide), p2.2 _ _ (by omega), h3, rdn2 (by decide), rdn2 (by decide), rdn2 (by decide), rde]
      have o2 : mrd A o 2 = v2 := by rw [hA, rdn1 oD, rdn2 (by decide), r2.2 _ _ (by omega), h5, rde]
      have o3 : mrd A o 3 = v3 := by rw [hA, rdn1 oD, rde]
      have o4 : mrd A o 4 = 0 := by rw [hA, rdn1 oD, rdn2 (by decide), r2.2 _ _ (by omega), h5, rdn2 (by decide), p2.2 _ _ (by omega), h3, rdn2 (by decide), rdn2 (by decide), rde]
      have o5 : mrd A o 5 = 0 := by rw [hA, rdn1 oD, rdn2 (by decide), r2.2 _ _ (by omega), h5, rdn2 (by decide), p2.2 _ _ (by omega), h3, rdn2 (by decide), rde]
      have o6 : mrd A o 6 = 0 := by rw [hA, rdn1 oD, rdn2 (by decide), r2.2 _ _ (by omega), h5, rdn2 (by decide), p2.2 _ _ (by omega), h3, rde]
      have B1 : mrd B 242 (80 + (16 + k)) = v := by rw [hB, rdn1 (by decide)]; exact e5
      have B2 : mrd B 240 (1704 + k) = v2 := by rw [hB, rdn2 (by omega)]; exact e4
      have B3 : mrd B 240 (1708 + k) = v3 := by rw [hB, rdn2 (by omega)]; exact e3
      have b24 : mrd B 235 24 = mrd b 235 24 := by rw [hB, rdn1 (by decide), r3.2 _ _ (by omega) (by omega), p3.2 _ _ (by omega) (by omega), y6.2 _ _ (by omega) (by omega)]
      have E5 := ea D 5 nD (by omega) (by omega)
      have E6 := ea D 6 nD (by omega) (by omega)
      have E7 : mrd A D 7 = k + 1 := by rw [hA, rde]
      have F7 : mrd B 240 1642 = k + 1 := by rw [hB, rde]
      refine dr.up hE ?_ ?_ ?_ (by omega) (by omega) (by omega) (fun l i l0 l1 => ea _ _ (by omega) (by omega) (by omega)) (fun j i j0 j1 => ⟨ea _ _ (by omega) (by omega) (by omega), ea _ _ (by omega) (by omega) (by omega)⟩) (fun l l0 l1 => ⟨eb _ _ (by decide) (by omega) (by omega) (by omega) (by omega), eb _ _ (by decide) (by omega) (by omega) (by omega) (by omega), eb _ _ (by decide) (by omega) (by omega) (by omega) (by omega), eb _ _ (by decide) (by omega) (by omega) (by omega) (by omega), eb _ _ (by decide) (by omega) (by omega) (by omega) (by omega), eb _ _ (by decide) (by omega) (by omega) (by omega) (by omega)⟩) (fun j j0 j1 => ⟨eb _ _ (by decide) (by omega) (by omega) (by omega) (by omega), eb _ _ (by decide) (by omega) (by omega) (by omega) (by omega), eb _ _ (by decide) (by omega) (by omega) (by omega) (by omega)⟩) (fun i _ => eb _ _ (by decide) (by omega) (by omega) (by omega) (by omega)) (fun l l0 l1 => by omega) (fun j j0 j1 => ?_) (fun l l0 l1 => eb _ _ (by decide) (by omega) (by omega) (by omega) (by omega)) (fun j j0 j1 => ⟨eb _ _ (by decide) (by omega) (by omega) (by omega) (by omega), eb _ _ (by decide) (by omega) (by omega) (by omega) (by omega)⟩)
      · unfold NmR
        rw [E5, E6, E7, F7, eb 240 1640 (by decide) (by omega) (by omega) (by omega) (by omega), eb 240 1641 (by decide) (by omega) (by omega) (by omega) (by omega)]
        refine ⟨n5, nL, ⟨rfl, by omega, by omega⟩, fun j j0 j1 => ?_, fun j j0 j1 => ?_, fun j j0 j1 => ?_⟩
        · rw [ea _ _ (by omega) (by omega) (by omega), eb _ _ (by decide) (by omega) (by omega) (by omega) (by omega)]; exact nm4 j j0 j1
        · rw [ea _ _ (by omega) (by omega) (by omega), eb _ _ (by decide) (by omega) (by omega) (by omega) (by omega)]; exact nm5 j j0 j1
        · by_cases cj : j = k
          · rw [cj, ← ho, o1, show (96 : Int) + k = 80 + (16 + k) by omega, B1]
          · rw [ea _ _ (by omega) (by omega) (by omega), eb _ _ (by decide) (by omega) (by omega) (by omega) (by omega)]; exact nm6 j j0 (by omega)
      · rw [ea D 8 nD (by omega) (by omega), eb _ _ (by decide) (by omega) (by omega) (by omega) (by omega)]; exact dr.2.1
      · rw [ea D 9 nD (by omega) (by omega), b24]; exact dr.2.2.1
      · have jk : j = k := by omega
        subst jk
        unfold RChi
        rw [← ho, J_a (x := o) (by omega), J_a (x := D + 26 + 2 * j) (by omega), J_a (x := D) (by omega), J_b (x := 240) (by decide) (by decide), J_b (x := 242) (by decide) (by decide)]
        have k1 : mrd B 240 (1712 + j) = 0 := by rw [eb _ _ (by decide) (by omega) (by omega) (by omega) (by omega)]; exact zk1
        have k2 : mrd B 240 (1716 + j) = 0 := by rw [eb _ _ (by decide) (by omega) (by omega) (by omega) (by omega)]; exact zk2
        show mrd A o 1 = mrd B 242 (80 + 16 + j) ∧ (mrd A o 2 = mrd B 240 (1704 + j) ∧ 0 ≤ mrd A o 2 ∧ mrd A o 2 ≤ 9) ∧ (mrd A o 3 = mrd B 240 (1708 + j) ∧ 0 ≤ mrd A o 3 ∧ mrd A o 3 ≤ 9999) ∧ mrd A o 4 = mrd B 240 (1712 + j) ∧ (mrd A o 6 = mrd B 240 (1716 + j) ∧ 0 ≤ mrd A o 6 ∧ mrd A o 6 ≤ 12) ∧ (∀ p, 0 ≤ p → p < mrd A o 6 → _) ∧ (∀ p q, 0 ≤ p → p < q → q < mrd A o 6 → _) ∧ mrd A o 5 = kb _ (mrd A o 6).toNat
        rw [o1, o2, o3, o4, o5, o6, B2, B3, k1, k2, show (80 : Int) + 16 + j = 80 + (16 + j) by omega, B1]
        exact ⟨rfl, ⟨rfl, by omega, by omega⟩, ⟨rfl, by omega, by omega⟩, rfl, ⟨rfl, by omega, by omega⟩, fun p p0 p1 => by omega, fun p q p0 p1 p2 => by omega, rfl⟩
    · rw [if_neg (by omega)]
      have b03 : DM b3 b3 := ⟨rfl, fun _ _ _ => rfl⟩
      exact ⟨dxa, dmb, r4.xm hE d8 r110 b03 (fun i _ => rfl), fun z => absurd ((r110 9).symm.trans z) cg⟩
  · have r := PO.bl (D := D) q (w := 6) (by decide)
    have r1 := r.2.2.1.e12
    have r2 := r.2.2.1.ge
    have r3 := (blm_both q (w := 6) (by decide)).2.1
    exact ⟨_, _, x_rC4 cs.1 q.k (by omega), m_rC4 q.2.1.1 (by omega) r.2.2.1.km (by omega), r⟩
end

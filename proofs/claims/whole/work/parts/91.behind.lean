section
variable {d : Nat} {h : AM} {s a b c k p v w x y z : Int}
theorem x_behind_loop (k0 : isK h 0 10) (hs : CS h s) (ds : DS h s) (a0 : 0 ≤ a) (a1 : a < mrd h 240 2) (b0 : 0 ≤ b) (b1 : b < mrd h 240 2) (M : Nat) (h1 : (M : Int) = mrd h 240 (76 + a)) (h2 : (M : Int) = mrd h 240 (76 + b)) (l3 : AV) (n : Nat) : ∀ i : Nat, i + n = M → EV (d + 1) 137 64 [(2, 0), (0, a), (0, b), l3, (2, s + 25 + 2 * a), (2, s + 25 + 2 * b), (0, (i : Int))] [] h = if fI (fun j => decide (¬ mrd h 240 (80 + 12 * a + j) = mrd h 240 (80 + 12 * b + j))) i n < M then some ((0, ((fI (fun j => decide (¬ mrd h 240 (80 + 12 * a + j) = mrd h 240 (80 + 12 * b + j))) i n : Nat) : Int)), mwr h 0 11 0) else some ((0, -1), mwr h 0 11 8) := by
  obtain ⟨qa1, qa2, qa3, qa4, qa5, qa6, qa7⟩ := ds.2.2.2.2.2 a a0 a1
  obtain ⟨qb1, qb2, qb3, qb4, qb5, qb6, qb7⟩ := ds.2.2.2.2.2 b b0 b1
  have d7 := ds.2.2.1
  obtain ⟨ta1, ta2, ta3, ta4, ta5, ta6⟩ := hs.2.2.2.2.2.2.2.2.2.2.2.2 a a0 (by omega)
  obtain ⟨tb1, tb2, tb3, tb4, tb5, tb6⟩ := hs.2.2.2.2.2.2.2.2.2.2.2.2 b b0 (by omega)
  induction n with
  | zero =>
    intro i hi
    have e : i = M := by omega
    subst e
    rw [e137_64, fI, if_neg (Nat.lt_irrefl _)]
    simp only [e137_0, e137_1, e137_2, e137_3, e137_6, e137_7, e137_8, e137_11, e137_12, e137_13, e137_16, e137_17, e137_18, e137_21, e137_24, e137_25, e137_26, e137_28, e137_29, e137_32, e137_35, e137_36, e137_37, e137_39, e137_40, e137_43, e137_45, e137_47, e137_50, e137_51, e137_54, e137_55, e137_57, e137_60, e137_61, e137_62, e137_66, e137_68, e137_71, e137_74, e137_76, e137_78, e137_81, e137_84, e137_86, e137_89, e137_91, e137_92, e137_94, e137_97, e137_99, e137_100, e137_103, e137_104, e137_106, e137_109, e137_110, e137_113, e137_116, e137_117, e137_119, e137_122, psh0, psh1, psh3, true_or, or_true, eq_self, Option.bind_some, List.length_nil, List.length_cons, Nat.reduceAdd, Nat.reduceLeDiff, Nat.zero_le, ↓reduceIte, Int.reduceLT, Int.reduceEq, Int.reduceLE, Int.reduceNeg, Int.reduceAdd, Int.reduceMul, Int.reduceSub, ne_eq, not_true_eq_false, not_false_eq_true, and_true, true_and, and_false, false_and, c3lt, c3gt, c3eq, Bool.false_eq_true, isK_wr, inA_wr, inR_wr, ← h1, Int.lt_irrefl, ta3, qa4.1, k0, x_refuse]
  | succ n ih =>
    intro i hi
    have ci : (i : Int) < M := by omega
    have w1 : w32 ((i : Int) + 1) = ((i + 1 : Nat) : Int) := by rw [w32_id (by omega) (by omega)]; omega
    have pa := (qa5 i (by omega) (by omega)).1
    have pb := (qb5 i (by omega) (by omega)).1
    have ia : inA h (s + 26 + 2 * a) 16 i := ⟨ta5, by omega, by rw [ta6]; omega⟩
    have ib : inA h (s + 26 + 2 * b) 16 i := ⟨tb5, by omega, by rw [tb6]; omega⟩
    rw [e137_64, fI]
    by_cases he : mrd h 240 (80 + 12 * a + i) = mrd h 240 (80 + 12 * b + i)
    · rw [if_neg (show ¬ decide (¬ mrd h 240 (80 + 12 * a + i) = mrd h 240 (80 + 12 * b + i)) = true by simpa using he)]
      simp only [e137_0, e137_1, e137_2, e137_3, e137_6, e137_7, e137_8, e137_11, e137_12, e137_13, e137_16, e137_17, e137_18, e137_21, e137_24, e137_25, e137_26, e137_28, e137_29, e137_32, e137_35, e137_36, e137_37, e137_39, e137_40, e137_43, e137_45, e137_47, e137_50, e137_51, e137_54, e137_55, e137_57, e137_60, e137_61, e137_62, e137_66, e137_68, e137_71, e137_74, e137_76, e137_78, e137_81, e137_84, e137_86, e137_89, e137_91, e137_92, e137_94, e137_97, e137_99, e137_100, e137_103, e137_104, e137_106, e137_109, e137_110, e137_113, e137_116, e137_117, e137_119, e137_122, psh0, psh1, psh3, true_or, or_true, eq_self, Option.bind_some, List.length_nil, List.length_cons, Nat.reduceAdd, Nat.reduceLeDiff, Nat.zero_le, ↓reduceIte, Int.reduceLT, Int.reduceEq, Int.reduceLE, Int.reduceNeg, Int.reduceAdd, Int.reduceMul, Int.reduceSub, ne_eq, not_true_eq_false, not_false_eq_true, and_true, true_and, and_false, false_and, c3lt, c3gt, c3eq, Bool.false_eq_true, isK_wr, inA_wr, inR_wr, ← h1, ← h2, ci, ta3, tb3, ta4, tb4, qa4.1, qb4.1, ia, ib, pa, pb, he, w1]
      exact ih (i + 1) (by omega)
    · rw [if_pos (show decide (¬ mrd h 240 (80 + 12 * a + i) = mrd h 240 (80 + 12 * b + i)) = true from decide_eq_true he), if_pos (by omega)]
      simp only [e137_0, e137_1, e137_2, e137_3, e137_6, e137_7, e137_8, e137_11, e137_12, e137_13, e137_16, e137_17, e137_18, e137_21, e137_24, e137_25, e137_26, e137_28, e137_29, e137_32, e137_35, e137_36, e137_37, e137_39, e137_40, e137_43, e137_45, e137_47, e137_50, e137_51, e137_54, e137_55, e137_57, e137_60, e137_61, e137_62, e137_66, e137_68, e137_71, e137_74, e137_76, e137_78, e137_81, e137_84, e137_86, e137_89, e137_91, e137_92, e137_94, e137_97, e137_99, e137_100, e137_103, e137_104, e137_106, e137_109, e137_110, e137_113, e137_116, e137_117, e137_119, e137_122, psh0, psh1, psh3, true_or, or_true, eq_self, Option.bind_some, List.length_nil, List.length_cons, Nat.reduceAdd, Nat.reduceLeDiff, Nat.zero_le, ↓reduceIte, Int.reduceLT, Int.reduceEq, Int.reduceLE, Int.reduceNeg, Int.reduceAdd, Int.reduceMul, Int.reduceSub, ne_eq, not_true_eq_false, not_false_eq_true, and_true, true_and, and_false, false_and, c3lt, c3gt, c3eq, Bool.false_eq_true, isK_wr, inA_wr, inR_wr, ← h1, ← h2, ci, ta3, tb3, ta4, tb4, qa4.1, qb4.1, ia, ib, pa, pb, he, k0, x_answer]
theorem m_behind_loop (hm : CM h) (ha : MC h a) (hb : MC h b) (M : Nat) (h1 : (M : Int) = mrd h 240 (76 + a)) (n : Nat) : ∀ i : Nat, i + n = M → EV (d + 2) 285 61 [(2, 235), (0, a), (0, b), (0, (i : Int))] [] h = if fI (fun j => decide (¬ mrd h 240 (80 + 12 * a + j) = mrd h 240 (80 + 12 * b + j))) i n < M then some ((0, ((fI (fun j => decide (¬ mrd h 240 (80 + 12 * a + j) = mrd h 240 (80 + 12 * b + j))) i n : Nat) : Int)), h) else some ((0, -1), mwr h 235 0 8) := by
  have ga := fun d => m_lengthOf (d := d) hm ha.1.1 ha.1.2
  rw [← h1] at ga
  have ra := ha.2.1
  induction n with
  | zero =>
    intro i hi
    have e : i = M := by omega
    subst e
    rw [e285_61, fI, if_neg (Nat.lt_irrefl _)]
    simp only [e285_0, e285_1, e285_2, e285_5, e285_6, e285_7, e285_10, e285_11, e285_12, e285_15, e285_18, e285_19, e285_20, e285_23, e285_26, e285_27, e285_28, e285_31, e285_32, e285_33, e285_34, e285_37, e285_38, e285_39, e285_42, e285_43, e285_44, e285_45, e285_46, e285_49, e285_52, e285_53, e285_55, e285_58, e285_59, e285_60, e285_62, e285_63, e285_64, e285_67, e285_70, e285_71, e285_72, e285_73, e285_76, e285_77, e285_78, e285_79, e285_82, e285_85, e285_86, e285_87, e285_90, e285_93, e285_94, e285_96, e285_99, psh0, psh1, psh3, true_or, or_true, eq_self, Option.bind_some, List.length_nil, List.length_cons, Nat.reduceAdd, Nat.reduceLeDiff, Nat.zero_le, ↓reduceIte, Int.reduceLT, Int.reduceEq, Int.reduceLE, Int.reduceNeg, Int.reduceAdd, Int.reduceMul, Int.reduceSub, ne_eq, not_true_eq_false, not_false_eq_true, and_true, true_and, and_false, false_and, c3lt, c3gt, c3eq, Bool.false_eq_true, isK_wr, inA_wr, inR_wr, Int.lt_irrefl, hm.1, ga, m_refuse]
  | succ n ih =>
    intro i hi
    have ci : (i : Int) < M := by omega
    have w1 : w32 ((i : Int) + 1) = ((i + 1 : Nat) : Int) := by rw [w32_id (by omega) (by omega)]; omega
    have g1 := fun d => m_lessonOf (d := d) (p := i) hm ha.1.1 ha.1.2 (by omega) (by omega)
    have g2 := fun d => m_lessonOf (d := d) (p := i) hm hb.1.1 hb.1.2 (by omega) (by omega)
    rw [e285_61, fI]
    by_cases he : mrd h 240 (80 + 12 * a + i) = mrd h 240 (80 + 12 * b + i)
    · rw [if_neg (show ¬ decide (¬ mrd h 240 (80 + 12 * a + i) = mrd h 240 (80 + 12 * b + i)) = true by simpa using he)]
      simp only [e285_0, e285_1, e285_2, e285_5, e285_6, e285_7, e285_10, e285_11, e285_12, e285_15, e285_18, e285_19, e285_20, e285_23, e285_26, e285_27, e285_28, e285_31, e285_32, e285_33, e285_34, e285_37, e285_38, e285_39, e285_42, e285_43, e285_44, e285_45, e285_46, e285_49, e285_52, e285_53, e285_55, e285_58, e285_59, e285_60, e285_62, e285_63, e285_64, e285_67, e285_70, e285_71, e285_72, e285_73, e285_76, e285_77, e285_78, e285_79, e285_82, e285_85, e285_86, e285_87, e285_90, e285_93, e285_94, e285_96, e285_99, psh0, psh1, psh3, true_or, or_true, eq_self, Option.bind_some, List.length_nil, List.length_cons, Nat.reduceAdd, Nat.reduceLeDiff, Nat.zero_le, ↓reduceIte, Int.reduceLT, Int.reduceEq, Int.reduceLE, Int.reduceNeg, Int.reduceAdd, Int.reduceMul, Int.reduceSub, ne_eq, not_true_eq_false, not_false_eq_true, and_true, true_and, and_false, false_and, c3lt, c3gt, c3eq, Bool.false_eq_true, isK_wr, inA_wr, inR_wr, hm.1, ga, ci, g1, g2, he, w1]
      exact ih (i + 1) (by omega)
    · rw [if_pos (show decide (¬ mrd h 240 (80 + 12 * a + i) = mrd h 240 (80 + 12 * b + i)) = true from decide_eq_true he), if_pos (by omega)]
      simp only [e285_0, e285_1, e285_2, e285_5, e285_6, e285_7, e285_10, e285_11, e285_12, e285_15, e285_18, e285_19, e285_20, e285_23, e285_26, e285_27, e285_28, e285_31, e285_32, e285_33, e285_34, e285_37, e285_38, e285_39, e285_42, e285_43, e285_44, e285_45, e285_46, e285_49, e285_52, e285_53, e285_55, e285_58, e285_59, e285_60, e285_62, e285_63, e285_64, e285_67, e285_70, e285_71, e285_72, e285_73, e285_76, e285_77, e285_78, e285_79, e285_82, e285_85, e285_86, e285_87, e285_90, e285_93, e285_94, e285_96, e285_99, psh0, psh1, psh3, true_or, or_true, eq_self, Option.bind_some, List.length_nil, List.length_cons, Nat.reduceAdd, Nat.reduceLeDiff, Nat.zero_le, ↓reduceIte, Int.reduceLT, Int.reduceEq, Int.reduceLE, Int.reduceNeg, Int.reduceAdd, Int.reduceMul, Int.reduceSub, ne_eq, not_true_eq_false, not_false_eq_true, and_true, true_and, and_false, false_and, c3lt, c3gt, c3eq, Bool.false_eq_true, isK_wr, inA_wr, inR_wr, hm.1, ga, ci, g1, g2, he]
end
theorem op_behind : Op_behind Inv := by
  intro d h a b hI i0 i1
  obtain ⟨s, e8, hs, k0, kM, cs, ds⟩ := ctx hI
  have ds' := ds
  have ks := cs.1
  have r1 := cs.2.2.1
  have r2 := cs.2.2.2.1
  have r3 := cs.2.2.2.2.1
  have kl := cs.2.2.2.2.2.2.2.2.2.2.2.1
  have kc := cs.2.2.2.2.2.2.2.2.2.2.2.2
  obtain ⟨d5, d6, d7, d8, dl, dc⟩ := ds
  have hm : ∀ v, CM (mwr (mwr (mwr h 0 11 v) 235 1 0) 235 0 0) := fun v => CM_q (CM_of hI)
  have hq := x_askTwo (d := d + 58) (a := a) (b := b) k0 e8 ks d7.1
  have hla := fun v => m_isChildAt_q (d := d + 58) (k := a) hI v
  have hlb := fun v => m_isChildAt_q (d := d + 58) (k := b) hI v
  by_cases ca : 0 ≤ a ∧ a < mrd h 240 2
  · simp only [ca, and_self, if_true] at hla
    by_cases cb : 0 ≤ b ∧ b < mrd h 240 2
    · simp only [cb, and_self, if_true] at hlb
      rw [if_pos ⟨ca, cb⟩] at hq
      by_cases e : a = b
      · subst e
        rw [if_pos rfl] at hq
        refine opq hI (-1) 5 ?_ ?_
        · simp only [e137_0, e137_1, e137_2, e137_3, e137_6, e137_7, e137_8, e137_11, e137_12, e137_13, e137_16, e137_17, e137_18, e137_21, e137_24, e137_25, e137_26, e137_28, e137_29, e137_32, e137_35, e137_36, e137_37, e137_39, e137_40, e137_43, e137_45, e137_47, e137_50, e137_51, e137_54, e137_55, e137_57, e137_60, e137_61, e137_62, e137_66, e137_68, e137_71, e137_74, e137_76, e137_78, e137_81, e137_84, e137_86, e137_89, e137_91, e137_92, e137_94, e137_97, e137_99, e137_100, e137_103, e137_104, e137_106, e137_109, e137_110, e137_113, e137_116, e137_117, e137_119, e137_122, psh0, psh1, psh3, true_or, or_true, eq_self, Option.bind_some, List.length_nil, List.length_cons, Nat.reduceAdd, Nat.reduceLeDiff, Nat.zero_le, ↓reduceIte, Int.reduceLT, Int.reduceEq, Int.reduceLE, Int.reduceNeg, Int.reduceAdd, Int.reduceMul, Int.reduceSub, ne_eq, not_true_eq_false, not_false_eq_true, and_true, true_and, and_false, false_and, c3lt, c3gt, c3eq, Bool.false_eq_true, isK_wr, inA_wr, inR_wr, k0, hq, x_refuse]
        · simp only [e285_0, e285_1, e285_2, e285_5, e285_6, e285_7, e285_10, e285_11, e285_12, e285_15, e285_18, e285_19, e285_20, e285_23, e285_26, e285_27, e285_28, e285_31, e285_32, e285_33, e285_34, e285_37, e285_38, e285_39, e285_42, e285_43, e285_44, e285_45, e285_46, e285_49, e285_52, e285_53, e285_55, e285_58, e285_59, e285_60, e285_62, e285_63, e285_64, e285_67, e285_70, e285_71, e285_72, e285_73, e285_76, e285_77, e285_78, e285_79, e285_82, e285_85, e285_86, e285_87, e285_90, e285_93, e285_94, e285_96, e285_99, psh0, psh1, psh3, true_or, or_true, eq_self, Option.bind_some, List.length_nil, List.length_cons, Nat.reduceAdd, Nat.reduceLeDiff, Nat.zero_le, ↓reduceIte, Int.reduceLT, Int.reduceEq, Int.reduceLE, Int.reduceNeg, Int.reduceAdd, Int.reduceMul, Int.reduceSub, ne_eq, not_true_eq_false, not_false_eq_true, and_true, true_and, and_false, false_and, c3lt, c3gt, c3eq, Bool.false_eq_true, isK_wr, inA_wr, inR_wr, kM, hla, m_refuse, wrwr]
      · rw [if_neg e] at hq
        have ma := MC_of ds' ca.1 ca.2
        have mb := MC_of ds' cb.1 cb.2
        obtain ⟨M, hM, hM1, hM2⟩ := min_nat ma.2.1.1 mb.2.1.1
        obtain ⟨ta1, ta2, ta3, ta4, ta5, ta6⟩ := kc a ca.1 (by omega)
        obtain ⟨tb1, tb2, tb3, tb4, tb5, tb6⟩ := kc b cb.1 (by omega)
        have gx := x_unlike (d := d + 58) cs ds' ca.1 ca.2 cb.1 cb.2 M hM
        have gm := fun v => m_apartOf (d := d + 57) (hm v) (MC_q v 0 ma) (MC_q v 0 mb) M (by simp only [rdq, ↓reduceIte, Int.reduceLT, Int.reduceEq, Int.reduceLE, Int.reduceNeg, Int.reduceAdd, Int.reduceMul, Int.reduceSub, ne_eq, not_true_eq_false, not_false_eq_true, and_true, true_and, and_false, false_and, c3lt, c3gt, c3eq, Bool.false_eq_true, isK_wr, inA_wr, inR_wr]; exact hM)
        simp only [rdq, ↓reduceIte, Int.reduceLT, Int.reduceEq, Int.reduceLE, Int.reduceNeg, Int.reduceAdd, Int.reduceMul, Int.reduceSub, ne_eq, not_true_eq_false, not_false_eq_true, and_true, true_and, and_false, false_and, c3lt, c3gt, c3eq, Bool.false_eq_true, isK_wr, inA_wr, inR_wr, LT_q] at gm
        by_cases cf : fI (fun j => decide (¬ LT h a j = LT h b j)) 0 M = M ∧ mrd h 240 (76 + a) = mrd h 240 (76 + b)
        · rw [if_pos cf] at gx
          simp only [if_pos cf] at gm
          have e1 : (M : Int) = mrd h 240 (76 + a) := by split at hM <;> omega
          have bx := fun l3 => x_behind_loop (d := d + 59) k0 cs ds' ca.1 ca.2 cb.1 cb.2 M e1 (by omega) l3 M 0 (by omega)
          have bm := fun v => m_behind_loop (d := d + 58) (hm v) (MC_q v 0 ma) (MC_q v 0 mb) M (by simp only [rdq, ↓reduceIte, Int.reduceLT, Int.reduceEq, Int.reduceLE, Int.reduceNeg, Int.reduceAdd, Int.reduceMul, Int.reduceSub, ne_eq, not_true_eq_false, not_false_eq_true, and_true, true_and, and_false, false_and, c3lt, c3gt, c3eq, Bool.false_eq_true, isK_wr, inA_wr, inR_wr]; exact e1) M 0 (by omega)
          simp only [rdq, ↓reduceIte, Int.reduceLT, Int.reduceEq, Int.reduceLE, Int.reduceNeg, Int.reduceAdd, Int.reduceMul, Int.reduceSub, ne_eq, not_true_eq_false, not_false_eq_true, and_true, true_and, and_false, false_and, c3lt, c3gt, c3eq, Bool.false_eq_true, isK_wr, inA_wr, inR_wr] at bm
          by_cases cM : fI (fun j : Nat => decide (¬ mrd h 240 (80 + 12 * a + (j : Int)) = mrd h 240 (80 + 12 * b + (j : Int)))) 0 M < M
          · simp only [if_pos cM] at bx bm
            refine opq hI ((fI (fun j : Nat => decide (¬ mrd h 240 (80 + 12 * a + (j : Int)) = mrd h 240 (80 + 12 * b + (j : Int)))) 0 M : Nat) : Int) 0 ?_ ?_
            · simp only [e137_0, e137_1, e137_2, e137_3, e137_6, e137_7, e137_8, e137_11, e137_12, e137_13, e137_16, e137_17, e137_18, e137_21, e137_24, e137_25, e137_26, e137_28, e137_29, e137_32, e137_35, e137_36, e137_37, e137_39, e137_40, e137_43, e137_45, e137_47, e137_50, e137_51, e137_54, e137_55, e137_57, e137_60, e137_61, e137_62, e137_66, e137_68, e137_71, e137_74, e137_76, e137_78, e137_81, e137_84, e137_86, e137_89, e137_91, e137_92, e137_94, e137_97, e137_99, e137_100, e137_103, e137_104, e137_106, e137_109, e137_110, e137_113, e137_116, e137_117, e137_119, e137_122, psh0, psh1, psh3, true_or, or_true, eq_self, Option.bind_some, List.length_nil, List.length_cons, Nat.reduceAdd, Nat.reduceLeDiff, Nat.zero_le, ↓reduceIte, Int.reduceLT, Int.reduceEq, Int.reduceLE, Int.reduceNeg, Int.reduceAdd, Int.reduceMul, Int.reduceSub, ne_eq, not_true_eq_false, not_false_eq_true, and_true, true_and, and_false, false_and, c3lt, c3gt, c3eq, Bool.false_eq_true, isK_wr, inA_wr, inR_wr, k0, e8, ks, r2, ta1, ta2, tb1, tb2, hq, gx]
              exact bx _
            · simp only [e285_0, e285_1, e285_2, e285_5, e285_6, e285_7, e285_10, e285_11, e285_12, e285_15, e285_18, e285_19, e285_20, e285_23, e285_26, e285_27, e285_28, e285_31, e285_32, e285_33, e285_34, e285_37, e285_38, e285_39, e285_42, e285_43, e285_44, e285_45, e285_46, e285_49, e285_52, e285_53, e285_55, e285_58, e285_59, e285_60, e285_62, e285_63, e285_64, e285_67, e285_70, e285_71, e285_72, e285_73, e285_76, e285_77, e285_78, e285_79, e285_82, e285_85, e285_86, e285_87, e285_90, e285_93, e285_94, e285_96, e285_99, psh0, psh1, psh3, true_or, or_true, eq_self, Option.bind_some, List.length_nil, List.length_cons, Nat.reduceAdd, Nat.reduceLeDiff, Nat.zero_le, ↓reduceIte, Int.reduceLT, Int.reduceEq, Int.reduceLE, Int.reduceNeg, Int.reduceAdd, Int.reduceMul, Int.reduceSub, ne_eq, not_true_eq_false, not_false_eq_true, and_true, true_and, and_false, false_and, c3lt, c3gt, c3eq, Bool.false_eq_true, isK_wr, inA_wr, inR_wr, kM, hla, hlb, e, gm]
              exact bm _
          · simp only [if_neg cM] at bx bm
            refine opq hI (-1) 8 ?_ ?_
            · simp only [e137_0, e137_1, e137_2, e137_3, e137_6, e137_7, e137_8, e137_11, e137_12, e137_13, e137_16, e137_17, e137_18, e137_21, e137_24, e137_25, e137_26, e137_28, e137_29, e137_32, e137_35, e137_36, e137_37, e137_39, e137_40, e137_43, e137_45, e137_47, e137_50, e137_51, e137_54, e137_55, e137_57, e137_60, e137_61, e137_62, e137_66, e137_68, e137_71, e137_74, e137_76, e137_78, e137_81, e137_84, e137_86, e137_89, e137_91, e137_92, e137_94, e137_97, e137_99, e137_100, e137_103, e137_104, e137_106, e137_109, e137_110, e137_113, e137_116, e137_117, e137_119, e137_122, psh0, psh1, psh3, true_or, or_true, eq_self, Option.bind_some, List.length_nil, List.length_cons, Nat.reduceAdd, Nat.reduceLeDiff, Nat.zero_le, ↓reduceIte, Int.reduceLT, Int.reduceEq, Int.reduceLE, Int.reduceNeg, Int.reduceAdd, Int.reduceMul, Int.reduceSub, ne_eq, not_true_eq_false, not_false_eq_true, and_true, true_and, and_false, false_and, c3lt, c3gt, c3eq, Bool.false_eq_true, isK_wr, inA_wr, inR_wr, k0, e8, ks, r2, ta1, ta2, tb1, tb2, hq, gx]
              exact bx _
            · simp only [e285_0, e285_1, e285_2, e285_5, e285_6, e285_7, e285_10, e285_11, e285_12, e285_15, e285_18, e285_19, e285_20, e285_23, e285_26, e285_27, e285_28, e285_31, e285_32, e285_33, e285_34, e285_37, e285_38, e285_39, e285_42, e285_43, e285_44, e285_45, e285_46, e285_49, e285_52, e285_53, e285_55, e285_58, e285_59, e285_60, e285_62, e285_63, e285_64, e285_67, e285_70, e285_71, e285_72, e285_73, e285_76, e285_77, e285_78, e285_79, e285_82, e285_85, e285_86, e285_87, e285_90, e285_93, e285_94, e285_96, e285_99, psh0, psh1, psh3, true_or, or_true, eq_self, Option.bind_some, List.length_nil, List.length_cons, Nat.reduceAdd, Nat.reduceLeDiff, Nat.zero_le, ↓reduceIte, Int.reduceLT, Int.reduceEq, Int.reduceLE, Int.reduceNeg, Int.reduceAdd, Int.reduceMul, Int.reduceSub, ne_eq, not_true_eq_false, not_false_eq_true, and_true, true_and, and_false, false_and, c3lt, c3gt, c3eq, Bool.false_eq_true, isK_wr, inA_wr, inR_wr, kM, hla, hlb, e, gm]
              refine (bm _).trans ?_
              rw [wrwr]
        · rw [if_neg cf] at gx
          simp only [if_neg cf] at gm
          generalize fI (fun j => decide (¬ LT h a j = LT h b j)) 0 M = R at gx gm
          have c1 : ¬ (R : Int) = -1 := by omega
          have c2 : ¬ (R : Int) < 0 := by omega
          refine opq hI (-1) 9 ?_ ?_
          · simp only [e137_0, e137_1, e137_2, e137_3, e137_6, e137_7, e137_8, e137_11, e137_12, e137_13, e137_16, e137_17, e137_18, e137_21, e137_24, e137_25, e137_26, e137_28, e137_29, e137_32, e137_35, e137_36, e137_37, e137_39, e137_40, e137_43, e137_45, e137_47, e137_50, e137_51, e137_54, e137_55, e137_57, e137_60, e137_61, e137_62, e137_66, e137_68, e137_71, e137_74, e137_76, e137_78, e137_81, e137_84, e137_86, e137_89, e137_91, e137_92, e137_94, e137_97, e137_99, e137_100, e137_103, e137_104, e137_106, e137_109, e137_110, e137_113, e137_116, e137_117, e137_119, e137_122, psh0, psh1, psh3, true_or, or_true, eq_self, Option.bind_some, List.length_nil, List.length_cons, Nat.reduceAdd, Nat.reduceLeDiff, Nat.zero_le, ↓reduceIte, Int.reduceLT, Int.reduceEq, Int.reduceLE, Int.reduceNeg, Int.reduceAdd, Int.reduceMul, Int.reduceSub, ne_eq, not_true_eq_false, not_false_eq_true, and_true, true_and, and_false, false_and, c3lt, c3gt, c3eq, Bool.false_eq_true, isK_wr, inA_wr, inR_wr, k0, e8, ks, r2, ta1, ta2, tb1, tb2, hq, gx, x_refuse, c1]
          · simp only [e285_0, e285_1, e285_2, e285_5, e285_6, e285_7, e285_10, e285_11, e285_12, e285_15, e285_18, e285_19, e285_20, e285_23, e285_26, e285_27, e285_28, e285_31, e285_32, e285_33, e285_34, e285_37, e285_38, e285_39, e285_42, e285_43, e285_44, e285_45, e285_46, e285_49, e285_52, e285_53, e285_55, e285_58, e285_59, e285_60, e285_62, e285_63, e285_64, e285_67, e285_70, e285_71, e285_72, e285_73, e285_76, e285_77, e285_78, e285_79, e285_82, e285_85, e285_86, e285_87, e285_90, e285_93, e285_94, e285_96, e285_99, psh0, psh1, psh3, true_or, or_true, eq_self, Option.bind_some, List.length_nil, List.length_cons, Nat.reduceAdd, Nat.reduceLeDiff, Nat.zero_le, ↓reduceIte, Int.reduceLT, Int.reduceEq, Int.reduceLE, Int.reduceNeg, Int.reduceAdd, Int.reduceMul, Int.reduceSub, ne_eq, not_true_eq_false, not_false_eq_true, and_true, true_and, and_false, false_and, c3lt, c3gt, c3eq, Bool.false_eq_true, isK_wr, inA_wr, inR_wr, kM, hla, hlb, e, gm, c2, m_refuse, wrwr]
    · simp only [cb, if_false] at hlb
      rw [if_neg (fun z => cb z.2)] at hq
      refine opq hI (-1) 2 ?_ ?_
      · simp only [e137_0, e137_1, e137_2, e137_3, e137_6, e137_7, e137_8, e137_11, e137_12, e137_13, e137_16, e137_17, e137_18, e137_21, e137_24, e137_25, e137_26, e137_28, e137_29, e137_32, e137_35, e137_36, e137_37, e137_39, e137_40, e137_43, e137_45, e137_47, e137_50, e137_51, e137_54, e137_55, e137_57, e137_60, e137_61, e137_62, e137_66, e137_68, e137_71, e137_74, e137_76, e137_78, e137_81, e137_84, e137_86, e137_89, e137_91, e137_92, e137_94, e137_97, e137_99, e137_100, e137_103, e137_104, e137_106, e137_109, e137_110, e137_113, e137_116, e137_117, e137_119, e137_122, psh0, psh1, psh3, true_or, or_true, eq_self, Option.bind_some, List.length_nil, List.length_cons, Nat.reduceAdd, Nat.reduceLeDiff, Nat.zero_le, ↓reduceIte, Int.reduceLT, Int.reduceEq, Int.reduceLE, Int.reduceNeg, Int.reduceAdd, Int.reduceMul, Int.reduceSub, ne_eq, not_true_eq_false, not_false_eq_true, and_true, true_and, and_false, false_and, c3lt, c3gt, c3eq, Bool.false_eq_true, isK_wr, inA_wr, inR_wr, k0, hq, x_refuse]
      · simp only [e285_0, e285_1, e285_2, e285_5, e285_6, e285_7, e285_10, e285_11, e285_12, e285_15, e285_18, e285_19, e285_20, e285_23, e285_26, e285_27, e285_28, e285_31, e285_32, e285_33, e285_34, e285_37, e285_38, e285_39, e285_42, e285_43, e285_44, e285_45, e285_46, e285_49, e285_52, e285_53, e285_55, e285_58, e285_59, e285_60, e285_62, e285_63, e285_64, e285_67, e285_70, e285_71, e285_72, e285_73, e285_76, e285_77, e285_78, e285_79, e285_82, e285_85, e285_86, e285_87, e285_90, e285_93, e285_94, e285_96, e285_99, psh0, psh1, psh3, true_or, or_true, eq_self, Option.bind_some, List.length_nil, List.length_cons, Nat.reduceAdd, Nat.reduceLeDiff, Nat.zero_le, ↓reduceIte, Int.reduceLT, Int.reduceEq, Int.reduceLE, Int.reduceNeg, Int.reduceAdd, Int.reduceMul, Int.reduceSub, ne_eq, not_true_eq_false, not_false_eq_true, and_true, true_and, and_false, false_and, c3lt, c3gt, c3eq, Bool.false_eq_true, isK_wr, inA_wr, inR_wr, kM, hla, hlb, m_refuse, wrwr]
  · simp only [ca, if_false] at hla
    rw [if_neg (fun z => ca z.1)] at hq
    refine opq hI (-1) 2 ?_ ?_
    · simp only [e137_0, e137_1, e137_2, e137_3, e137_6, e137_7, e137_8, e137_11, e137_12, e137_13, e137_16, e137_17, e137_18, e137_21, e137_24, e137_25, e137_26, e137_28, e137_29, e137_32, e137_35, e137_36, e137_37, e137_39, e137_40, e137_43, e137_45, e137_47, e137_50, e137_51, e137_54, e137_55, e137_57, e137_60, e137_61, e137_62, e137_66, e137_68, e137_71, e137_74, e137_76, e137_78, e137_81, e137_84, e137_86, e137_89, e137_91, e137_92, e137_94, e137_97, e137_99, e137_100, e137_103, e137_104, e137_106, e137_109, e137_110, e137_113, e137_116, e137_117, e137_119, e137_122, psh0, psh1, psh3, true_or, or_true, eq_self, Option.bind_some, List.length_nil, List.length_cons, Nat.reduceAdd, Nat.reduceLeDiff, Nat.zero_le, ↓reduceIte, Int.reduceLT, Int.reduceEq, Int.reduceLE, Int.reduceNeg, Int.reduceAdd, Int.reduceMul, Int.reduceSub, ne_eq, not_true_eq_false, not_false_eq_true, and_true, true_and, and_false, false_and, c3lt, c3gt, c3eq, Bool.false_eq_true, isK_wr, inA_wr, inR_wr, k0, hq, x_refuse]
    · simp only [e285_0, e285_1, e285_2, e285_5, e285_6, e285_7, e285_10, e285_11, e285_12, e285_15, e285_18, e285_19, e285_20, e285_23, e285_26, e285_27, e285_28, e285_31, e285_32, e285_33, e285_34, e285_37, e285_38, e285_39, e285_42, e285_43, e285_44, e285_45, e285_46, e285_49, e285_52, e285_53, e285_55, e285_58, e285_59, e285_60, e285_62, e285_63, e285_64, e285_67, e285_70, e285_71, e285_72, e285_73, e285_76, e285_77, e285_78, e285_79, e285_82, e285_85, e285_86, e285_87, e285_90, e285_93, e285_94, e285_96, e285_99, psh0, psh1, psh3, true_or, or_true, eq_self, Option.bind_some, List.length_nil, List.length_cons, Nat.reduceAdd, Nat.reduceLeDiff, Nat.zero_le, ↓reduceIte, Int.reduceLT, Int.reduceEq, Int.reduceLE, Int.reduceNeg, Int.reduceAdd, Int.reduceMul, Int.reduceSub, ne_eq, not_true_eq_false, not_false_eq_true, and_true, true_and, and_false, false_and, c3lt, c3gt, c3eq, Bool.false_eq_true, isK_wr, inA_wr, inR_wr, kM, hla, m_refuse, wrwr]

section
variable {d : Nat} {h : AM} {s a b c k p v w x y z : Int}
theorem x_askTwo (k0 : isK h 0 10) (e8 : mrd h 0 8 = s) (ks : isK h s 6) (d7 : mrd h s 7 = mrd h 240 2) : EV (d + 1) 169 0 [(2, 0), (0, a), (0, b)] [] h = some ((0, if (0 ≤ a ∧ a < mrd h 240 2) ∧ (0 ≤ b ∧ b < mrd h 240 2) then (if a = b then 5 else 0) else 2), h) := by
  have ga := x_hasChild_q (d := d) (k := a) ks d7
  have gb := x_hasChild_q (d := d) (k := b) ks d7
  by_cases ca : 0 ≤ a ∧ a < mrd h 240 2
  · rw [if_pos ca] at ga
    by_cases cb : 0 ≤ b ∧ b < mrd h 240 2
    · rw [if_pos cb] at gb
      rw [if_pos ⟨ca, cb⟩]
      by_cases e : a = b
      · subst e
        simp only [e169_0, e169_1, e169_4, e169_5, e169_8, e169_11, e169_12, e169_15, e169_16, e169_19, e169_22, e169_23, e169_24, e169_25, e169_26, e169_29, e169_30, e169_33, e169_34, psh0, psh1, psh3, true_or, or_true, eq_self, Option.bind_some, List.length_nil, List.length_cons, Nat.reduceAdd, Nat.reduceLeDiff, Nat.zero_le, ↓reduceIte, Int.reduceLT, Int.reduceEq, Int.reduceLE, Int.reduceNeg, Int.reduceAdd, Int.reduceMul, Int.reduceSub, ne_eq, not_true_eq_false, not_false_eq_true, and_true, true_and, and_false, false_and, c3lt, c3gt, c3eq, Bool.false_eq_true, isK_wr, inA_wr, inR_wr, k0, e8, ks, ga]
      · simp only [e169_0, e169_1, e169_4, e169_5, e169_8, e169_11, e169_12, e169_15, e169_16, e169_19, e169_22, e169_23, e169_24, e169_25, e169_26, e169_29, e169_30, e169_33, e169_34, psh0, psh1, psh3, true_or, or_true, eq_self, Option.bind_some, List.length_nil, List.length_cons, Nat.reduceAdd, Nat.reduceLeDiff, Nat.zero_le, ↓reduceIte, Int.reduceLT, Int.reduceEq, Int.reduceLE, Int.reduceNeg, Int.reduceAdd, Int.reduceMul, Int.reduceSub, ne_eq, not_true_eq_false, not_false_eq_true, and_true, true_and, and_false, false_and, c3lt, c3gt, c3eq, Bool.false_eq_true, isK_wr, inA_wr, inR_wr, k0, e8, ks, ga, gb, e]
    · rw [if_neg cb] at gb
      rw [if_neg (fun z => cb z.2)]
      simp only [e169_0, e169_1, e169_4, e169_5, e169_8, e169_11, e169_12, e169_15, e169_16, e169_19, e169_22, e169_23, e169_24, e169_25, e169_26, e169_29, e169_30, e169_33, e169_34, psh0, psh1, psh3, true_or, or_true, eq_self, Option.bind_some, List.length_nil, List.length_cons, Nat.reduceAdd, Nat.reduceLeDiff, Nat.zero_le, ↓reduceIte, Int.reduceLT, Int.reduceEq, Int.reduceLE, Int.reduceNeg, Int.reduceAdd, Int.reduceMul, Int.reduceSub, ne_eq, not_true_eq_false, not_false_eq_true, and_true, true_and, and_false, false_and, c3lt, c3gt, c3eq, Bool.false_eq_true, isK_wr, inA_wr, inR_wr, k0, e8, ks, ga, gb]
  · rw [if_neg ca] at ga
    rw [if_neg (fun z => ca z.1)]
    simp only [e169_0, e169_1, e169_4, e169_5, e169_8, e169_11, e169_12, e169_15, e169_16, e169_19, e169_22, e169_23, e169_24, e169_25, e169_26, e169_29, e169_30, e169_33, e169_34, psh0, psh1, psh3, true_or, or_true, eq_self, Option.bind_some, List.length_nil, List.length_cons, Nat.reduceAdd, Nat.reduceLeDiff, Nat.zero_le, ↓reduceIte, Int.reduceLT, Int.reduceEq, Int.reduceLE, Int.reduceNeg, Int.reduceAdd, Int.reduceMul, Int.reduceSub, ne_eq, not_true_eq_false, not_false_eq_true, and_true, true_and, and_false, false_and, c3lt, c3gt, c3eq, Bool.false_eq_true, isK_wr, inA_wr, inR_wr, k0, e8, ks, ga]
/-- the shorter of two lengths -/
theorem min_nat {x y : Int} (hx : 0 ≤ x) (hy : 0 ≤ y) : ∃ M : Nat, (M : Int) = (if y < x then y else x) ∧ (M : Int) ≤ x ∧ (M : Int) ≤ y := ⟨(if y < x then y else x).toNat, by split <;> omega⟩
theorem x_sameAtEnd (hs : CS h s) (ds : DS h s) (a0 : 0 ≤ a) (a1 : a < mrd h 240 2) (b0 : 0 ≤ b) (b1 : b < mrd h 240 2) (M : Nat) (hM : (M : Int) = if mrd h 240 (76 + b) < mrd h 240 (76 + a) then mrd h 240 (76 + b) else mrd h 240 (76 + a)) : EV (d + 1) 76 0 [(2, s), (2, s + 25 + 2 * a), (2, s + 25 + 2 * b), (3, 0), (3, 0)] [] h = some ((0, ((fI (fun j => decide (¬ LT h a (mrd h 240 (76 + a) - 1 - j) = LT h b (mrd h 240 (76 + b) - 1 - j))) 0 M : Nat) : Int)), h) := by
  obtain ⟨qa1, qa2, qa3, qa4, qa5, qa6, qa7⟩ := ds.2.2.2.2.2 a a0 a1
  obtain ⟨qb1, qb2, qb3, qb4, qb5, qb6, qb7⟩ := ds.2.2.2.2.2 b b0 b1
  have d7 := ds.2.2.1
  obtain ⟨ta1, ta2, ta3, ta4, ta5, ta6⟩ := hs.2.2.2.2.2.2.2.2.2.2.2.2 a a0 (by omega)
  obtain ⟨tb1, tb2, tb3, tb4, tb5, tb6⟩ := hs.2.2.2.2.2.2.2.2.2.2.2.2 b b0 (by omega)
  simp only [e76_0, e76_1, e76_4, e76_5, e76_8, e76_11, e76_12, e76_13, e76_17, e76_18, e76_21, e76_22, e76_23, e76_24, e76_27, e76_28, e76_29, e76_31, e76_32, e76_35, e76_36, e76_37, e76_38, e76_41, e76_42, e76_43, e76_45, e76_46, e76_49, e76_52, e76_54, e76_55, e76_58, e76_61, e76_62, psh0, psh1, psh3, true_or, or_true, eq_self, Option.bind_some, List.length_nil, List.length_cons, Nat.reduceAdd, Nat.reduceLeDiff, Nat.zero_le, ↓reduceIte, Int.reduceLT, Int.reduceEq, Int.reduceLE, Int.reduceNeg, Int.reduceAdd, Int.reduceMul, Int.reduceSub, ne_eq, not_true_eq_false, not_false_eq_true, and_true, true_and, and_false, false_and, c3lt, c3gt, c3eq, Bool.false_eq_true, isK_wr, inA_wr, inR_wr, ta3, tb3, qa4.1, qb4.1, ← hM]
  exact x_sameAtEnd_loop hs ds a0 a1 b0 b1 M (by split at hM <;> omega) (by split at hM <;> omega) M 0 (by omega)
theorem x_unlike (hs : CS h s) (ds : DS h s) (a0 : 0 ≤ a) (a1 : a < mrd h 240 2) (b0 : 0 ≤ b) (b1 : b < mrd h 240 2) (M : Nat) (hM : (M : Int) = if mrd h 240 (76 + b) < mrd h 240 (76 + a) then mrd h 240 (76 + b) else mrd h 240 (76 + a)) : EV (d + 1) 77 0 [(2, s), (2, s + 25 + 2 * a), (2, s + 25 + 2 * b), (3, 0), (3, 0)] [] h = some ((0, if fI (fun j => decide (¬ LT h a j = LT h b j)) 0 M = M ∧ mrd h 240 (76 + a) = mrd h 240 (76 + b) then -1 else ((fI (fun j => decide (¬ LT h a j = LT h b j)) 0 M : Nat) : Int)), h) := by
  obtain ⟨qa1, qa2, qa3, qa4, qa5, qa6, qa7⟩ := ds.2.2.2.2.2 a a0 a1
  obtain ⟨qb1, qb2, qb3, qb4, qb5, qb6, qb7⟩ := ds.2.2.2.2.2 b b0 b1
  have d7 := ds.2.2.1
  obtain ⟨ta1, ta2, ta3, ta4, ta5, ta6⟩ := hs.2.2.2.2.2.2.2.2.2.2.2.2 a a0 (by omega)
  obtain ⟨tb1, tb2, tb3, tb4, tb5, tb6⟩ := hs.2.2.2.2.2.2.2.2.2.2.2.2 b b0 (by omega)
  simp only [e77_0, e77_1, e77_4, e77_5, e77_8, e77_11, e77_12, e77_13, e77_17, e77_18, e77_21, e77_22, e77_23, e77_25, e77_28, e77_29, e77_30, e77_32, e77_35, e77_38, e77_40, e77_41, e77_44, e77_47, e77_48, e77_51, e77_52, e77_55, e77_58, e77_59, e77_62, e77_63, psh0, psh1, psh3, true_or, or_true, eq_self, Option.bind_some, List.length_nil, List.length_cons, Nat.reduceAdd, Nat.reduceLeDiff, Nat.zero_le, ↓reduceIte, Int.reduceLT, Int.reduceEq, Int.reduceLE, Int.reduceNeg, Int.reduceAdd, Int.reduceMul, Int.reduceSub, ne_eq, not_true_eq_false, not_false_eq_true, and_true, true_and, and_false, false_and, c3lt, c3gt, c3eq, Bool.false_eq_true, isK_wr, inA_wr, inR_wr, ta3, tb3, qa4.1, qb4.1, ← hM]
  exact x_unlike_loop hs ds a0 a1 b0 b1 M (by split at hM <;> omega) (by split at hM <;> omega) M 0 (by omega)
theorem m_apartOf (hm : CM h) (ha : MC h a) (hb : MC h b) (M : Nat) (hM : (M : Int) = if mrd h 240 (76 + b) < mrd h 240 (76 + a) then mrd h 240 (76 + b) else mrd h 240 (76 + a)) : EV (d + 2) 283 0 [(2, 235), (0, a), (0, b), (3, 0)] [] h = some ((0, if fI (fun j => decide (¬ LT h a j = LT h b j)) 0 M = M ∧ mrd h 240 (76 + a) = mrd h 240 (76 + b) then -1 else ((fI (fun j => decide (¬ LT h a j = LT h b j)) 0 M : Nat) : Int)), h) := by
  simp only [e283_0, e283_1]
  exact m_apartOf_loop hm ha hb M hM M 0 (by omega)
end
theorem op_rhyme : Op_rhyme Inv := by
  intro d h a b hI i0 i1
  obtain ⟨s, e8, hs, k0, kM, cs, ds⟩ := ctx hI
  have ds' := ds
  have ks := cs.1
  have r1 := cs.2.2.1
  have r2 := cs.2.2.2.1
  have r3 := cs.2.2.2.2.1
  have kl := cs.2.2.2.2.2.2.2.2.2.2.2.1
  have kc := cs.2.2.2.2.2.2.2.2.2.2.2.2
  obtain ⟨d5, d6, d7, d8, dl, dc⟩ := ds
  have hm : ∀ v, CM (mwr (mwr (mwr h 0 11 v) 235 1 0) 235 0 0) := fun v => CM_q (CM_of hI)
  have hq := x_askTwo (d := d + 58) (a := a) (b := b) k0 e8 ks d7.1
  have hla := fun v => m_isChildAt_q (d := d + 58) (k := a) hI v
  have hlb := fun v => m_isChildAt_q (d := d + 58) (k := b) hI v
  by_cases ca : 0 ≤ a ∧ a < mrd h 240 2
  · simp only [ca, and_self, if_true] at hla
    by_cases cb : 0 ≤ b ∧ b < mrd h 240 2
    · simp only [cb, and_self, if_true] at hlb
      rw [if_pos ⟨ca, cb⟩] at hq
      by_cases e : a = b
      · subst e
        rw [if_pos rfl] at hq
        refine opq hI (-1) 5 ?_ ?_
        · simp only [e135_0, e135_1, e135_2, e135_3, e135_6, e135_7, e135_8, e135_11, e135_12, e135_13, e135_16, e135_17, e135_18, e135_19, e135_22, e135_23, e135_26, e135_29, e135_30, e135_31, e135_32, e135_35, e135_38, e135_39, e135_40, e135_43, e135_46, psh0, psh1, psh3, true_or, or_true, eq_self, Option.bind_some, List.length_nil, List.length_cons, Nat.reduceAdd, Nat.reduceLeDiff, Nat.zero_le, ↓reduceIte, Int.reduceLT, Int.reduceEq, Int.reduceLE, Int.reduceNeg, Int.reduceAdd, Int.reduceMul, Int.reduceSub, ne_eq, not_true_eq_false, not_false_eq_true, and_true, true_and, and_false, false_and, c3lt, c3gt, c3eq, Bool.false_eq_true, isK_wr, inA_wr, inR_wr, k0, hq, x_refuse]
        · simp only [e282_0, e282_1, e282_2, e282_5, e282_6, e282_7, e282_10, e282_11, e282_12, e282_15, e282_18, e282_19, e282_20, e282_23, e282_26, e282_27, e282_28, e282_31, e282_32, e282_33, e282_34, e282_37, e282_38, e282_39, e282_42, e282_43, e282_44, e282_46, e282_47, e282_48, e282_51, e282_54, e282_55, e282_56, e282_57, e282_60, e282_63, e282_64, e282_65, e282_66, e282_67, e282_70, e282_71, e282_72, e282_73, e282_74, e282_77, e282_78, e282_79, e282_80, e282_81, e282_84, e282_85, e282_86, e282_87, e282_88, e282_91, e282_94, e282_97, e282_100, e282_101, psh0, psh1, psh3, true_or, or_true, eq_self, Option.bind_some, List.length_nil, List.length_cons, Nat.reduceAdd, Nat.reduceLeDiff, Nat.zero_le, ↓reduceIte, Int.reduceLT, Int.reduceEq, Int.reduceLE, Int.reduceNeg, Int.reduceAdd, Int.reduceMul, Int.reduceSub, ne_eq, not_true_eq_false, not_false_eq_true, and_true, true_and, and_false, false_and, c3lt, c3gt, c3eq, Bool.false_eq_true, isK_wr, inA_wr, inR_wr, kM, hla, m_refuse, wrwr]
      · rw [if_neg e] at hq
        have ma := MC_of ds' ca.1 ca.2
        have mb := MC_of ds' cb.1 cb.2
        obtain ⟨M, hM, hM1, hM2⟩ := min_nat ma.2.1.1 mb.2.1.1
        obtain ⟨ta1, ta2, ta3, ta4, ta5, ta6⟩ := kc a ca.1 (by omega)
        obtain ⟨tb1, tb2, tb3, tb4, tb5, tb6⟩ := kc b cb.1 (by omega)
        have gx := x_sameAtEnd (d := d + 58) cs ds' ca.1 ca.2 cb.1 cb.2 M hM
        have gm := fun v => m_rhyme_loop (d := d + 58) (hm v) (MC_q v 0 ma) (MC_q v 0 mb) M (by simp only [rdq, ↓reduceIte, Int.reduceLT, Int.reduceEq, Int.reduceLE, Int.reduceNeg, Int.reduceAdd, Int.reduceMul, Int.reduceSub, ne_eq, not_true_eq_false, not_false_eq_true, and_true, true_and, and_false, false_and, c3lt, c3gt, c3eq, Bool.false_eq_true, isK_wr, inA_wr, inR_wr]; exact hM) M 0 (by omega)
        simp only [rdq, ↓reduceIte, Int.reduceLT, Int.reduceEq, Int.reduceLE, Int.reduceNeg, Int.reduceAdd, Int.reduceMul, Int.reduceSub, ne_eq, not_true_eq_false, not_false_eq_true, and_true, true_and, and_false, false_and, c3lt, c3gt, c3eq, Bool.false_eq_true, isK_wr, inA_wr, inR_wr, LT_q] at gm
        refine opq hI _ 0 ?_ (?_ : _ = some ((0, ((fI (fun j => decide (¬ LT h a (mrd h 240 (76 + a) - 1 - j) = LT h b (mrd h 240 (76 + b) - 1 - j))) 0 M : Nat) : Int)), _))
        · simp only [e135_0, e135_1, e135_2, e135_3, e135_6, e135_7, e135_8, e135_11, e135_12, e135_13, e135_16, e135_17, e135_18, e135_19, e135_22, e135_23, e135_26, e135_29, e135_30, e135_31, e135_32, e135_35, e135_38, e135_39, e135_40, e135_43, e135_46, psh0, psh1, psh3, true_or, or_true, eq_self, Option.bind_some, List.length_nil, List.length_cons, Nat.reduceAdd, Nat.reduceLeDiff, Nat.zero_le, ↓reduceIte, Int.reduceLT, Int.reduceEq, Int.reduceLE, Int.reduceNeg, Int.reduceAdd, Int.reduceMul, Int.reduceSub, ne_eq, not_true_eq_false, not_false_eq_true, and_true, true_and, and_false, false_and, c3lt, c3gt, c3eq, Bool.false_eq_true, isK_wr, inA_wr, inR_wr, k0, e8, ks, r2, ta1, ta2, tb1, tb2, hq, gx, x_answer]
        · simp only [e282_0, e282_1, e282_2, e282_5, e282_6, e282_7, e282_10, e282_11, e282_12, e282_15, e282_18, e282_19, e282_20, e282_23, e282_26, e282_27, e282_28, e282_31, e282_32, e282_33, e282_34, e282_37, e282_38, e282_39, e282_42, e282_43, e282_44, e282_46, e282_47, e282_48, e282_51, e282_54, e282_55, e282_56, e282_57, e282_60, e282_63, e282_64, e282_65, e282_66, e282_67, e282_70, e282_71, e282_72, e282_73, e282_74, e282_77, e282_78, e282_79, e282_80, e282_81, e282_84, e282_85, e282_86, e282_87, e282_88, e282_91, e282_94, e282_97, e282_100, e282_101, psh0, psh1, psh3, true_or, or_true, eq_self, Option.bind_some, List.length_nil, List.length_cons, Nat.reduceAdd, Nat.reduceLeDiff, Nat.zero_le, ↓reduceIte, Int.reduceLT, Int.reduceEq, Int.reduceLE, Int.reduceNeg, Int.reduceAdd, Int.reduceMul, Int.reduceSub, ne_eq, not_true_eq_false, not_false_eq_true, and_true, true_and, and_false, false_and, c3lt, c3gt, c3eq, Bool.false_eq_true, isK_wr, inA_wr, inR_wr, kM, hla, hlb, e]
          exact gm 0
    · simp only [cb, if_false] at hlb
      rw [if_neg (fun z => cb z.2)] at hq
      refine opq hI (-1) 2 ?_ ?_
      · simp only [e135_0, e135_1, e135_2, e135_3, e135_6, e135_7, e135_8, e135_11, e135_12, e135_13, e135_16, e135_17, e135_18, e135_19, e135_22, e135_23, e135_26, e135_29, e135_30, e135_31, e135_32, e135_35, e135_38, e135_39, e135_40, e135_43, e135_46, psh0, psh1, psh3, true_or, or_true, eq_self, Option.bind_some, List.length_nil, List.length_cons, Nat.reduceAdd, Nat.reduceLeDiff, Nat.zero_le, ↓reduceIte, Int.reduceLT, Int.reduceEq, Int.reduceLE, Int.reduceNeg, Int.reduceAdd, Int.reduceMul, Int.reduceSub, ne_eq, not_true_eq_false, not_false_eq_true, and_true, true_and, and_false, false_and, c3lt, c3gt, c3eq, Bool.false_eq_true, isK_wr, inA_wr, inR_wr, k0, hq, x_refuse]
      · simp only [e282_0, e282_1, e282_2, e282_5, e282_6, e282_7, e282_10, e282_11, e282_12, e282_15, e282_18, e282_19, e282_20, e282_23, e282_26, e282_27, e282_28, e282_31, e282_32, e282_33, e282_34, e282_37, e282_38, e282_39, e282_42, e282_43, e282_44, e282_46, e282_47, e282_48, e282_51, e282_54, e282_55, e282_56, e282_57, e282_60, e282_63, e282_64, e282_65, e282_66, e282_67, e282_70, e282_71, e282_72, e282_73, e282_74, e282_77, e282_78, e282_79, e282_80, e282_81, e282_84, e282_85, e282_86, e282_87, e282_88, e282_91, e282_94, e282_97, e282_100, e282_101, psh0, psh1, psh3, true_or, or_true, eq_self, Option.bind_some, List.length_nil, List.length_cons, Nat.reduceAdd, Nat.reduceLeDiff, Nat.zero_le, ↓reduceIte, Int.reduceLT, Int.reduceEq, Int.reduceLE, Int.reduceNeg, Int.reduceAdd, Int.reduceMul, Int.reduceSub, ne_eq, not_true_eq_false, not_false_eq_true, and_true, true_and, and_false, false_and, c3lt, c3gt, c3eq, Bool.false_eq_true, isK_wr, inA_wr, inR_wr, kM, hla, hlb, m_refuse, wrwr]
  · simp only [ca, if_false] at hla
    rw [if_neg (fun z => ca z.1)] at hq
    refine opq hI (-1) 2 ?_ ?_
    · simp only [e135_0, e135_1, e135_2, e135_3, e135_6, e135_7, e135_8, e135_11, e135_12, e135_13, e135_16, e135_17, e135_18, e135_19, e135_22, e135_23, e135_26, e135_29, e135_30, e135_31, e135_32, e135_35, e135_38, e135_39, e135_40, e135_43, e135_46, psh0, psh1, psh3, true_or, or_true, eq_self, Option.bind_some, List.length_nil, List.length_cons, Nat.reduceAdd, Nat.reduceLeDiff, Nat.zero_le, ↓reduceIte, Int.reduceLT, Int.reduceEq, Int.reduceLE, Int.reduceNeg, Int.reduceAdd, Int.reduceMul, Int.reduceSub, ne_eq, not_true_eq_false, not_false_eq_true, and_true, true_and, and_false, false_and, c3lt, c3gt, c3eq, Bool.false_eq_true, isK_wr, inA_wr, inR_wr, k0, hq, x_refuse]
    · simp only [e282_0, e282_1, e282_2, e282_5, e282_6, e282_7, e282_10, e282_11, e282_12, e282_15, e282_18, e282_19, e282_20, e282_23, e282_26, e282_27, e282_28, e282_31, e282_32, e282_33, e282_34, e282_37, e282_38, e282_39, e282_42, e282_43, e282_44, e282_46, e282_47, e282_48, e282_51, e282_54, e282_55, e282_56, e282_57, e282_60, e282_63, e282_64, e282_65, e282_66, e282_67, e282_70, e282_71, e282_72, e282_73, e282_74, e282_77, e282_78, e282_79, e282_80, e282_81, e282_84, e282_85, e282_86, e282_87, e282_88, e282_91, e282_94, e282_97, e282_100, e282_101, psh0, psh1, psh3, true_or, or_true, eq_self, Option.bind_some, List.length_nil, List.length_cons, Nat.reduceAdd, Nat.reduceLeDiff, Nat.zero_le, ↓reduceIte, Int.reduceLT, Int.reduceEq, Int.reduceLE, Int.reduceNeg, Int.reduceAdd, Int.reduceMul, Int.reduceSub, ne_eq, not_true_eq_false, not_false_eq_true, and_true, true_and, and_false, false_and, c3lt, c3gt, c3eq, Bool.false_eq_true, isK_wr, inA_wr, inR_wr, kM, hla, m_refuse, wrwr]
theorem op_apart : Op_apart Inv := by
  intro d h a b hI i0 i1
  obtain ⟨s, e8, hs, k0, kM, cs, ds⟩ := ctx hI
  have ds' := ds
  have ks := cs.1
  have r1 := cs.2.2.1
  have r2 := cs.2.2.2.1
  have r3 := cs.2.2.2.2.1
  have kl := cs.2.2.2.2.2.2.2.2.2.2.2.1
  have kc := cs.2.2.2.2.2.2.2.2.2.2.2.2
  obtain ⟨d5, d6, d7, d8, dl, dc⟩ := ds
  have hm : ∀ v, CM (mwr (mwr (mwr h 0 11 v) 235 1 0) 235 0 0) := fun v => CM_q (CM_of hI)
  have hq := x_askTwo (d := d + 58) (a := a) (b := b) k0 e8 ks d7.1
  have hla := fun v => m_isChildAt_q (d := d + 58) (k := a) hI v
  have hlb := fun v => m_isChildAt_q (d := d + 58) (k := b) hI v
  by_cases ca : 0 ≤ a ∧ a < mrd h 240 2
  · simp only [ca, and_self, if_true] at hla
    by_cases cb : 0 ≤ b ∧ b < mrd h 240 2
    · simp only [cb, and_self, if_true] at hlb
      rw [if_pos ⟨ca, cb⟩] at hq
      by_cases e : a = b
      · subst e
        rw [if_pos rfl] at hq
        refine opq hI (-1) 5 ?_ ?_
        · simp only [e136_0, e136_1, e136_2, e136_3, e136_6, e136_7, e136_8, e136_11, e136_12, e136_13, e136_16, e136_17, e136_18, e136_19, e136_22, e136_23, e136_26, e136_29, e136_30, e136_31, e136_32, e136_35, e136_38, e136_39, e136_40, e136_43, e136_46, psh0, psh1, psh3, true_or, or_true, eq_self, Option.bind_some, List.length_nil, List.length_cons, Nat.reduceAdd, Nat.reduceLeDiff, Nat.zero_le, ↓reduceIte, Int.reduceLT, Int.reduceEq, Int.reduceLE, Int.reduceNeg, Int.reduceAdd, Int.reduceMul, Int.reduceSub, ne_eq, not_true_eq_false, not_false_eq_true, and_true, true_and, and_false, false_and, c3lt, c3gt, c3eq, Bool.false_eq_true, isK_wr, inA_wr, inR_wr, k0, hq, x_refuse]
        · simp only [e284_0, e284_1, e284_2, e284_5, e284_6, e284_7, e284_10, e284_11, e284_12, e284_15, e284_18, e284_19, e284_20, e284_23, e284_26, e284_27, e284_28, e284_31, e284_32, e284_33, e284_34, e284_37, e284_38, e284_39, e284_42, e284_43, e284_44, e284_45, e284_46, e284_49, e284_50, e284_51, e284_54, e284_55, e284_57, e284_60, e284_63, e284_64, psh0, psh1, psh3, true_or, or_true, eq_self, Option.bind_some, List.length_nil, List.length_cons, Nat.reduceAdd, Nat.reduceLeDiff, Nat.zero_le, ↓reduceIte, Int.reduceLT, Int.reduceEq, Int.reduceLE, Int.reduceNeg, Int.reduceAdd, Int.reduceMul, Int.reduceSub, ne_eq, not_true_eq_false, not_false_eq_true, and_true, true_and, and_false, false_and, c3lt, c3gt, c3eq, Bool.false_eq_true, isK_wr, inA_wr, inR_wr, kM, hla, m_refuse, wrwr]
      · rw [if_neg e] at hq
        have ma := MC_of ds' ca.1 ca.2
        have mb := MC_of ds' cb.1 cb.2
        obtain ⟨M, hM, hM1, hM2⟩ := min_nat ma.2.1.1 mb.2.1.1
        obtain ⟨ta1, ta2, ta3, ta4, ta5, ta6⟩ := kc a ca.1 (by omega)
        obtain ⟨tb1, tb2, tb3, tb4, tb5, tb6⟩ := kc b cb.1 (by omega)
        have gx := x_unlike (d := d + 58) cs ds' ca.1 ca.2 cb.1 cb.2 M hM
        have gm := fun v => m_apartOf (d := d + 57) (hm v) (MC_q v 0 ma) (MC_q v 0 mb) M (by simp only [rdq, ↓reduceIte, Int.reduceLT, Int.reduceEq, Int.reduceLE, Int.reduceNeg, Int.reduceAdd, Int.reduceMul, Int.reduceSub, ne_eq, not_true_eq_false, not_false_eq_true, and_true, true_and, and_false, false_and, c3lt, c3gt, c3eq, Bool.false_eq_true, isK_wr, inA_wr, inR_wr]; exact hM)
        simp only [rdq, ↓reduceIte, Int.reduceLT, Int.reduceEq, Int.reduceLE, Int.reduceNeg, Int.reduceAdd, Int.reduceMul, Int.reduceSub, ne_eq, not_true_eq_false, not_false_eq_true, and_true, true_and, and_false, false_and, c3lt, c3gt, c3eq, Bool.false_eq_true, isK_wr, inA_wr, inR_wr, LT_q] at gm
        by_cases cf : fI (fun j => decide (¬ LT h a j = LT h b j)) 0 M = M ∧ mrd h 240 (76 + a) = mrd h 240 (76 + b)
        · rw [if_pos cf] at gx
          simp only [if_pos cf] at gm
          refine opq hI (-1) 8 ?_ ?_
          · simp only [e136_0, e136_1, e136_2, e136_3, e136_6, e136_7, e136_8, e136_11, e136_12, e136_13, e136_16, e136_17, e136_18, e136_19, e136_22, e136_23, e136_26, e136_29, e136_30, e136_31, e136_32, e136_35, e136_38, e136_39, e136_40, e136_43, e136_46, psh0, psh1, psh3, true_or, or_true, eq_self, Option.bind_some, List.length_nil, List.length_cons, Nat.reduceAdd, Nat.reduceLeDiff, Nat.zero_le, ↓reduceIte, Int.reduceLT, Int.reduceEq, Int.reduceLE, Int.reduceNeg, Int.reduceAdd, Int.reduceMul, Int.reduceSub, ne_eq, not_true_eq_false, not_false_eq_true, and_true, true_and, and_false, false_and, c3lt, c3gt, c3eq, Bool.false_eq_true, isK_wr, inA_wr, inR_wr, k0, e8, ks, r2, ta1, ta2, tb1, tb2, hq, gx, x_answerIfThere]
          · simp only [e284_0, e284_1, e284_2, e284_5, e284_6, e284_7, e284_10, e284_11, e284_12, e284_15, e284_18, e284_19, e284_20, e284_23, e284_26, e284_27, e284_28, e284_31, e284_32, e284_33, e284_34, e284_37, e284_38, e284_39, e284_42, e284_43, e284_44, e284_45, e284_46, e284_49, e284_50, e284_51, e284_54, e284_55, e284_57, e284_60, e284_63, e284_64, psh0, psh1, psh3, true_or, or_true, eq_self, Option.bind_some, List.length_nil, List.length_cons, Nat.reduceAdd, Nat.reduceLeDiff, Nat.zero_le, ↓reduceIte, Int.reduceLT, Int.reduceEq, Int.reduceLE, Int.reduceNeg, Int.reduceAdd, Int.reduceMul, Int.reduceSub, ne_eq, not_true_eq_false, not_false_eq_true, and_true, true_and, and_false, false_and, c3lt, c3gt, c3eq, Bool.false_eq_true, isK_wr, inA_wr, inR_wr, kM, hla, hlb, e, gm, m_refuse, wrwr]
        · rw [if_neg cf] at gx
          simp only [if_neg cf] at gm
          generalize fI (fun j => decide (¬ LT h a j = LT h b j)) 0 M = R at gx gm
          have c1 : ¬ (R : Int) = -1 := by omega
          have c2 : ¬ (R : Int) < 0 := by omega
          refine opq hI R 0 ?_ ?_
          · simp only [e136_0, e136_1, e136_2, e136_3, e136_6, e136_7, e136_8, e136_11, e136_12, e136_13, e136_16, e136_17, e136_18, e136_19, e136_22, e136_23, e136_26, e136_29, e136_30, e136_31, e136_32, e136_35, e136_38, e136_39, e136_40, e136_43, e136_46, psh0, psh1, psh3, true_or, or_true, eq_self, Option.bind_some, List.length_nil, List.length_cons, Nat.reduceAdd, Nat.reduceLeDiff, Nat.zero_le, ↓reduceIte, Int.reduceLT, Int.reduceEq, Int.reduceLE, Int.reduceNeg, Int.reduceAdd, Int.reduceMul, Int.reduceSub, ne_eq, not_true_eq_false, not_false_eq_true, and_true, true_and, and_false, false_and, c3lt, c3gt, c3eq, Bool.false_eq_true, isK_wr, inA_wr, inR_wr, k0, e8, ks, r2, ta1, ta2, tb1, tb2, hq, gx, x_answerIfThere, c1]
          · simp only [e284_0, e284_1, e284_2, e284_5, e284_6, e284_7, e284_10, e284_11, e284_12, e284_15, e284_18, e284_19, e284_20, e284_23, e284_26, e284_27, e284_28, e284_31, e284_32, e284_33, e284_34, e284_37, e284_38, e284_39, e284_42, e284_43, e284_44, e284_45, e284_46, e284_49, e284_50, e284_51, e284_54, e284_55, e284_57, e284_60, e284_63, e284_64, psh0, psh1, psh3, true_or, or_true, eq_self, Option.bind_some, List.length_nil, List.length_cons, Nat.reduceAdd, Nat.reduceLeDiff, Nat.zero_le, ↓reduceIte, Int.reduceLT, Int.reduceEq, Int.reduceLE, Int.reduceNeg, Int.reduceAdd, Int.reduceMul, Int.reduceSub, ne_eq, not_true_eq_false, not_false_eq_true, and_true, true_and, and_false, false_and, c3lt, c3gt, c3eq, Bool.false_eq_true, isK_wr, inA_wr, inR_wr, kM, hla, hlb, e, gm, c2]
    · simp only [cb, if_false] at hlb
      rw [if_neg (fun z => cb z.2)] at hq
      refine opq hI (-1) 2 ?_ ?_
      · simp only [e136_0, e136_1, e136_2, e136_3, e136_6, e136_7, e136_8, e136_11, e136_12, e136_13, e136_16, e136_17, e136_18, e136_19, e136_22, e136_23, e136_26, e136_29, e136_30, e136_31, e136_32, e136_35, e136_38, e136_39, e136_40, e136_43, e136_46, psh0, psh1, psh3, true_or, or_true, eq_self, Option.bind_some, List.length_nil, List.length_cons, Nat.reduceAdd, Nat.reduceLeDiff, Nat.zero_le, ↓reduceIte, Int.reduceLT, Int.reduceEq, Int.reduceLE, Int.reduceNeg, Int.reduceAdd, Int.reduceMul, Int.reduceSub, ne_eq, not_true_eq_false, not_false_eq_true, and_true, true_and, and_false, false_and, c3lt, c3gt, c3eq, Bool.false_eq_true, isK_wr, inA_wr, inR_wr, k0, hq, x_refuse]
      · simp only [e284_0, e284_1, e284_2, e284_5, e284_6, e284_7, e284_10, e284_11, e284_12, e284_15, e284_18, e284_19, e284_20, e284_23, e284_26, e284_27, e284_28, e284_31, e284_32, e284_33, e284_34, e284_37, e284_38, e284_39, e284_42, e284_43, e284_44, e284_45, e284_46, e284_49, e284_50, e284_51, e284_54, e284_55, e284_57, e284_60, e284_63, e284_64, psh0, psh1, psh3, true_or, or_true, eq_self, Option.bind_some, List.length_nil, List.length_cons, Nat.reduceAdd, Nat.reduceLeDiff, Nat.zero_le, ↓reduceIte, Int.reduceLT, Int.reduceEq, Int.reduceLE, Int.reduceNeg, Int.reduceAdd, Int.reduceMul, Int.reduceSub, ne_eq, not_true_eq_false, not_false_eq_true, and_true, true_and, and_false, false_and, c3lt, c3gt, c3eq, Bool.false_eq_true, isK_wr, inA_wr, inR_wr, kM, hla, hlb, m_refuse, wrwr]
  · simp only [ca, if_false] at hla
    rw [if_neg (fun z => ca z.1)] at hq
    refine opq hI (-1) 2 ?_ ?_
    · simp only [e136_0, e136_1, e136_2, e136_3, e136_6, e136_7, e136_8, e136_11, e136_12, e136_13, e136_16, e136_17, e136_18, e136_19, e136_22, e136_23, e136_26, e136_29, e136_30, e136_31, e136_32, e136_35, e136_38, e136_39, e136_40, e136_43, e136_46, psh0, psh1, psh3, true_or, or_true, eq_self, Option.bind_some, List.length_nil, List.length_cons, Nat.reduceAdd, Nat.reduceLeDiff, Nat.zero_le, ↓reduceIte, Int.reduceLT, Int.reduceEq, Int.reduceLE, Int.reduceNeg, Int.reduceAdd, Int.reduceMul, Int.reduceSub, ne_eq, not_true_eq_false, not_false_eq_true, and_true, true_and, and_false, false_and, c3lt, c3gt, c3eq, Bool.false_eq_true, isK_wr, inA_wr, inR_wr, k0, hq, x_refuse]
    · simp only [e284_0, e284_1, e284_2, e284_5, e284_6, e284_7, e284_10, e284_11, e284_12, e284_15, e284_18, e284_19, e284_20, e284_23, e284_26, e284_27, e284_28, e284_31, e284_32, e284_33, e284_34, e284_37, e284_38, e284_39, e284_42, e284_43, e284_44, e284_45, e284_46, e284_49, e284_50, e284_51, e284_54, e284_55, e284_57, e284_60, e284_63, e284_64, psh0, psh1, psh3, true_or, or_true, eq_self, Option.bind_some, List.length_nil, List.length_cons, Nat.reduceAdd, Nat.reduceLeDiff, Nat.zero_le, ↓reduceIte, Int.reduceLT, Int.reduceEq, Int.reduceLE, Int.reduceNeg, Int.reduceAdd, Int.reduceMul, Int.reduceSub, ne_eq, not_true_eq_false, not_false_eq_true, and_true, true_and, and_false, false_and, c3lt, c3gt, c3eq, Bool.false_eq_true, isK_wr, inA_wr, inR_wr, kM, hla, m_refuse, wrwr]

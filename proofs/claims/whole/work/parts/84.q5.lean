/-! teaches, ready, opens -/
section
variable {d : Nat} {h : AM} {s a b c k l p v w x y z : Int}
theorem x_teaches_loop (hk : isK h 0 10) (e8 : mrd h 0 8 = s) (hs : CS h s) (N : Nat) (hN : mrd h s 6 = N) (h12 : N ≤ 12) (n : Nat) : ∀ i : Nat, i + n = N → EV (d + 1) 119 21 [(2, 0), (0, a), (0, sF (fun l => decide (mrd h (s + 13 + l) 5 = a)) i), (0, (i : Int))] [] h = some ((0, sF (fun l => decide (mrd h (s + 13 + l) 5 = a)) N), mwr h 0 11 0) := by
  obtain ⟨ks, -, r1, r2, r3, r4, -, -, k7, k8, k9, kl, kc⟩ := hs
  induction n with
  | zero =>
    intro i hi
    have e : i = N := by omega
    subst e
    rw [e119_21]
    simp only [e119_0, e119_1, e119_4, e119_5, e119_8, e119_11, e119_12, e119_13, e119_16, e119_17, e119_18, e119_19, e119_20, e119_22, e119_23, e119_26, e119_29, e119_32, e119_33, e119_36, e119_39, e119_40, e119_41, e119_44, e119_45, e119_48, e119_49, e119_50, e119_51, e119_52, e119_53, e119_54, e119_57, e119_60, e119_61, e119_62, e119_65, psh0, psh1, psh3, true_or, or_true, eq_self, Option.bind_some, List.length_nil, List.length_cons, Nat.reduceAdd, Nat.reduceLeDiff, Nat.zero_le, ↓reduceIte, Int.reduceLT, Int.reduceEq, Int.reduceLE, Int.reduceNeg, Int.reduceAdd, Int.reduceMul, Int.reduceSub, ne_eq, not_true_eq_false, not_false_eq_true, and_true, true_and, and_false, false_and, c3lt, c3gt, c3eq, Bool.false_eq_true, isK_wr, inA_wr, inR_wr, hk, e8, ks, hN, Int.lt_irrefl, x_answer]
  | succ n ih =>
    intro i hi
    have c : (i : Int) < N := by omega
    have w1 : w32 ((i : Int) + 1) = ((i + 1 : Nat) : Int) := by rw [w32_id (by omega) (by omega)]; omega
    obtain ⟨t1, t2, t3⟩ := kl i (by omega) (by omega)
    have ih' := ih (i + 1) (by omega)
    rw [sF] at ih'
    rw [e119_21]
    by_cases hb : mrd h (s + 13 + i) 5 = a
    · rw [if_pos (decide_eq_true hb)] at ih'
      simp only [e119_0, e119_1, e119_4, e119_5, e119_8, e119_11, e119_12, e119_13, e119_16, e119_17, e119_18, e119_19, e119_20, e119_22, e119_23, e119_26, e119_29, e119_32, e119_33, e119_36, e119_39, e119_40, e119_41, e119_44, e119_45, e119_48, e119_49, e119_50, e119_51, e119_52, e119_53, e119_54, e119_57, e119_60, e119_61, e119_62, e119_65, psh0, psh1, psh3, true_or, or_true, eq_self, Option.bind_some, List.length_nil, List.length_cons, Nat.reduceAdd, Nat.reduceLeDiff, Nat.zero_le, ↓reduceIte, Int.reduceLT, Int.reduceEq, Int.reduceLE, Int.reduceNeg, Int.reduceAdd, Int.reduceMul, Int.reduceSub, ne_eq, not_true_eq_false, not_false_eq_true, and_true, true_and, and_false, false_and, c3lt, c3gt, c3eq, Bool.false_eq_true, isK_wr, inA_wr, inR_wr, hk, e8, ks, hN, c, r1, t1, t2, t3, hb, w1]
      exact ih'
    · rw [if_neg (by simpa using hb)] at ih'
      simp only [e119_0, e119_1, e119_4, e119_5, e119_8, e119_11, e119_12, e119_13, e119_16, e119_17, e119_18, e119_19, e119_20, e119_22, e119_23, e119_26, e119_29, e119_32, e119_33, e119_36, e119_39, e119_40, e119_41, e119_44, e119_45, e119_48, e119_49, e119_50, e119_51, e119_52, e119_53, e119_54, e119_57, e119_60, e119_61, e119_62, e119_65, psh0, psh1, psh3, true_or, or_true, eq_self, Option.bind_some, List.length_nil, List.length_cons, Nat.reduceAdd, Nat.reduceLeDiff, Nat.zero_le, ↓reduceIte, Int.reduceLT, Int.reduceEq, Int.reduceLE, Int.reduceNeg, Int.reduceAdd, Int.reduceMul, Int.reduceSub, ne_eq, not_true_eq_false, not_false_eq_true, and_true, true_and, and_false, false_and, c3lt, c3gt, c3eq, Bool.false_eq_true, isK_wr, inA_wr, inR_wr, hk, e8, ks, hN, c, r1, t1, t2, t3, hb, w1]
      exact ih'
theorem m_teaches_loop (hm : CM h) (N : Nat) (hN : mrd h 240 1 = N) (h12 : N ≤ 12) (n : Nat) : ∀ i : Nat, i + n = N → EV (d + 1) 249 38 [(2, 235), (0, a), (0, sF (fun l => decide (mrd h 240 (40 + l) = a)) i), (0, (i : Int))] [] h = some ((0, sF (fun l => decide (mrd h 240 (40 + l) = a)) N), h) := by
  have i1 := inC hm (j := 1) (by decide) (by decide)
  induction n with
  | zero =>
    intro i hi
    have e : i = N := by omega
    subst e
    rw [e249_38]
    simp only [e249_0, e249_1, e249_2, e249_5, e249_6, e249_7, e249_10, e249_11, e249_12, e249_13, e249_14, e249_17, e249_18, e249_19, e249_20, e249_21, e249_22, e249_25, e249_28, e249_29, e249_30, e249_33, e249_34, e249_35, e249_36, e249_37, e249_39, e249_40, e249_43, e249_44, e249_45, e249_48, e249_49, e249_50, e249_53, e249_55, e249_56, e249_57, e249_58, e249_59, e249_62, e249_63, e249_64, e249_65, e249_68, e249_69, e249_70, e249_71, e249_74, e249_77, e249_78, psh0, psh1, psh3, true_or, or_true, eq_self, Option.bind_some, List.length_nil, List.length_cons, Nat.reduceAdd, Nat.reduceLeDiff, Nat.zero_le, ↓reduceIte, Int.reduceLT, Int.reduceEq, Int.reduceLE, Int.reduceNeg, Int.reduceAdd, Int.reduceMul, Int.reduceSub, ne_eq, not_true_eq_false, not_false_eq_true, and_true, true_and, and_false, false_and, c3lt, c3gt, c3eq, Bool.false_eq_true, isK_wr, inA_wr, inR_wr, hm.1, mC hm, i1, hN, Int.lt_irrefl]
  | succ n ih =>
    intro i hi
    have c : (i : Int) < N := by omega
    have w1 : w32 ((i : Int) + 1) = ((i + 1 : Nat) : Int) := by rw [w32_id (by omega) (by omega)]; omega
    have w2 : w32 (40 + (i : Int)) = 40 + i := w32_id (by omega) (by omega)
    have ih' := ih (i + 1) (by omega)
    rw [sF] at ih'
    rw [e249_38]
    by_cases hb : mrd h 240 (40 + i) = a
    · rw [if_pos (decide_eq_true hb)] at ih'
      simp only [e249_0, e249_1, e249_2, e249_5, e249_6, e249_7, e249_10, e249_11, e249_12, e249_13, e249_14, e249_17, e249_18, e249_19, e249_20, e249_21, e249_22, e249_25, e249_28, e249_29, e249_30, e249_33, e249_34, e249_35, e249_36, e249_37, e249_39, e249_40, e249_43, e249_44, e249_45, e249_48, e249_49, e249_50, e249_53, e249_55, e249_56, e249_57, e249_58, e249_59, e249_62, e249_63, e249_64, e249_65, e249_68, e249_69, e249_70, e249_71, e249_74, e249_77, e249_78, psh0, psh1, psh3, true_or, or_true, eq_self, Option.bind_some, List.length_nil, List.length_cons, Nat.reduceAdd, Nat.reduceLeDiff, Nat.zero_le, ↓reduceIte, Int.reduceLT, Int.reduceEq, Int.reduceLE, Int.reduceNeg, Int.reduceAdd, Int.reduceMul, Int.reduceSub, ne_eq, not_true_eq_false, not_false_eq_true, and_true, true_and, and_false, false_and, c3lt, c3gt, c3eq, Bool.false_eq_true, isK_wr, inA_wr, inR_wr, hm.1, mC hm, i1, hN, c, w1, w2, inC hm (j := 40 + (i : Int)) (by omega) (by omega), hb]
      exact ih'
    · rw [if_neg (by simpa using hb)] at ih'
      simp only [e249_0, e249_1, e249_2, e249_5, e249_6, e249_7, e249_10, e249_11, e249_12, e249_13, e249_14, e249_17, e249_18, e249_19, e249_20, e249_21, e249_22, e249_25, e249_28, e249_29, e249_30, e249_33, e249_34, e249_35, e249_36, e249_37, e249_39, e249_40, e249_43, e249_44, e249_45, e249_48, e249_49, e249_50, e249_53, e249_55, e249_56, e249_57, e249_58, e249_59, e249_62, e249_63, e249_64, e249_65, e249_68, e249_69, e249_70, e249_71, e249_74, e249_77, e249_78, psh0, psh1, psh3, true_or, or_true, eq_self, Option.bind_some, List.length_nil, List.length_cons, Nat.reduceAdd, Nat.reduceLeDiff, Nat.zero_le, ↓reduceIte, Int.reduceLT, Int.reduceEq, Int.reduceLE, Int.reduceNeg, Int.reduceAdd, Int.reduceMul, Int.reduceSub, ne_eq, not_true_eq_false, not_false_eq_true, and_true, true_and, and_false, false_and, c3lt, c3gt, c3eq, Bool.false_eq_true, isK_wr, inA_wr, inR_wr, hm.1, mC hm, i1, hN, c, w1, w2, inC hm (j := 40 + (i : Int)) (by omega) (by omega), hb, i_or_0 (sF_in _ i)]
      exact ih'
theorem sF_eq {P Q : Nat → Bool} : ∀ n, (∀ i, i < n → P i = Q i) → sF P n = sF Q n
  | 0, _ => rfl
  | n + 1, h => by rw [sF, sF, sF_eq n (fun i hi => h i (by omega)), h n (by omega)]
theorem op_teaches : Op_teaches Inv := by
  intro d h a0 hI i0
  obtain ⟨s, e8, hs, k0, kM, cs, ds⟩ := ctx hI
  have ds' := ds
  have ks := cs.1
  have r1 := cs.2.2.1
  have r2 := cs.2.2.2.1
  have r3 := cs.2.2.2.2.1
  have kl := cs.2.2.2.2.2.2.2.2.2.2.2.1
  have kc := cs.2.2.2.2.2.2.2.2.2.2.2.2
  obtain ⟨d5, d6, d7, d8, dl, dc⟩ := ds
  have hm : ∀ v, CM (mwr (mwr (mwr h 0 11 v) 235 1 0) 235 0 0) := fun v => CM_q (CM_of hI)
  have hx : EV (d + 59) 63 0 [(2, s), (0, a0)] [] h = some ((0, if 0 ≤ a0 ∧ a0 < mrd h 240 0 then 1 else 0), h) := by rw [x_hasMaster ks, d5.1]
  have wl : w32 (mrd h 240 0 - 1) = mrd h 240 0 - 1 := w32_id (by omega) (by omega)
  by_cases hc : 0 ≤ a0 ∧ a0 < mrd h 240 0
  · have hc' : 0 ≤ a0 ∧ a0 ≤ mrd h 240 0 - 1 := by omega
    simp only [hc, and_self, if_true] at hx
    obtain ⟨N, hN⟩ : ∃ N : Nat, mrd h 240 1 = N := ⟨(mrd h 240 1).toNat, by omega⟩
    refine opq hI (sF (fun l => decide (mrd h 240 (40 + l) = a0)) N) 0 ?_ ?_
    · have e : sF (fun l => decide (mrd h 240 (40 + l) = a0)) N = sF (fun l => decide (mrd h (s + 13 + l) 5 = a0)) N := sF_eq N (fun i hi => by rw [(dl i (by omega) (by omega)).2.2.2.2.1.1])
      rw [e]
      simp only [e119_0, e119_1, e119_4, e119_5, e119_8, e119_11, e119_12, e119_13, e119_16, e119_17, e119_18, e119_19, e119_20, e119_22, e119_23, e119_26, e119_29, e119_32, e119_33, e119_36, e119_39, e119_40, e119_41, e119_44, e119_45, e119_48, e119_49, e119_50, e119_51, e119_52, e119_53, e119_54, e119_57, e119_60, e119_61, e119_62, e119_65, psh0, psh1, psh3, true_or, or_true, eq_self, Option.bind_some, List.length_nil, List.length_cons, Nat.reduceAdd, Nat.reduceLeDiff, Nat.zero_le, ↓reduceIte, Int.reduceLT, Int.reduceEq, Int.reduceLE, Int.reduceNeg, Int.reduceAdd, Int.reduceMul, Int.reduceSub, ne_eq, not_true_eq_false, not_false_eq_true, and_true, true_and, and_false, false_and, c3lt, c3gt, c3eq, Bool.false_eq_true, isK_wr, inA_wr, inR_wr, k0, e8, ks, hx]
      exact x_teaches_loop (d := d + 59) k0 e8 cs N (by rw [d6.1, hN]) (by omega) N 0 (by omega)
    · simp only [e249_0, e249_1, e249_2, e249_5, e249_6, e249_7, e249_10, e249_11, e249_12, e249_13, e249_14, e249_17, e249_18, e249_19, e249_20, e249_21, e249_22, e249_25, e249_28, e249_29, e249_30, e249_33, e249_34, e249_35, e249_36, e249_37, e249_39, e249_40, e249_43, e249_44, e249_45, e249_48, e249_49, e249_50, e249_53, e249_55, e249_56, e249_57, e249_58, e249_59, e249_62, e249_63, e249_64, e249_65, e249_68, e249_69, e249_70, e249_71, e249_74, e249_77, e249_78, psh0, psh1, psh3, true_or, or_true, eq_self, Option.bind_some, List.length_nil, List.length_cons, Nat.reduceAdd, Nat.reduceLeDiff, Nat.zero_le, ↓reduceIte, Int.reduceLT, Int.reduceEq, Int.reduceLE, Int.reduceNeg, Int.reduceAdd, Int.reduceMul, Int.reduceSub, ne_eq, not_true_eq_false, not_false_eq_true, and_true, true_and, and_false, false_and, c3lt, c3gt, c3eq, Bool.false_eq_true, isK_wr, inA_wr, inR_wr, kM, m_isIn, mC (hm _), inC (hm 0) (j := 0) (by decide) (by decide), rdq, wl, hc']
      have := m_teaches_loop (d := d + 59) (a := a0) (hm 0) N (by rw [rdq (by decide) (by decide), hN]) (by omega) N 0 (by omega)
      simp only [rdq, ↓reduceIte, Int.reduceLT, Int.reduceEq, Int.reduceLE, Int.reduceNeg, Int.reduceAdd, Int.reduceMul, Int.reduceSub, ne_eq, not_true_eq_false, not_false_eq_true, and_true, true_and, and_false, false_and, c3lt, c3gt, c3eq, Bool.false_eq_true, isK_wr, inA_wr, inR_wr] at this
      exact this
  · have hc' : ¬ (0 ≤ a0 ∧ a0 ≤ mrd h 240 0 - 1) := by omega
    simp only [hc, if_false] at hx
    refine opq hI (-1) 2 ?_ ?_
    · simp only [e119_0, e119_1, e119_4, e119_5, e119_8, e119_11, e119_12, e119_13, e119_16, e119_17, e119_18, e119_19, e119_20, e119_22, e119_23, e119_26, e119_29, e119_32, e119_33, e119_36, e119_39, e119_40, e119_41, e119_44, e119_45, e119_48, e119_49, e119_50, e119_51, e119_52, e119_53, e119_54, e119_57, e119_60, e119_61, e119_62, e119_65, psh0, psh1, psh3, true_or, or_true, eq_self, Option.bind_some, List.length_nil, List.length_cons, Nat.reduceAdd, Nat.reduceLeDiff, Nat.zero_le, ↓reduceIte, Int.reduceLT, Int.reduceEq, Int.reduceLE, Int.reduceNeg, Int.reduceAdd, Int.reduceMul, Int.reduceSub, ne_eq, not_true_eq_false, not_false_eq_true, and_true, true_and, and_false, false_and, c3lt, c3gt, c3eq, Bool.false_eq_true, isK_wr, inA_wr, inR_wr, k0, e8, ks, hx, x_refuse]
    · simp only [e249_0, e249_1, e249_2, e249_5, e249_6, e249_7, e249_10, e249_11, e249_12, e249_13, e249_14, e249_17, e249_18, e249_19, e249_20, e249_21, e249_22, e249_25, e249_28, e249_29, e249_30, e249_33, e249_34, e249_35, e249_36, e249_37, e249_39, e249_40, e249_43, e249_44, e249_45, e249_48, e249_49, e249_50, e249_53, e249_55, e249_56, e249_57, e249_58, e249_59, e249_62, e249_63, e249_64, e249_65, e249_68, e249_69, e249_70, e249_71, e249_74, e249_77, e249_78, psh0, psh1, psh3, true_or, or_true, eq_self, Option.bind_some, List.length_nil, List.length_cons, Nat.reduceAdd, Nat.reduceLeDiff, Nat.zero_le, ↓reduceIte, Int.reduceLT, Int.reduceEq, Int.reduceLE, Int.reduceNeg, Int.reduceAdd, Int.reduceMul, Int.reduceSub, ne_eq, not_true_eq_false, not_false_eq_true, and_true, true_and, and_false, false_and, c3lt, c3gt, c3eq, Bool.false_eq_true, isK_wr, inA_wr, inR_wr, kM, m_isIn, mC (hm _), inC (hm 2) (j := 0) (by decide) (by decide), rdq, wl, hc', m_refuse, wrwr]
/-- ready lessons, money minded or not -/
def rdy (kn pu : Int) (nd co : Nat → Int) (mi : Bool) : Nat → Bool := fun l => decide (opn kn (nd l) l) && (!mi || !decide (pu < co l))
theorem x_readySet_loop (hs : CS h s) (c0 : 0 ≤ c) (c1 : c < 4) (mi : Bool) (N : Nat) (hN : mrd h s 6 = N) (h12 : N ≤ 12) (n : Nat) : ∀ i : Nat, i + n = N → EV (d + 1) 71 5 [(2, s), (2, s + 25 + 2 * c), (0, if mi = true then 1 else 0), (0, sF (rdy (mrd h (s + 25 + 2 * c) 5) (mrd h (s + 25 + 2 * c) 3) (fun l => mrd h (s + 13 + l) 6) (fun l => mrd h (s + 13 + l) 4) mi) i), (0, (i : Int))] [] h = some ((0, sF (rdy (mrd h (s + 25 + 2 * c) 5) (mrd h (s + 25 + 2 * c) 3) (fun l => mrd h (s + 13 + l) 6) (fun l => mrd h (s + 13 + l) 4) mi) N), h) := by
  have ks := hs.1
  obtain ⟨q1, q2, q3, q4, q5, q6⟩ := hs.2.2.2.2.2.2.2.2.2.2.2.2 c c0 c1
  induction n with
  | zero =>
    intro i hi
    have e : i = N := by omega
    subst e
    rw [e71_5]
    simp only [e71_0, e71_1, e71_2, e71_3, e71_7, e71_8, e71_11, e71_14, e71_15, e71_16, e71_19, e71_21, e71_24, e71_27, e71_28, e71_31, e71_32, e71_33, e71_35, e71_38, e71_41, e71_42, e71_43, e71_45, e71_46, e71_47, e71_48, e71_51, e71_54, e71_55, psh0, psh1, psh3, true_or, or_true, eq_self, Option.bind_some, List.length_nil, List.length_cons, Nat.reduceAdd, Nat.reduceLeDiff, Nat.zero_le, ↓reduceIte, Int.reduceLT, Int.reduceEq, Int.reduceLE, Int.reduceNeg, Int.reduceAdd, Int.reduceMul, Int.reduceSub, ne_eq, not_true_eq_false, not_false_eq_true, and_true, true_and, and_false, false_and, c3lt, c3gt, c3eq, Bool.false_eq_true, isK_wr, inA_wr, inR_wr, ks, hN, Int.lt_irrefl]
  | succ n ih =>
    intro i hi
    have ci : (i : Int) < N := by omega
    have w1 : w32 ((i : Int) + 1) = ((i + 1 : Nat) : Int) := by rw [w32_id (by omega) (by omega)]; omega
    have g1 := x_lets (d := d) (x := mrd h (s + 25 + 2 * c) 5) (l := i) hs (by omega) (by omega)
    have g2 := x_canPay (d := d) (l := i) hs c0 c1 (by omega) (by omega)
    have ih' := ih (i + 1) (by omega)
    rw [sF] at ih'
    rw [e71_5]
    by_cases hb : opn (mrd h (s + 25 + 2 * c) 5) (mrd h (s + 13 + i) 6) i
    · rw [if_pos hb] at g1
      cases mi with
      | false =>
        rw [if_pos (show rdy _ _ _ _ false i = true by unfold rdy; rw [decide_eq_true hb]; rfl)] at ih'
        simp only [e71_0, e71_1, e71_2, e71_3, e71_7, e71_8, e71_11, e71_14, e71_15, e71_16, e71_19, e71_21, e71_24, e71_27, e71_28, e71_31, e71_32, e71_33, e71_35, e71_38, e71_41, e71_42, e71_43, e71_45, e71_46, e71_47, e71_48, e71_51, e71_54, e71_55, psh0, psh1, psh3, true_or, or_true, eq_self, Option.bind_some, List.length_nil, List.length_cons, Nat.reduceAdd, Nat.reduceLeDiff, Nat.zero_le, ↓reduceIte, Int.reduceLT, Int.reduceEq, Int.reduceLE, Int.reduceNeg, Int.reduceAdd, Int.reduceMul, Int.reduceSub, ne_eq, not_true_eq_false, not_false_eq_true, and_true, true_and, and_false, false_and, c3lt, c3gt, c3eq, Bool.false_eq_true, isK_wr, inA_wr, inR_wr, ks, hN, ci, q3, g1, w1, Bool.false_eq_true]
        exact ih'
      | true =>
        by_cases hp : mrd h (s + 25 + 2 * c) 3 < mrd h (s + 13 + i) 4
        · rw [if_pos hp] at g2
          rw [if_neg (show ¬ rdy _ _ _ _ true i = true by unfold rdy; rw [decide_eq_true hb, decide_eq_true hp]; decide)] at ih'
          simp only [e71_0, e71_1, e71_2, e71_3, e71_7, e71_8, e71_11, e71_14, e71_15, e71_16, e71_19, e71_21, e71_24, e71_27, e71_28, e71_31, e71_32, e71_33, e71_35, e71_38, e71_41, e71_42, e71_43, e71_45, e71_46, e71_47, e71_48, e71_51, e71_54, e71_55, psh0, psh1, psh3, true_or, or_true, eq_self, Option.bind_some, List.length_nil, List.length_cons, Nat.reduceAdd, Nat.reduceLeDiff, Nat.zero_le, ↓reduceIte, Int.reduceLT, Int.reduceEq, Int.reduceLE, Int.reduceNeg, Int.reduceAdd, Int.reduceMul, Int.reduceSub, ne_eq, not_true_eq_false, not_false_eq_true, and_true, true_and, and_false, false_and, c3lt, c3gt, c3eq, Bool.false_eq_true, isK_wr, inA_wr, inR_wr, ks, hN, ci, q3, g1, g2, w1]
          exact ih'
        · rw [if_neg hp] at g2
          rw [if_pos (show rdy _ _ _ _ true i = true by unfold rdy; rw [decide_eq_true hb, decide_eq_false hp]; rfl)] at ih'
          simp only [e71_0, e71_1, e71_2, e71_3, e71_7, e71_8, e71_11, e71_14, e71_15, e71_16, e71_19, e71_21, e71_24, e71_27, e71_28, e71_31, e71_32, e71_33, e71_35, e71_38, e71_41, e71_42, e71_43, e71_45, e71_46, e71_47, e71_48, e71_51, e71_54, e71_55, psh0, psh1, psh3, true_or, or_true, eq_self, Option.bind_some, List.length_nil, List.length_cons, Nat.reduceAdd, Nat.reduceLeDiff, Nat.zero_le, ↓reduceIte, Int.reduceLT, Int.reduceEq, Int.reduceLE, Int.reduceNeg, Int.reduceAdd, Int.reduceMul, Int.reduceSub, ne_eq, not_true_eq_false, not_false_eq_true, and_true, true_and, and_false, false_and, c3lt, c3gt, c3eq, Bool.false_eq_true, isK_wr, inA_wr, inR_wr, ks, hN, ci, q3, g1, g2, w1]
          exact ih'
    · rw [if_neg hb] at g1
      rw [if_neg (show ¬ rdy _ _ _ _ mi i = true by unfold rdy; rw [decide_eq_false hb]; simp)] at ih'
      simp only [e71_0, e71_1, e71_2, e71_3, e71_7, e71_8, e71_11, e71_14, e71_15, e71_16, e71_19, e71_21, e71_24, e71_27, e71_28, e71_31, e71_32, e71_33, e71_35, e71_38, e71_41, e71_42, e71_43, e71_45, e71_46, e71_47, e71_48, e71_51, e71_54, e71_55, psh0, psh1, psh3, true_or, or_true, eq_self, Option.bind_some, List.length_nil, List.length_cons, Nat.reduceAdd, Nat.reduceLeDiff, Nat.zero_le, ↓reduceIte, Int.reduceLT, Int.reduceEq, Int.reduceLE, Int.reduceNeg, Int.reduceAdd, Int.reduceMul, Int.reduceSub, ne_eq, not_true_eq_false, not_false_eq_true, and_true, true_and, and_false, false_and, c3lt, c3gt, c3eq, Bool.false_eq_true, isK_wr, inA_wr, inR_wr, ks, hN, ci, q3, g1, w1]
      exact ih'
theorem x_readySet (hs : CS h s) (c0 : 0 ≤ c) (c1 : c < 4) (mi : Bool) (N : Nat) (hN : mrd h s 6 = N) (h12 : N ≤ 12) : EV (d + 1) 71 0 [(2, s), (2, s + 25 + 2 * c), (0, if mi = true then 1 else 0), (3, 0), (3, 0)] [] h = some ((0, sF (rdy (mrd h (s + 25 + 2 * c) 5) (mrd h (s + 25 + 2 * c) 3) (fun l => mrd h (s + 13 + l) 6) (fun l => mrd h (s + 13 + l) 4) mi) N), h) := by
  simp only [e71_0, e71_1, e71_2, e71_3]
  exact x_readySet_loop hs c0 c1 mi N hN h12 N 0 (by omega)
end

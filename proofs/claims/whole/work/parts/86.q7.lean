section
variable {d : Nat} {h : AM} {s a b c k l p v w x y z : Int}
theorem x_opens_loop (hk : isK h 0 10) (e8 : mrd h 0 8 = s) (hs : CS h s) (N : Nat) (hN : mrd h s 6 = N) (h12 : N ≤ 12) (n : Nat) : ∀ i : Nat, i + n = N → EV (d + 1) 127 68 [(2, 0), (0, a), (0, b), (0, x), (0, y), (0, cP (fun l => decide (opn y (mrd h (s + 13 + l) 6) l) && !decide (opn x (mrd h (s + 13 + l) 6) l)) i), (0, (i : Int))] [] h = some ((0, cP (fun l => decide (opn y (mrd h (s + 13 + l) 6) l) && !decide (opn x (mrd h (s + 13 + l) 6) l)) N), mwr h 0 11 0) := by
  have ks := hs.1
  induction n with
  | zero =>
    intro i hi
    have e : i = N := by omega
    subst e
    rw [e127_68]
    simp only [e127_0, e127_1, e127_4, e127_5, e127_8, e127_11, e127_12, e127_15, e127_16, e127_17, e127_20, e127_23, e127_24, e127_25, e127_28, e127_29, e127_30, e127_33, e127_36, e127_37, e127_38, e127_41, e127_42, e127_43, e127_44, e127_45, e127_46, e127_47, e127_49, e127_51, e127_52, e127_55, e127_56, e127_58, e127_61, e127_62, e127_63, e127_65, e127_66, e127_70, e127_71, e127_74, e127_77, e127_80, e127_81, e127_84, e127_86, e127_88, e127_91, e127_94, e127_95, e127_98, e127_99, e127_101, e127_104, e127_107, e127_110, e127_113, e127_116, e127_117, e127_119, e127_122, psh0, psh1, psh3, true_or, or_true, eq_self, Option.bind_some, List.length_nil, List.length_cons, Nat.reduceAdd, Nat.reduceLeDiff, Nat.zero_le, ↓reduceIte, Int.reduceLT, Int.reduceEq, Int.reduceLE, Int.reduceNeg, Int.reduceAdd, Int.reduceMul, Int.reduceSub, ne_eq, not_true_eq_false, not_false_eq_true, and_true, true_and, and_false, false_and, c3lt, c3gt, c3eq, Bool.false_eq_true, isK_wr, inA_wr, inR_wr, hk, e8, ks, hN, Int.lt_irrefl, x_answer]
  | succ n ih =>
    intro i hi
    have ci : (i : Int) < N := by omega
    have w1 : w32 ((i : Int) + 1) = ((i + 1 : Nat) : Int) := by rw [w32_id (by omega) (by omega)]; omega
    have g1 := x_lets (d := d) (x := y) (l := i) hs (by omega) (by omega)
    have g2 := x_lets (d := d) (x := x) (l := i) hs (by omega) (by omega)
    have g3 := cP_rng (fun l => decide (opn y (mrd h (s + 13 + l) 6) l) && !decide (opn x (mrd h (s + 13 + l) 6) l)) i
    have ih' := ih (i + 1) (by omega)
    rw [cP] at ih'
    rw [e127_68]
    by_cases hb : opn y (mrd h (s + 13 + i) 6) i
    · rw [if_pos hb] at g1
      by_cases hb2 : opn x (mrd h (s + 13 + i) 6) i
      · rw [if_pos hb2] at g2
        rw [if_neg (show ¬ (decide (opn y (mrd h (s + 13 + (i : Int)) 6) i) && !decide (opn x (mrd h (s + 13 + (i : Int)) 6) i)) = true by rw [decide_eq_true hb2]; simp), Int.add_zero] at ih'
        simp only [e127_0, e127_1, e127_4, e127_5, e127_8, e127_11, e127_12, e127_15, e127_16, e127_17, e127_20, e127_23, e127_24, e127_25, e127_28, e127_29, e127_30, e127_33, e127_36, e127_37, e127_38, e127_41, e127_42, e127_43, e127_44, e127_45, e127_46, e127_47, e127_49, e127_51, e127_52, e127_55, e127_56, e127_58, e127_61, e127_62, e127_63, e127_65, e127_66, e127_70, e127_71, e127_74, e127_77, e127_80, e127_81, e127_84, e127_86, e127_88, e127_91, e127_94, e127_95, e127_98, e127_99, e127_101, e127_104, e127_107, e127_110, e127_113, e127_116, e127_117, e127_119, e127_122, psh0, psh1, psh3, true_or, or_true, eq_self, Option.bind_some, List.length_nil, List.length_cons, Nat.reduceAdd, Nat.reduceLeDiff, Nat.zero_le, ↓reduceIte, Int.reduceLT, Int.reduceEq, Int.reduceLE, Int.reduceNeg, Int.reduceAdd, Int.reduceMul, Int.reduceSub, ne_eq, not_true_eq_false, not_false_eq_true, and_true, true_and, and_false, false_and, c3lt, c3gt, c3eq, Bool.false_eq_true, isK_wr, inA_wr, inR_wr, hk, e8, ks, hN, ci, g1, g2, w1]
        exact ih'
      · rw [if_neg hb2] at g2
        rw [if_pos (show (decide (opn y (mrd h (s + 13 + (i : Int)) 6) i) && !decide (opn x (mrd h (s + 13 + (i : Int)) 6) i)) = true by rw [decide_eq_true hb, decide_eq_false hb2]; rfl)] at ih'
        rw [← w32_id (x := cP _ i + 1) (by omega) (by omega)] at ih'
        simp only [e127_0, e127_1, e127_4, e127_5, e127_8, e127_11, e127_12, e127_15, e127_16, e127_17, e127_20, e127_23, e127_24, e127_25, e127_28, e127_29, e127_30, e127_33, e127_36, e127_37, e127_38, e127_41, e127_42, e127_43, e127_44, e127_45, e127_46, e127_47, e127_49, e127_51, e127_52, e127_55, e127_56, e127_58, e127_61, e127_62, e127_63, e127_65, e127_66, e127_70, e127_71, e127_74, e127_77, e127_80, e127_81, e127_84, e127_86, e127_88, e127_91, e127_94, e127_95, e127_98, e127_99, e127_101, e127_104, e127_107, e127_110, e127_113, e127_116, e127_117, e127_119, e127_122, psh0, psh1, psh3, true_or, or_true, eq_self, Option.bind_some, List.length_nil, List.length_cons, Nat.reduceAdd, Nat.reduceLeDiff, Nat.zero_le, ↓reduceIte, Int.reduceLT, Int.reduceEq, Int.reduceLE, Int.reduceNeg, Int.reduceAdd, Int.reduceMul, Int.reduceSub, ne_eq, not_true_eq_false, not_false_eq_true, and_true, true_and, and_false, false_and, c3lt, c3gt, c3eq, Bool.false_eq_true, isK_wr, inA_wr, inR_wr, hk, e8, ks, hN, ci, g1, g2, w1]
        exact ih'
    · rw [if_neg hb] at g1
      rw [if_neg (show ¬ (decide (opn y (mrd h (s + 13 + (i : Int)) 6) i) && !decide (opn x (mrd h (s + 13 + (i : Int)) 6) i)) = true by rw [decide_eq_false hb]; simp), Int.add_zero] at ih'
      simp only [e127_0, e127_1, e127_4, e127_5, e127_8, e127_11, e127_12, e127_15, e127_16, e127_17, e127_20, e127_23, e127_24, e127_25, e127_28, e127_29, e127_30, e127_33, e127_36, e127_37, e127_38, e127_41, e127_42, e127_43, e127_44, e127_45, e127_46, e127_47, e127_49, e127_51, e127_52, e127_55, e127_56, e127_58, e127_61, e127_62, e127_63, e127_65, e127_66, e127_70, e127_71, e127_74, e127_77, e127_80, e127_81, e127_84, e127_86, e127_88, e127_91, e127_94, e127_95, e127_98, e127_99, e127_101, e127_104, e127_107, e127_110, e127_113, e127_116, e127_117, e127_119, e127_122, psh0, psh1, psh3, true_or, or_true, eq_self, Option.bind_some, List.length_nil, List.length_cons, Nat.reduceAdd, Nat.reduceLeDiff, Nat.zero_le, ↓reduceIte, Int.reduceLT, Int.reduceEq, Int.reduceLE, Int.reduceNeg, Int.reduceAdd, Int.reduceMul, Int.reduceSub, ne_eq, not_true_eq_false, not_false_eq_true, and_true, true_and, and_false, false_and, c3lt, c3gt, c3eq, Bool.false_eq_true, isK_wr, inA_wr, inR_wr, hk, e8, ks, hN, ci, g1, w1]
      exact ih'
theorem cB_diff (P Q : Nat → Bool) (N : Nat) (h12 : N ≤ 12) : cB (i_and (sF P N) (i_xor (sF Q N) (-1))) 12 = cP (fun l => P l && !Q l) N := by
  have e1 : cB (i_and (sF P N) (i_xor (sF Q N) (-1))) 12 = cP (fun l => decide (l < N) && (P l && !Q l)) 12 := cB_cP 12 (fun i hi => by
    rw [bI_and, bI_not _ (by omega), sF_bit _ _ _ (by omega), sF_bit _ _ _ (by omega)]
    by_cases c : i < N
    · rw [decide_eq_true c]; simp
    · rw [decide_eq_false c]; simp)
  rw [e1, show 12 = N + (12 - N) by omega, cP_ext (12 - N) (fun i h0 _ => by rw [decide_eq_false (by omega)]; rfl)]
  exact cP_eq N (fun i hi => by rw [decide_eq_true hi, Bool.true_and])
theorem or_same {x l : Int} (hx : in32 x) (l0 : 0 ≤ l) (l1 : l < 32) : i_or x (i_shl 1 l) = x ↔ bI x l.toNat = true := by
  constructor
  · intro e
    have := bI_or x (i_shl 1 l) l.toNat
    rw [e, bI_shl l0 l1, decide_eq_true (by omega), Bool.or_true] at this
    exact this
  · intro e
    refine bI_ext (in_or _ _) hx (fun i hi => ?_)
    rw [bI_or, bI_shl l0 l1]
    by_cases c : (i : Int) = l
    · have : i = l.toNat := by omega
      rw [this, e, Bool.true_or]
    · rw [decide_eq_false c, Bool.or_false]
end
theorem op_opens : Op_opens Inv := by
  intro d h a0 a1 hI i0 i1
  obtain ⟨s, e8, hs, k0, kM, cs, ds⟩ := ctx hI
  have ds' := ds
  have ks := cs.1
  have r1 := cs.2.2.1
  have r2 := cs.2.2.2.1
  have r3 := cs.2.2.2.2.1
  have kl := cs.2.2.2.2.2.2.2.2.2.2.2.1
  have kc := cs.2.2.2.2.2.2.2.2.2.2.2.2
  obtain ⟨d5, d6, d7, d8, dl, dc⟩ := ds
  have hm : ∀ v, CM (mwr (mwr (mwr h 0 11 v) 235 1 0) 235 0 0) := fun v => CM_q (CM_of hI)
  have hx := x_hasChild_q (d := d + 59) (k := a0) ks d7.1
  have hl := fun v => m_isChildAt_q (d := d + 58) (k := a0) hI v
  have hx2 := x_hasLesson_q (d := d + 59) (k := a1) ks d6.1
  have hl2 := fun v => m_isLessonAt_q (d := d + 58) (k := a1) hI v
  by_cases hc : 0 ≤ a0 ∧ a0 < mrd h 240 2
  · simp only [hc, and_self, if_true] at hl hx
    by_cases hc2 : 0 ≤ a1 ∧ a1 < mrd h 240 1
    · simp only [hc2, and_self, if_true] at hl2 hx2
      obtain ⟨t1, t2, t3, t4, t5, t6⟩ := kc a0 hc.1 (by omega)
      obtain ⟨q1, q2, q3, q4, q5, q6, q7⟩ := dc a0 hc.1 hc.2
      obtain ⟨N, hN⟩ : ∃ N : Nat, mrd h 240 1 = N := ⟨(mrd h 240 1).toNat, by omega⟩
      have gk : ∀ v, EV (d + 59) 244 0 [(2, 235), (0, a0), (3, 0), (3, 0)] [] (mwr (mwr (mwr h 0 11 v) 235 1 0) 235 0 0) = _ := fun v => m_knownOf (d := d + 58) (hm v) hc.1 (by omega) (by rw [rdq (by decide) (by decide)]; omega) (by rw [rdq (by decide) (by decide)]; omega)
      simp only [rdq, ↓reduceIte, Int.reduceLT, Int.reduceEq, Int.reduceLE, Int.reduceNeg, Int.reduceAdd, Int.reduceMul, Int.reduceSub, ne_eq, not_true_eq_false, not_false_eq_true, and_true, true_and, and_false, false_and, c3lt, c3gt, c3eq, Bool.false_eq_true, isK_wr, inA_wr, inR_wr, ← q7] at gk
      have hin : in32 (mrd h (s + 25 + 2 * a0) 5) := by rw [q7]; exact kb_in _ _
      generalize e5 : mrd h (s + 25 + 2 * a0) 5 = kn at gk hin
      have gh : ∀ v, EV (d + 59) 188 0 [(0, kn), (0, a1)] [] (mwr (mwr (mwr h 0 11 v) 235 1 0) 235 0 0) = _ := fun v => m_has hc2.1 (by omega)
      by_cases hb : bI kn a1.toNat = true
      · simp only [hb, if_true] at gh
        have e := (or_same hin hc2.1 (by omega)).mpr hb
        refine opq hI (-1) 9 ?_ ?_
        · simp only [e127_0, e127_1, e127_4, e127_5, e127_8, e127_11, e127_12, e127_15, e127_16, e127_17, e127_20, e127_23, e127_24, e127_25, e127_28, e127_29, e127_30, e127_33, e127_36, e127_37, e127_38, e127_41, e127_42, e127_43, e127_44, e127_45, e127_46, e127_47, e127_49, e127_51, e127_52, e127_55, e127_56, e127_58, e127_61, e127_62, e127_63, e127_65, e127_66, e127_70, e127_71, e127_74, e127_77, e127_80, e127_81, e127_84, e127_86, e127_88, e127_91, e127_94, e127_95, e127_98, e127_99, e127_101, e127_104, e127_107, e127_110, e127_113, e127_116, e127_117, e127_119, e127_122, psh0, psh1, psh3, true_or, or_true, eq_self, Option.bind_some, List.length_nil, List.length_cons, Nat.reduceAdd, Nat.reduceLeDiff, Nat.zero_le, ↓reduceIte, Int.reduceLT, Int.reduceEq, Int.reduceLE, Int.reduceNeg, Int.reduceAdd, Int.reduceMul, Int.reduceSub, ne_eq, not_true_eq_false, not_false_eq_true, and_true, true_and, and_false, false_and, c3lt, c3gt, c3eq, Bool.false_eq_true, isK_wr, inA_wr, inR_wr, k0, e8, ks, x_refuse, hx, hx2, r2, t1, t2, t3, e5, e]
        · simp only [e266_0, e266_1, e266_2, e266_5, e266_6, e266_7, e266_10, e266_11, e266_12, e266_15, e266_18, e266_19, e266_20, e266_23, e266_26, e266_27, e266_28, e266_31, e266_32, e266_33, e266_34, e266_37, e266_38, e266_39, e266_40, e266_43, e266_46, e266_47, e266_49, e266_52, e266_53, e266_54, e266_55, e266_56, e266_57, e266_58, e266_59, e266_62, e266_63, e266_64, e266_67, e266_68, e266_69, e266_70, e266_73, psh0, psh1, psh3, true_or, or_true, eq_self, Option.bind_some, List.length_nil, List.length_cons, Nat.reduceAdd, Nat.reduceLeDiff, Nat.zero_le, ↓reduceIte, Int.reduceLT, Int.reduceEq, Int.reduceLE, Int.reduceNeg, Int.reduceAdd, Int.reduceMul, Int.reduceSub, ne_eq, not_true_eq_false, not_false_eq_true, and_true, true_and, and_false, false_and, c3lt, c3gt, c3eq, Bool.false_eq_true, isK_wr, inA_wr, inR_wr, kM, hl, hl2, gk, gh, m_refuse, wrwr]
      · simp only [hb, if_false] at gh
        have e : ¬ i_or kn (i_shl 1 a1) = kn := fun z => hb ((or_same hin hc2.1 (by omega)).mp z)
        have go : ∀ v x, EV (d + 59) 261 0 [(2, 235), (0, x), (3, 0), (3, 0)] [] (mwr (mwr (mwr h 0 11 v) 235 1 0) 235 0 0) = _ := fun v x => m_openSet (d := d + 57) (x := x) (hm v) N (by rw [rdq (by decide) (by decide), hN]) (by omega)
        simp only [rdq, ↓reduceIte, Int.reduceLT, Int.reduceEq, Int.reduceLE, Int.reduceNeg, Int.reduceAdd, Int.reduceMul, Int.reduceSub, ne_eq, not_true_eq_false, not_false_eq_true, and_true, true_and, and_false, false_and, c3lt, c3gt, c3eq, Bool.false_eq_true, isK_wr, inA_wr, inR_wr] at go
        refine opq hI (cP (fun l => decide (opn (i_or kn (i_shl 1 a1)) (mrd h 240 (52 + l)) l) && !decide (opn kn (mrd h 240 (52 + l)) l)) N) 0 ?_ ?_
        · simp only [e127_0, e127_1, e127_4, e127_5, e127_8, e127_11, e127_12, e127_15, e127_16, e127_17, e127_20, e127_23, e127_24, e127_25, e127_28, e127_29, e127_30, e127_33, e127_36, e127_37, e127_38, e127_41, e127_42, e127_43, e127_44, e127_45, e127_46, e127_47, e127_49, e127_51, e127_52, e127_55, e127_56, e127_58, e127_61, e127_62, e127_63, e127_65, e127_66, e127_70, e127_71, e127_74, e127_77, e127_80, e127_81, e127_84, e127_86, e127_88, e127_91, e127_94, e127_95, e127_98, e127_99, e127_101, e127_104, e127_107, e127_110, e127_113, e127_116, e127_117, e127_119, e127_122, psh0, psh1, psh3, true_or, or_true, eq_self, Option.bind_some, List.length_nil, List.length_cons, Nat.reduceAdd, Nat.reduceLeDiff, Nat.zero_le, ↓reduceIte, Int.reduceLT, Int.reduceEq, Int.reduceLE, Int.reduceNeg, Int.reduceAdd, Int.reduceMul, Int.reduceSub, ne_eq, not_true_eq_false, not_false_eq_true, and_true, true_and, and_false, false_and, c3lt, c3gt, c3eq, Bool.false_eq_true, isK_wr, inA_wr, inR_wr, k0, e8, ks, x_refuse, hx, hx2, r2, t1, t2, t3, e5, e]
          refine (x_opens_loop (d := d + 59) k0 e8 cs N (by rw [d6.1, hN]) (by omega) N 0 (by omega)).trans ?_
          rw [cP_eq N (fun i hi => by rw [(dl i (by omega) (by omega)).2.2.2.2.2.1])]
        · simp only [e266_0, e266_1, e266_2, e266_5, e266_6, e266_7, e266_10, e266_11, e266_12, e266_15, e266_18, e266_19, e266_20, e266_23, e266_26, e266_27, e266_28, e266_31, e266_32, e266_33, e266_34, e266_37, e266_38, e266_39, e266_40, e266_43, e266_46, e266_47, e266_49, e266_52, e266_53, e266_54, e266_55, e266_56, e266_57, e266_58, e266_59, e266_62, e266_63, e266_64, e266_67, e266_68, e266_69, e266_70, e266_73, psh0, psh1, psh3, true_or, or_true, eq_self, Option.bind_some, List.length_nil, List.length_cons, Nat.reduceAdd, Nat.reduceLeDiff, Nat.zero_le, ↓reduceIte, Int.reduceLT, Int.reduceEq, Int.reduceLE, Int.reduceNeg, Int.reduceAdd, Int.reduceMul, Int.reduceSub, ne_eq, not_true_eq_false, not_false_eq_true, and_true, true_and, and_false, false_and, c3lt, c3gt, c3eq, Bool.false_eq_true, isK_wr, inA_wr, inR_wr, kM, hl, hl2, gk, gh, go, m_sizeOf]
          rw [cB_diff _ _ N (by omega)]
    · simp only [hc2, if_false] at hl2 hx2
      refine opq hI (-1) 2 ?_ ?_
      · simp only [e127_0, e127_1, e127_4, e127_5, e127_8, e127_11, e127_12, e127_15, e127_16, e127_17, e127_20, e127_23, e127_24, e127_25, e127_28, e127_29, e127_30, e127_33, e127_36, e127_37, e127_38, e127_41, e127_42, e127_43, e127_44, e127_45, e127_46, e127_47, e127_49, e127_51, e127_52, e127_55, e127_56, e127_58, e127_61, e127_62, e127_63, e127_65, e127_66, e127_70, e127_71, e127_74, e127_77, e127_80, e127_81, e127_84, e127_86, e127_88, e127_91, e127_94, e127_95, e127_98, e127_99, e127_101, e127_104, e127_107, e127_110, e127_113, e127_116, e127_117, e127_119, e127_122, psh0, psh1, psh3, true_or, or_true, eq_self, Option.bind_some, List.length_nil, List.length_cons, Nat.reduceAdd, Nat.reduceLeDiff, Nat.zero_le, ↓reduceIte, Int.reduceLT, Int.reduceEq, Int.reduceLE, Int.reduceNeg, Int.reduceAdd, Int.reduceMul, Int.reduceSub, ne_eq, not_true_eq_false, not_false_eq_true, and_true, true_and, and_false, false_and, c3lt, c3gt, c3eq, Bool.false_eq_true, isK_wr, inA_wr, inR_wr, k0, e8, ks, x_refuse, hx, hx2]
      · simp only [e266_0, e266_1, e266_2, e266_5, e266_6, e266_7, e266_10, e266_11, e266_12, e266_15, e266_18, e266_19, e266_20, e266_23, e266_26, e266_27, e266_28, e266_31, e266_32, e266_33, e266_34, e266_37, e266_38, e266_39, e266_40, e266_43, e266_46, e266_47, e266_49, e266_52, e266_53, e266_54, e266_55, e266_56, e266_57, e266_58, e266_59, e266_62, e266_63, e266_64, e266_67, e266_68, e266_69, e266_70, e266_73, psh0, psh1, psh3, true_or, or_true, eq_self, Option.bind_some, List.length_nil, List.length_cons, Nat.reduceAdd, Nat.reduceLeDiff, Nat.zero_le, ↓reduceIte, Int.reduceLT, Int.reduceEq, Int.reduceLE, Int.reduceNeg, Int.reduceAdd, Int.reduceMul, Int.reduceSub, ne_eq, not_true_eq_false, not_false_eq_true, and_true, true_and, and_false, false_and, c3lt, c3gt, c3eq, Bool.false_eq_true, isK_wr, inA_wr, inR_wr, kM, hl, hl2, m_refuse, wrwr]
  · simp only [hc, if_false] at hl hx
    refine opq hI (-1) 2 ?_ ?_
    · simp only [e127_0, e127_1, e127_4, e127_5, e127_8, e127_11, e127_12, e127_15, e127_16, e127_17, e127_20, e127_23, e127_24, e127_25, e127_28, e127_29, e127_30, e127_33, e127_36, e127_37, e127_38, e127_41, e127_42, e127_43, e127_44, e127_45, e127_46, e127_47, e127_49, e127_51, e127_52, e127_55, e127_56, e127_58, e127_61, e127_62, e127_63, e127_65, e127_66, e127_70, e127_71, e127_74, e127_77, e127_80, e127_81, e127_84, e127_86, e127_88, e127_91, e127_94, e127_95, e127_98, e127_99, e127_101, e127_104, e127_107, e127_110, e127_113, e127_116, e127_117, e127_119, e127_122, psh0, psh1, psh3, true_or, or_true, eq_self, Option.bind_some, List.length_nil, List.length_cons, Nat.reduceAdd, Nat.reduceLeDiff, Nat.zero_le, ↓reduceIte, Int.reduceLT, Int.reduceEq, Int.reduceLE, Int.reduceNeg, Int.reduceAdd, Int.reduceMul, Int.reduceSub, ne_eq, not_true_eq_false, not_false_eq_true, and_true, true_and, and_false, false_and, c3lt, c3gt, c3eq, Bool.false_eq_true, isK_wr, inA_wr, inR_wr, k0, e8, ks, x_refuse, hx]
    · simp only [e266_0, e266_1, e266_2, e266_5, e266_6, e266_7, e266_10, e266_11, e266_12, e266_15, e266_18, e266_19, e266_20, e266_23, e266_26, e266_27, e266_28, e266_31, e266_32, e266_33, e266_34, e266_37, e266_38, e266_39, e266_40, e266_43, e266_46, e266_47, e266_49, e266_52, e266_53, e266_54, e266_55, e266_56, e266_57, e266_58, e266_59, e266_62, e266_63, e266_64, e266_67, e266_68, e266_69, e266_70, e266_73, psh0, psh1, psh3, true_or, or_true, eq_self, Option.bind_some, List.length_nil, List.length_cons, Nat.reduceAdd, Nat.reduceLeDiff, Nat.zero_le, ↓reduceIte, Int.reduceLT, Int.reduceEq, Int.reduceLE, Int.reduceNeg, Int.reduceAdd, Int.reduceMul, Int.reduceSub, ne_eq, not_true_eq_false, not_false_eq_true, and_true, true_and, and_false, false_and, c3lt, c3gt, c3eq, Bool.false_eq_true, isK_wr, inA_wr, inR_wr, kM, hl, m_refuse, wrwr]

/-! plans: who can't -/
/-- the length of tray k's plan -/
def PN (h : AM) (k : Int) : Nat := (mrd h 237 k).toNat
def WPa (h : AM) (k : Int) : Bool := decide (fI (fun p => decide (¬ (0 ≤ mrd h 238 (60 * k + p) ∧ mrd h 238 (60 * k + p) < mrd h 240 1))) 0 (PN h k) = PN h k)
def WPk (h : AM) (k : Int) : Int := kb (fun p => mrd h 240 (80 + 12 * k + p)) (mrd h 240 (76 + k)).toNat
def WP (h : AM) (k : Int) : Int := if WPa h k = true then (if 12 < (PN h k : Int) then 5 else if slF (fun l => mrd h 240 (52 + l)) (fun p => mrd h 238 (60 * k + p)) (PN h k) 0 (WPk h k) = -1 then 0 else 9) else 2
theorem WPa_all {h : AM} {k : Int} (ha : WPa h k = true) : ∀ p : Nat, p < PN h k → 0 ≤ mrd h 238 (60 * k + p) ∧ mrd h 238 (60 * k + p) < mrd h 240 1 := fun p hp => by
  have := fI_all (of_decide_eq_true ha) p hp
  rw [decide_eq_false_iff_not] at this
  exact Classical.byContradiction fun z => this z
theorem WP_z {h : AM} {k : Int} (hz : WP h k = 0) : WPa h k = true ∧ PN h k ≤ 12 := by
  unfold WP at hz
  by_cases c : WPa h k = true
  · rw [if_pos c] at hz
    by_cases c2 : 12 < (PN h k : Int)
    · rw [if_pos c2] at hz; omega
    · exact ⟨c, by omega⟩
  · rw [if_neg c] at hz; omega
section
variable {d : Nat} {h g : AM} {s a b c i k l p v w x y z : Int}
theorem x_askPlan (k0 : isK h 0 10) (e8 : mrd h 0 8 = s) (cs : CS h s) (ds : DS h s) (hct : CT h k) (hr : RTry (mrd h) k) (c0 : 0 ≤ k) (c1 : k < mrd h 240 2) : EV (d + 2) 170 0 [(2, 0), (2, s + 25 + 2 * k), (2, 2 + 2 * k)] [] h = some ((0, WP h k), h) := by
  obtain ⟨q1, q2, q3, q4, q5, q6⟩ := id hct
  obtain ⟨d5, d6, d7, d8, dl, dc⟩ := ds
  obtain ⟨t1, t2, t3, t4, t5, t6⟩ := cs.2.2.2.2.2.2.2.2.2.2.2.2 k c0 (by omega)
  rcases hr with ⟨e1, e2⟩ | ⟨e1, e2, e3, e4⟩
  · have n0 : PN h k = 0 := by unfold PN; rw [e2]; rfl
    have hw : WP h k = 0 := by
      unfold WP WPa
      rw [n0, fI, slF]
      simp
    rw [hw]
    simp only [e170_0, e170_1, e170_4, e170_7, e170_8, e170_9, e170_10, e170_13, e170_14, e170_15, e170_18, e170_21, e170_24, e170_25, e170_26, e170_27, e170_30, e170_32, e170_35, e170_36, e170_37, e170_38, e170_41, e170_42, e170_43, e170_46, e170_47, e170_50, e170_53, e170_54, e170_57, e170_58, e170_61, e170_63, psh0, psh1, psh3, true_or, or_true, eq_self, Option.bind_some, List.length_nil, List.length_cons, Nat.reduceAdd, Nat.reduceLeDiff, Nat.zero_le, ↓reduceIte, Int.reduceLT, Int.reduceEq, Int.reduceLE, Int.reduceNeg, Int.reduceAdd, Int.reduceMul, Int.reduceSub, ne_eq, not_true_eq_false, not_false_eq_true, and_true, true_and, and_false, false_and, c3lt, c3gt, c3eq, Bool.false_eq_true, isK_wr, inA_wr, inR_wr, q3, e1]
  · obtain ⟨m, hm⟩ : ∃ m : Nat, PN h k = m := ⟨_, rfl⟩
    have em : mrd h 237 k = m := by unfold PN at hm; omega
    have el : mrd h (2 + 2 * k) 3 = m := e3.1.trans em
    have ga := x_hasAll (d := d) hct cs.1 (mrd h 240 1) d6.1 m (by omega)
    have eP : fI (fun p => decide (¬ (0 ≤ mrd h (3 + 2 * k) p ∧ mrd h (3 + 2 * k) p < mrd h 240 1))) 0 m = fI (fun p => decide (¬ (0 ≤ mrd h 238 (60 * k + p) ∧ mrd h 238 (60 * k + p) < mrd h 240 1))) 0 m := fI_congr m 0 (fun j _ hj => by rw [e4 j (by omega) (by omega)])
    rw [eP] at ga
    have ga : EV (d + 1) 66 0 [(2, s), (2, 2 + 2 * k), (0, (m : Int)), (3, 0)] [] h = some ((0, if WPa h k = true then 1 else 0), h) := by
      rw [ga]
      unfold WPa
      rw [hm]
      simp only [decide_eq_true_eq]
    unfold WP
    by_cases ca : WPa h k = true
    · rw [if_pos ca] at ga ⊢
      have hf := WPa_all ca
      rw [hm] at hf ⊢
      by_cases c5 : 12 < (m : Int)
      · rw [if_pos c5]
        simp only [e170_0, e170_1, e170_4, e170_7, e170_8, e170_9, e170_10, e170_13, e170_14, e170_15, e170_18, e170_21, e170_24, e170_25, e170_26, e170_27, e170_30, e170_32, e170_35, e170_36, e170_37, e170_38, e170_41, e170_42, e170_43, e170_46, e170_47, e170_50, e170_53, e170_54, e170_57, e170_58, e170_61, e170_63, psh0, psh1, psh3, true_or, or_true, eq_self, Option.bind_some, List.length_nil, List.length_cons, Nat.reduceAdd, Nat.reduceLeDiff, Nat.zero_le, ↓reduceIte, Int.reduceLT, Int.reduceEq, Int.reduceLE, Int.reduceNeg, Int.reduceAdd, Int.reduceMul, Int.reduceSub, ne_eq, not_true_eq_false, not_false_eq_true, and_true, true_and, and_false, false_and, c3lt, c3gt, c3eq, Bool.false_eq_true, isK_wr, inA_wr, inR_wr, k0, e8, cs.1, q3, e1, el, ga, c5]
      · rw [if_neg c5]
        have gs := x_stop (d := d) (x := mrd h (s + 25 + 2 * k) 5) cs hct m (by omega) (fun p hp => by rw [e4 p (by omega) (by omega)]; have := hf p hp; omega)
        have eS : slF (fun l => mrd h (s + 13 + l) 6) (fun p => mrd h (3 + 2 * k) p) m 0 (mrd h (s + 25 + 2 * k) 5) = slF (fun l => mrd h 240 (52 + l)) (fun p => mrd h 238 (60 * k + p)) m 0 (mrd h (s + 25 + 2 * k) 5) := slF_congr m 0 _ (fun j _ hj => e4 j (by omega) (by omega)) (fun j _ hj => by
          have hj' := hf j (by omega)
          have e := e4 j (by omega) (by omega)
          show mrd h (s + 13 + ((mrd h (3 + 2 * k) j).toNat : Int)) 6 = mrd h 240 (52 + ((mrd h (3 + 2 * k) j).toNat : Int))
          rw [e, Int.toNat_of_nonneg hj'.1]
          exact (dl _ hj'.1 hj'.2).2.2.2.2.2.1)
        have ek : mrd h (s + 25 + 2 * k) 5 = WPk h k := (dc k c0 c1).2.2.2.2.2.2
        rw [eS, ek] at gs
        by_cases cr : slF (fun l => mrd h 240 (52 + l)) (fun p => mrd h 238 (60 * k + p)) m 0 (WPk h k) = -1
        · rw [if_pos cr]
          rw [cr] at gs
          simp only [e170_0, e170_1, e170_4, e170_7, e170_8, e170_9, e170_10, e170_13, e170_14, e170_15, e170_18, e170_21, e170_24, e170_25, e170_26, e170_27, e170_30, e170_32, e170_35, e170_36, e170_37, e170_38, e170_41, e170_42, e170_43, e170_46, e170_47, e170_50, e170_53, e170_54, e170_57, e170_58, e170_61, e170_63, psh0, psh1, psh3, true_or, or_true, eq_self, Option.bind_some, List.length_nil, List.length_cons, Nat.reduceAdd, Nat.reduceLeDiff, Nat.zero_le, ↓reduceIte, Int.reduceLT, Int.reduceEq, Int.reduceLE, Int.reduceNeg, Int.reduceAdd, Int.reduceMul, Int.reduceSub, ne_eq, not_true_eq_false, not_false_eq_true, and_true, true_and, and_false, false_and, c3lt, c3gt, c3eq, Bool.false_eq_true, isK_wr, inA_wr, inR_wr, k0, e8, cs.1, q3, t3, e1, el, ga, c5, ek, gs]
        · rw [if_neg cr]
          simp only [e170_0, e170_1, e170_4, e170_7, e170_8, e170_9, e170_10, e170_13, e170_14, e170_15, e170_18, e170_21, e170_24, e170_25, e170_26, e170_27, e170_30, e170_32, e170_35, e170_36, e170_37, e170_38, e170_41, e170_42, e170_43, e170_46, e170_47, e170_50, e170_53, e170_54, e170_57, e170_58, e170_61, e170_63, psh0, psh1, psh3, true_or, or_true, eq_self, Option.bind_some, List.length_nil, List.length_cons, Nat.reduceAdd, Nat.reduceLeDiff, Nat.zero_le, ↓reduceIte, Int.reduceLT, Int.reduceEq, Int.reduceLE, Int.reduceNeg, Int.reduceAdd, Int.reduceMul, Int.reduceSub, ne_eq, not_true_eq_false, not_false_eq_true, and_true, true_and, and_false, false_and, c3lt, c3gt, c3eq, Bool.false_eq_true, isK_wr, inA_wr, inR_wr, k0, e8, cs.1, q3, t3, e1, el, ga, c5, ek, gs, cr]
    · rw [if_neg ca] at ga ⊢
      simp only [e170_0, e170_1, e170_4, e170_7, e170_8, e170_9, e170_10, e170_13, e170_14, e170_15, e170_18, e170_21, e170_24, e170_25, e170_26, e170_27, e170_30, e170_32, e170_35, e170_36, e170_37, e170_38, e170_41, e170_42, e170_43, e170_46, e170_47, e170_50, e170_53, e170_54, e170_57, e170_58, e170_61, e170_63, psh0, psh1, psh3, true_or, or_true, eq_self, Option.bind_some, List.length_nil, List.length_cons, Nat.reduceAdd, Nat.reduceLeDiff, Nat.zero_le, ↓reduceIte, Int.reduceLT, Int.reduceEq, Int.reduceLE, Int.reduceNeg, Int.reduceAdd, Int.reduceMul, Int.reduceSub, ne_eq, not_true_eq_false, not_false_eq_true, and_true, true_and, and_false, false_and, c3lt, c3gt, c3eq, Bool.false_eq_true, isK_wr, inA_wr, inR_wr, k0, e8, cs.1, q3, e1, el, ga]
theorem m_planLong (hm : CM h) (k0 : 0 ≤ k) (k1 : k < 4) (hb : mrd h 237 k = -1 ∨ 0 ≤ mrd h 237 k) : EV d 306 0 [(2, 235), (0, k)] [] h = some ((0, (PN h k : Int)), h) := by
  have m5 : mrd h 235 5 = 237 := rf_235_5 hm.2.2
  have j2 : inA h 237 16 k := ⟨kn_237 hm.2.1, k0, by rw [ln_237 hm.2.1]; omega⟩
  unfold PN
  rcases hb with e | e
  · have : ((mrd h 237 k).toNat : Int) = 0 := by rw [e]; rfl
    rw [this]
    simp only [e306_0, e306_1, e306_4, e306_5, e306_6, e306_9, e306_10, e306_13, e306_14, e306_17, e306_18, e306_19, psh0, psh1, psh3, true_or, or_true, eq_self, Option.bind_some, List.length_nil, List.length_cons, Nat.reduceAdd, Nat.reduceLeDiff, Nat.zero_le, ↓reduceIte, Int.reduceLT, Int.reduceEq, Int.reduceLE, Int.reduceNeg, Int.reduceAdd, Int.reduceMul, Int.reduceSub, ne_eq, not_true_eq_false, not_false_eq_true, and_true, true_and, and_false, false_and, c3lt, c3gt, c3eq, Bool.false_eq_true, isK_wr, inA_wr, inR_wr, hm.1, m5, j2, e]
  · have c : ¬ mrd h 237 k < 0 := by omega
    rw [Int.toNat_of_nonneg e]
    simp only [e306_0, e306_1, e306_4, e306_5, e306_6, e306_9, e306_10, e306_13, e306_14, e306_17, e306_18, e306_19, psh0, psh1, psh3, true_or, or_true, eq_self, Option.bind_some, List.length_nil, List.length_cons, Nat.reduceAdd, Nat.reduceLeDiff, Nat.zero_le, ↓reduceIte, Int.reduceLT, Int.reduceEq, Int.reduceLE, Int.reduceNeg, Int.reduceAdd, Int.reduceMul, Int.reduceSub, ne_eq, not_true_eq_false, not_false_eq_true, and_true, true_and, and_false, false_and, c3lt, c3gt, c3eq, Bool.false_eq_true, isK_wr, inA_wr, inR_wr, hm.1, m5, j2, c]
theorem m_wnp_1 (hm : CM h) (k0 : 0 ≤ k) (k1 : k < 4) (hb : mrd h 237 k = -1 ∨ 0 ≤ mrd h 237 k) (h60 : PN h k ≤ 60) (N0 : 0 ≤ mrd h 240 1) (N12 : mrd h 240 1 ≤ 12) (l3 l4 : AV) (n : Nat) : ∀ i : Nat, i + n = PN h k → EV (d + 1) 307 2 [(2, 235), (0, k), (0, (i : Int)), l3, l4] [] h = if fI (fun p => decide (¬ (0 ≤ mrd h 238 (60 * k + p) ∧ mrd h 238 (60 * k + p) < mrd h 240 1))) i n = PN h k then EV (d + 1) 307 41 [(2, 235), (0, k), (0, (PN h k : Int)), l3, l4] [] h else some ((0, 2), h) := by
  have gp := m_planLong (d := d) hm k0 k1 hb
  generalize PN h k = m at gp h60
  have wN : w32 (mrd h 240 1 - 1) = mrd h 240 1 - 1 := w32_id (by omega) (by omega)
  have i1 := inC hm (j := 1) (by decide) (by decide)
  induction n with
  | zero =>
    intro i hi
    have e : i = m := by omega
    subst e
    rw [e307_2, fI, if_pos rfl]
    simp only [e307_0, e307_1, e307_3, e307_4, e307_5, e307_8, e307_11, e307_12, e307_13, e307_14, e307_17, e307_18, e307_19, e307_22, e307_23, e307_24, e307_25, e307_26, e307_27, e307_30, e307_33, e307_34, e307_35, e307_38, e307_42, e307_43, e307_46, e307_48, e307_51, e307_52, e307_53, e307_54, e307_55, e307_58, e307_59, e307_60, e307_61, e307_62, e307_63, e307_64, e307_67, e307_70, e307_71, e307_72, e307_73, e307_76, e307_77, e307_79, e307_80, e307_81, e307_83, e307_86, e307_89, e307_91, e307_92, e307_93, e307_94, e307_96, e307_97, e307_98, e307_99, e307_102, e307_105, e307_106, psh0, psh1, psh3, true_or, or_true, eq_self, Option.bind_some, List.length_nil, List.length_cons, Nat.reduceAdd, Nat.reduceLeDiff, Nat.zero_le, ↓reduceIte, Int.reduceLT, Int.reduceEq, Int.reduceLE, Int.reduceNeg, Int.reduceAdd, Int.reduceMul, Int.reduceSub, ne_eq, not_true_eq_false, not_false_eq_true, and_true, true_and, and_false, false_and, c3lt, c3gt, c3eq, Bool.false_eq_true, isK_wr, inA_wr, inR_wr, hm.1, gp, Int.lt_irrefl]
  | succ n ih =>
    intro i hi
    have ci : (i : Int) < m := by omega
    have w1 : w32 ((i : Int) + 1) = ((i + 1 : Nat) : Int) := by rw [w32_id (by omega) (by omega)]; omega
    have g := m_numberOf (d := d) (p := (i : Int)) hm k0 k1 (by omega) (by omega)
    rw [e307_2, fI]
    by_cases c : 0 ≤ mrd h 238 (60 * k + i) ∧ mrd h 238 (60 * k + i) < mrd h 240 1
    · have c' : 0 ≤ mrd h 238 (60 * k + i) ∧ mrd h 238 (60 * k + i) ≤ mrd h 240 1 - 1 := by omega
      rw [if_neg (show ¬ decide (¬ (0 ≤ mrd h 238 (60 * k + i) ∧ mrd h 238 (60 * k + i) < mrd h 240 1)) = true by rw [decide_eq_true_iff]; exact fun z => z c), ← ih (i + 1) (by omega)]
      simp only [e307_0, e307_1, e307_3, e307_4, e307_5, e307_8, e307_11, e307_12, e307_13, e307_14, e307_17, e307_18, e307_19, e307_22, e307_23, e307_24, e307_25, e307_26, e307_27, e307_30, e307_33, e307_34, e307_35, e307_38, e307_42, e307_43, e307_46, e307_48, e307_51, e307_52, e307_53, e307_54, e307_55, e307_58, e307_59, e307_60, e307_61, e307_62, e307_63, e307_64, e307_67, e307_70, e307_71, e307_72, e307_73, e307_76, e307_77, e307_79, e307_80, e307_81, e307_83, e307_86, e307_89, e307_91, e307_92, e307_93, e307_94, e307_96, e307_97, e307_98, e307_99, e307_102, e307_105, e307_106, psh0, psh1, psh3, true_or, or_true, eq_self, Option.bind_some, List.length_nil, List.length_cons, Nat.reduceAdd, Nat.reduceLeDiff, Nat.zero_le, ↓reduceIte, Int.reduceLT, Int.reduceEq, Int.reduceLE, Int.reduceNeg, Int.reduceAdd, Int.reduceMul, Int.reduceSub, ne_eq, not_true_eq_false, not_false_eq_true, and_true, true_and, and_false, false_and, c3lt, c3gt, c3eq, Bool.false_eq_true, isK_wr, inA_wr, inR_wr, ci, hm.1, mC hm, i1, wN, g, gp, m_isIn, c', w1]
    · have c' : ¬ (0 ≤ mrd h 238 (60 * k + i) ∧ mrd h 238 (60 * k + i) ≤ mrd h 240 1 - 1) := by omega
      rw [if_pos (show decide (¬ (0 ≤ mrd h 238 (60 * k + i) ∧ mrd h 238 (60 * k + i) < mrd h 240 1)) = true from decide_eq_true c), if_neg (show ¬ i = m by omega)]
      simp only [e307_0, e307_1, e307_3, e307_4, e307_5, e307_8, e307_11, e307_12, e307_13, e307_14, e307_17, e307_18, e307_19, e307_22, e307_23, e307_24, e307_25, e307_26, e307_27, e307_30, e307_33, e307_34, e307_35, e307_38, e307_42, e307_43, e307_46, e307_48, e307_51, e307_52, e307_53, e307_54, e307_55, e307_58, e307_59, e307_60, e307_61, e307_62, e307_63, e307_64, e307_67, e307_70, e307_71, e307_72, e307_73, e307_76, e307_77, e307_79, e307_80, e307_81, e307_83, e307_86, e307_89, e307_91, e307_92, e307_93, e307_94, e307_96, e307_97, e307_98, e307_99, e307_102, e307_105, e307_106, psh0, psh1, psh3, true_or, or_true, eq_self, Option.bind_some, List.length_nil, List.length_cons, Nat.reduceAdd, Nat.reduceLeDiff, Nat.zero_le, ↓reduceIte, Int.reduceLT, Int.reduceEq, Int.reduceLE, Int.reduceNeg, Int.reduceAdd, Int.reduceMul, Int.reduceSub, ne_eq, not_true_eq_false, not_false_eq_true, and_true, true_and, and_false, false_and, c3lt, c3gt, c3eq, Bool.false_eq_true, isK_wr, inA_wr, inR_wr, ci, hm.1, mC hm, i1, wN, g, gp, m_isIn, c']
theorem m_wnp_2 (hm : CM h) (k0 : 0 ≤ k) (k1 : k < 4) (hb : mrd h 237 k = -1 ∨ 0 ≤ mrd h 237 k) (h60 : PN h k ≤ 60) (hf : ∀ p : Nat, p < PN h k → 0 ≤ mrd h 238 (60 * k + p) ∧ mrd h 238 (60 * k + p) < 12) (n : Nat) : ∀ (i : Nat) (kn : Int) (l4 : AV), i + n = PN h k → EV (d + 2) 307 61 [(2, 235), (0, k), (0, kn), (0, (i : Int)), l4] [] h = some ((0, if slF (fun l => mrd h 240 (52 + l)) (fun p => mrd h 238 (60 * k + p)) n i kn = -1 then 0 else 9), h) := by
  have gp := m_planLong (d := d + 1) hm k0 k1 hb
  generalize PN h k = m at gp h60 hf
  induction n with
  | zero =>
    intro i kn l4 hi
    have e : i = m := by omega
    subst e
    rw [e307_61, slF, if_pos rfl]
    simp only [e307_0, e307_1, e307_2, e307_3, e307_4, e307_5, e307_8, e307_11, e307_12, e307_13, e307_14, e307_17, e307_18, e307_19, e307_22, e307_23, e307_24, e307_25, e307_26, e307_27, e307_30, e307_33, e307_34, e307_35, e307_38, e307_41, e307_42, e307_43, e307_46, e307_48, e307_51, e307_52, e307_53, e307_54, e307_55, e307_58, e307_59, e307_60, e307_62, e307_63, e307_64, e307_67, e307_70, e307_71, e307_72, e307_73, e307_76, e307_77, e307_79, e307_80, e307_81, e307_83, e307_86, e307_89, e307_91, e307_92, e307_93, e307_94, e307_96, e307_97, e307_98, e307_99, e307_102, e307_105, e307_106, psh0, psh1, psh3, true_or, or_true, eq_self, Option.bind_some, List.length_nil, List.length_cons, Nat.reduceAdd, Nat.reduceLeDiff, Nat.zero_le, ↓reduceIte, Int.reduceLT, Int.reduceEq, Int.reduceLE, Int.reduceNeg, Int.reduceAdd, Int.reduceMul, Int.reduceSub, ne_eq, not_true_eq_false, not_false_eq_true, and_true, true_and, and_false, false_and, c3lt, c3gt, c3eq, Bool.false_eq_true, isK_wr, inA_wr, inR_wr, hm.1, gp, Int.lt_irrefl]
  | succ n ih =>
    intro i kn l4 hi
    have ci : (i : Int) < m := by omega
    have w1 : w32 ((i : Int) + 1) = ((i + 1 : Nat) : Int) := by rw [w32_id (by omega) (by omega)]; omega
    have g := m_numberOf (d := d + 1) (p := (i : Int)) hm k0 k1 (by omega) (by omega)
    have hp := hf i (by omega)
    have w2 : w32 (mrd h 238 (60 * k + i)) = mrd h 238 (60 * k + i) := w32_id (by omega) (by omega)
    have g2 := m_isOpenTo (d := d) (x := kn) (l := mrd h 238 (60 * k + i)) hm hp.1 hp.2
    rw [e307_61, slF, Int.toNat_of_nonneg hp.1]
    by_cases c : opn kn (mrd h 240 (52 + mrd h 238 (60 * k + i))) (mrd h 238 (60 * k + i))
    · rw [if_pos c] at g2
      rw [if_pos c, ← ih (i + 1) _ (0, mrd h 238 (60 * k + i)) (by omega)]
      simp only [e307_0, e307_1, e307_2, e307_3, e307_4, e307_5, e307_8, e307_11, e307_12, e307_13, e307_14, e307_17, e307_18, e307_19, e307_22, e307_23, e307_24, e307_25, e307_26, e307_27, e307_30, e307_33, e307_34, e307_35, e307_38, e307_41, e307_42, e307_43, e307_46, e307_48, e307_51, e307_52, e307_53, e307_54, e307_55, e307_58, e307_59, e307_60, e307_62, e307_63, e307_64, e307_67, e307_70, e307_71, e307_72, e307_73, e307_76, e307_77, e307_79, e307_80, e307_81, e307_83, e307_86, e307_89, e307_91, e307_92, e307_93, e307_94, e307_96, e307_97, e307_98, e307_99, e307_102, e307_105, e307_106, psh0, psh1, psh3, true_or, or_true, eq_self, Option.bind_some, List.length_nil, List.length_cons, Nat.reduceAdd, Nat.reduceLeDiff, Nat.zero_le, ↓reduceIte, Int.reduceLT, Int.reduceEq, Int.reduceLE, Int.reduceNeg, Int.reduceAdd, Int.reduceMul, Int.reduceSub, ne_eq, not_true_eq_false, not_false_eq_true, and_true, true_and, and_false, false_and, c3lt, c3gt, c3eq, Bool.false_eq_true, isK_wr, inA_wr, inR_wr, ci, hm.1, g, gp, w2, g2, w1]
    · rw [if_neg c] at g2
      rw [if_neg c, if_neg (show ¬ (i : Int) = -1 by omega)]
      simp only [e307_0, e307_1, e307_2, e307_3, e307_4, e307_5, e307_8, e307_11, e307_12, e307_13, e307_14, e307_17, e307_18, e307_19, e307_22, e307_23, e307_24, e307_25, e307_26, e307_27, e307_30, e307_33, e307_34, e307_35, e307_38, e307_41, e307_42, e307_43, e307_46, e307_48, e307_51, e307_52, e307_53, e307_54, e307_55, e307_58, e307_59, e307_60, e307_62, e307_63, e307_64, e307_67, e307_70, e307_71, e307_72, e307_73, e307_76, e307_77, e307_79, e307_80, e307_81, e307_83, e307_86, e307_89, e307_91, e307_92, e307_93, e307_94, e307_96, e307_97, e307_98, e307_99, e307_102, e307_105, e307_106, psh0, psh1, psh3, true_or, or_true, eq_self, Option.bind_some, List.length_nil, List.length_cons, Nat.reduceAdd, Nat.reduceLeDiff, Nat.zero_le, ↓reduceIte, Int.reduceLT, Int.reduceEq, Int.reduceLE, Int.reduceNeg, Int.reduceAdd, Int.reduceMul, Int.reduceSub, ne_eq, not_true_eq_false, not_false_eq_true, and_true, true_and, and_false, false_and, c3lt, c3gt, c3eq, Bool.false_eq_true, isK_wr, inA_wr, inR_wr, ci, hm.1, g, gp, w2, g2]
theorem m_whyNoPlan (hm : CM h) (k0 : 0 ≤ k) (k1 : k < 4) (hb : mrd h 237 k = -1 ∨ 0 ≤ mrd h 237 k) (h60 : PN h k ≤ 60) (N0 : 0 ≤ mrd h 240 1) (N12 : mrd h 240 1 ≤ 12) (b0 : 0 ≤ mrd h 240 (76 + k)) (b1 : mrd h 240 (76 + k) ≤ 12) : EV (d + 2) 307 0 [(2, 235), (0, k), (3, 0), (3, 0), (3, 0)] [] h = some ((0, WP h k), h) := by
  have g1 := m_wnp_1 (d := d + 1) hm k0 k1 hb h60 N0 N12 (3, 0) (3, 0) (PN h k) 0 (by omega)
  have gp := m_planLong (d := d + 1) hm k0 k1 hb
  have g1 : EV (d + 2) 307 0 [(2, 235), (0, k), (3, 0), (3, 0), (3, 0)] [] h = if WPa h k = true then EV (d + 2) 307 41 [(2, 235), (0, k), (0, (PN h k : Int)), (3, 0), (3, 0)] [] h else some ((0, 2), h) := by
    simp only [WPa, decide_eq_true_eq]
    rw [← g1]
    simp only [e307_0, e307_1]
    rfl
  rw [g1]
  unfold WP
  by_cases ca : WPa h k = true
  · rw [if_pos ca, if_pos ca]
    have hf := WPa_all ca
    by_cases c5 : 12 < (PN h k : Int)
    · rw [if_pos c5, e307_41]
      simp only [e307_0, e307_1, e307_3, e307_4, e307_5, e307_8, e307_11, e307_12, e307_13, e307_14, e307_17, e307_18, e307_19, e307_22, e307_23, e307_24, e307_25, e307_26, e307_27, e307_30, e307_33, e307_34, e307_35, e307_38, e307_42, e307_43, e307_46, e307_48, e307_51, e307_52, e307_53, e307_54, e307_55, e307_58, e307_59, e307_60, e307_62, e307_63, e307_64, e307_67, e307_70, e307_71, e307_72, e307_73, e307_76, e307_77, e307_79, e307_80, e307_81, e307_83, e307_86, e307_89, e307_91, e307_92, e307_93, e307_94, e307_96, e307_97, e307_98, e307_99, e307_102, e307_105, e307_106, psh0, psh1, psh3, true_or, or_true, eq_self, Option.bind_some, List.length_nil, List.length_cons, Nat.reduceAdd, Nat.reduceLeDiff, Nat.zero_le, ↓reduceIte, Int.reduceLT, Int.reduceEq, Int.reduceLE, Int.reduceNeg, Int.reduceAdd, Int.reduceMul, Int.reduceSub, ne_eq, not_true_eq_false, not_false_eq_true, and_true, true_and, and_false, false_and, c3lt, c3gt, c3eq, Bool.false_eq_true, isK_wr, inA_wr, inR_wr, hm.1, gp, c5]
    · rw [if_neg c5]
      have g2 := m_wnp_2 (d := d) hm k0 k1 hb h60 (fun p hp => by have := hf p hp; omega) (PN h k) 0 (WPk h k) (3, 0) (by omega)
      have gk := m_knownOf (d := d) hm k0 k1 b0 b1
      rw [← show WPk h k = kb (fun p => mrd h 240 (80 + 12 * k + p)) (mrd h 240 (76 + k)).toNat from rfl] at gk
      rw [← g2, e307_41]
      simp only [e307_0, e307_1, e307_3, e307_4, e307_5, e307_8, e307_11, e307_12, e307_13, e307_14, e307_17, e307_18, e307_19, e307_22, e307_23, e307_24, e307_25, e307_26, e307_27, e307_30, e307_33, e307_34, e307_35, e307_38, e307_42, e307_43, e307_46, e307_48, e307_51, e307_52, e307_53, e307_54, e307_55, e307_58, e307_59, e307_60, e307_62, e307_63, e307_64, e307_67, e307_70, e307_71, e307_72, e307_73, e307_76, e307_77, e307_79, e307_80, e307_81, e307_83, e307_86, e307_89, e307_91, e307_92, e307_93, e307_94, e307_96, e307_97, e307_98, e307_99, e307_102, e307_105, e307_106, psh0, psh1, psh3, true_or, or_true, eq_self, Option.bind_some, List.length_nil, List.length_cons, Nat.reduceAdd, Nat.reduceLeDiff, Nat.zero_le, ↓reduceIte, Int.reduceLT, Int.reduceEq, Int.reduceLE, Int.reduceNeg, Int.reduceAdd, Int.reduceMul, Int.reduceSub, ne_eq, not_true_eq_false, not_false_eq_true, and_true, true_and, and_false, false_and, c3lt, c3gt, c3eq, Bool.false_eq_true, isK_wr, inA_wr, inR_wr, hm.1, gp, c5, gk]
      rfl
  · rw [if_neg ca, if_neg ca]
end

/-! root: the lesson that most lessons need -/
def bX (f : Nat → Int) : Nat → Int × Int
  | 0 => (-1, -1)
  | n + 1 => if (bX f n).2 < f n then ((n : Int), f n) else bX f n
def bM (f : Nat → Int) : Nat → Int × Int
  | 0 => (-1, 0)
  | n + 1 => if 0 ≤ (bM f n).1 ∧ f n ≤ (bM f n).2 then bM f n else ((n : Int), f n)
theorem bXM (f : Nat → Int) (hf : ∀ i, 0 ≤ f i) : ∀ n : Nat, bX f (n + 1) = bM f (n + 1) ∧ 0 ≤ (bX f (n + 1)).1
  | 0 => by
    have h0 := hf 0
    have e1 : bX f (0 + 1) = (((0 : Nat) : Int), f 0) := by rw [bX]; exact if_pos (show (-1 : Int) < f 0 by omega)
    have e2 : bM f (0 + 1) = (((0 : Nat) : Int), f 0) := by rw [bM]; exact if_neg (show ¬ ((0 : Int) ≤ -1 ∧ f 0 ≤ 0) by omega)
    rw [e1, e2]
    exact ⟨rfl, Int.le_refl _⟩
  | n + 1 => by
    obtain ⟨e, h0⟩ := bXM f hf n
    rw [bX, bM, ← e]
    by_cases c : (bX f (n + 1)).2 < f (n + 1)
    · rw [if_pos c, if_neg (by omega)]
      exact ⟨rfl, by show (0 : Int) ≤ ((n + 1 : Nat) : Int); omega⟩
    · rw [if_neg c, if_pos (by omega)]
      exact ⟨rfl, h0⟩
theorem bXM1 (f : Nat → Int) (hf : ∀ i, 0 ≤ f i) (n : Nat) : (bX f n).1 = (bM f n).1 ∧ -1 ≤ (bX f n).1 := by
  cases n with
  | zero => exact ⟨rfl, Int.le_refl _⟩
  | succ n =>
    obtain ⟨e, h0⟩ := bXM f hf n
    rw [e] at h0 ⊢
    exact ⟨rfl, by omega⟩
theorem bX_congr {f g : Nat → Int} : ∀ n, (∀ i, i < n → f i = g i) → bX f n = bX g n
  | 0, _ => rfl
  | n + 1, h => by rw [bX, bX, bX_congr n (fun i hi => h i (by omega)), h n (by omega)]
section
variable {d : Nat} {h : AM} {s a b c k p v w x y z : Int}
theorem x_needing_loop (hs : CS h s) (l : Nat) (hl : l < 12) (N : Nat) (hN : mrd h s 6 = N) (h12 : N ≤ 12) (n : Nat) : ∀ i : Nat, i + n = N → EV (d + 1) 80 4 [(2, s), (0, (l : Int)), (0, cP (fun q => bI (aN (fun j => mrd h (s + 13 + j) 6) (mrd h (s + 13 + q) 6) q) l) i), (0, (i : Int))] [] h = some ((0, cP (fun q => bI (aN (fun j => mrd h (s + 13 + j) 6) (mrd h (s + 13 + q) 6) q) l) N), h) := by
  induction n with
  | zero =>
    intro i hi
    have e : i = N := by omega
    subst e
    rw [e80_4]
    simp only [e80_0, e80_1, e80_2, e80_3, e80_5, e80_6, e80_9, e80_12, e80_13, e80_14, e80_17, e80_18, e80_19, e80_20, e80_21, e80_24, e80_27, e80_30, e80_33, e80_34, psh0, psh1, psh3, true_or, or_true, eq_self, Option.bind_some, List.length_nil, List.length_cons, Nat.reduceAdd, Nat.reduceLeDiff, Nat.zero_le, ↓reduceIte, Int.reduceLT, Int.reduceEq, Int.reduceLE, Int.reduceNeg, Int.reduceAdd, Int.reduceMul, Int.reduceSub, ne_eq, not_true_eq_false, not_false_eq_true, and_true, true_and, and_false, false_and, c3lt, c3gt, c3eq, Bool.false_eq_true, isK_wr, inA_wr, inR_wr, hs.1, hN, Int.lt_irrefl]
  | succ n ih =>
    intro i hi
    have ci : (i : Int) < N := by omega
    have w1 : w32 ((i : Int) + 1) = ((i + 1 : Nat) : Int) := by rw [w32_id (by omega) (by omega)]; omega
    have g1 := x_allNeeds (d := d) hs i (by omega)
    have g3 := cP_rng (fun q => bI (aN (fun j : Nat => mrd h (s + 13 + (j : Int)) 6) (mrd h (s + 13 + (q : Int)) 6) q) l) i
    have ih' := ih (i + 1) (by omega)
    rw [cP] at ih'
    rw [e80_4]
    by_cases hb : bI (aN (fun j : Nat => mrd h (s + 13 + (j : Int)) 6) (mrd h (s + 13 + (i : Int)) 6) i) l = true
    · have e : ¬ i_and (aN (fun j : Nat => mrd h (s + 13 + (j : Int)) 6) (mrd h (s + 13 + (i : Int)) 6) i) (i_shl 1 l) = 0 := fun z => by
        have := (and1_0 (by omega) (by omega)).mp z
        rw [Int.toNat_natCast, hb] at this
        cases this
      rw [if_pos hb, ← w32_id (x := cP _ i + 1) (by omega) (by omega)] at ih'
      simp only [e80_0, e80_1, e80_2, e80_3, e80_5, e80_6, e80_9, e80_12, e80_13, e80_14, e80_17, e80_18, e80_19, e80_20, e80_21, e80_24, e80_27, e80_30, e80_33, e80_34, psh0, psh1, psh3, true_or, or_true, eq_self, Option.bind_some, List.length_nil, List.length_cons, Nat.reduceAdd, Nat.reduceLeDiff, Nat.zero_le, ↓reduceIte, Int.reduceLT, Int.reduceEq, Int.reduceLE, Int.reduceNeg, Int.reduceAdd, Int.reduceMul, Int.reduceSub, ne_eq, not_true_eq_false, not_false_eq_true, and_true, true_and, and_false, false_and, c3lt, c3gt, c3eq, Bool.false_eq_true, isK_wr, inA_wr, inR_wr, hs.1, hN, ci, g1, e, w1]
      exact ih'
    · have e : i_and (aN (fun j : Nat => mrd h (s + 13 + (j : Int)) 6) (mrd h (s + 13 + (i : Int)) 6) i) (i_shl 1 l) = 0 := (and1_0 (by omega) (by omega)).mpr (by rw [Int.toNat_natCast]; simpa using hb)
      rw [if_neg hb, Int.add_zero] at ih'
      simp only [e80_0, e80_1, e80_2, e80_3, e80_5, e80_6, e80_9, e80_12, e80_13, e80_14, e80_17, e80_18, e80_19, e80_20, e80_21, e80_24, e80_27, e80_30, e80_33, e80_34, psh0, psh1, psh3, true_or, or_true, eq_self, Option.bind_some, List.length_nil, List.length_cons, Nat.reduceAdd, Nat.reduceLeDiff, Nat.zero_le, ↓reduceIte, Int.reduceLT, Int.reduceEq, Int.reduceLE, Int.reduceNeg, Int.reduceAdd, Int.reduceMul, Int.reduceSub, ne_eq, not_true_eq_false, not_false_eq_true, and_true, true_and, and_false, false_and, c3lt, c3gt, c3eq, Bool.false_eq_true, isK_wr, inA_wr, inR_wr, hs.1, hN, ci, g1, e, w1]
      exact ih'
theorem x_needing (hs : CS h s) (l : Nat) (hl : l < 12) (N : Nat) (hN : mrd h s 6 = N) (h12 : N ≤ 12) : EV (d + 1) 80 0 [(2, s), (0, (l : Int)), (3, 0), (3, 0)] [] h = some ((0, cP (fun q => bI (aN (fun j => mrd h (s + 13 + j) 6) (mrd h (s + 13 + q) 6) q) l) N), h) := by
  simp only [e80_0, e80_1, e80_2, e80_3]
  exact x_needing_loop hs l hl N hN h12 N 0 (by omega)
theorem x_root_loop (hk : isK h 0 10) (e8 : mrd h 0 8 = s) (hs : CS h s) (N : Nat) (hN : mrd h s 6 = N) (h12 : N ≤ 12) (n : Nat) : ∀ (i : Nat) (l4 : AV), i + n = N → EV (d + 2) 149 6 [(2, 0), (0, (bX (fun l => cP (fun q => bI (aN (fun j => mrd h (s + 13 + j) 6) (mrd h (s + 13 + q) 6) q) l) N) i).1), (0, (bX (fun l => cP (fun q => bI (aN (fun j => mrd h (s + 13 + j) 6) (mrd h (s + 13 + q) 6) q) l) N) i).2), (0, (i : Int)), l4] [] h = some ((0, (bX (fun l => cP (fun q => bI (aN (fun j => mrd h (s + 13 + j) 6) (mrd h (s + 13 + q) 6) q) l) N) N).1), mwr h 0 11 (if (bX (fun l => cP (fun q => bI (aN (fun j => mrd h (s + 13 + j) 6) (mrd h (s + 13 + q) 6) q) l) N) N).1 = -1 then 8 else 0)) := by
  induction n with
  | zero =>
    intro i l4 hi
    have e : i = N := by omega
    subst e
    rw [e149_6]
    simp only [e149_0, e149_1, e149_2, e149_3, e149_4, e149_5, e149_7, e149_8, e149_11, e149_14, e149_17, e149_18, e149_21, e149_22, e149_25, e149_27, e149_29, e149_30, e149_33, e149_35, e149_36, e149_37, e149_38, e149_41, e149_44, e149_45, e149_46, e149_49, psh0, psh1, psh3, true_or, or_true, eq_self, Option.bind_some, List.length_nil, List.length_cons, Nat.reduceAdd, Nat.reduceLeDiff, Nat.zero_le, ↓reduceIte, Int.reduceLT, Int.reduceEq, Int.reduceLE, Int.reduceNeg, Int.reduceAdd, Int.reduceMul, Int.reduceSub, ne_eq, not_true_eq_false, not_false_eq_true, and_true, true_and, and_false, false_and, c3lt, c3gt, c3eq, Bool.false_eq_true, isK_wr, inA_wr, inR_wr, hk, e8, hs.1, hN, Int.lt_irrefl, x_answerIfThere]
  | succ n ih =>
    intro i l4 hi
    have ci : (i : Int) < N := by omega
    have w1 : w32 ((i : Int) + 1) = ((i + 1 : Nat) : Int) := by rw [w32_id (by omega) (by omega)]; omega
    have g1 := x_needing (d := d) hs i (by omega) N hN h12
    have ih' := fun l4 => ih (i + 1) l4 (by omega)
    rw [e149_6]
    by_cases hb : (bX (fun l => cP (fun q => bI (aN (fun j : Nat => mrd h (s + 13 + (j : Int)) 6) (mrd h (s + 13 + (q : Int)) 6) q) l) N) i).2 < cP (fun q => bI (aN (fun j : Nat => mrd h (s + 13 + (j : Int)) 6) (mrd h (s + 13 + (q : Int)) 6) q) i) N
    · rw [bX, if_pos hb] at ih'
      simp only [e149_0, e149_1, e149_2, e149_3, e149_4, e149_5, e149_7, e149_8, e149_11, e149_14, e149_17, e149_18, e149_21, e149_22, e149_25, e149_27, e149_29, e149_30, e149_33, e149_35, e149_36, e149_37, e149_38, e149_41, e149_44, e149_45, e149_46, e149_49, psh0, psh1, psh3, true_or, or_true, eq_self, Option.bind_some, List.length_nil, List.length_cons, Nat.reduceAdd, Nat.reduceLeDiff, Nat.zero_le, ↓reduceIte, Int.reduceLT, Int.reduceEq, Int.reduceLE, Int.reduceNeg, Int.reduceAdd, Int.reduceMul, Int.reduceSub, ne_eq, not_true_eq_false, not_false_eq_true, and_true, true_and, and_false, false_and, c3lt, c3gt, c3eq, Bool.false_eq_true, isK_wr, inA_wr, inR_wr, hk, e8, hs.1, hN, ci, g1, hb, w1]
      exact ih' _
    · rw [bX, if_neg hb] at ih'
      simp only [e149_0, e149_1, e149_2, e149_3, e149_4, e149_5, e149_7, e149_8, e149_11, e149_14, e149_17, e149_18, e149_21, e149_22, e149_25, e149_27, e149_29, e149_30, e149_33, e149_35, e149_36, e149_37, e149_38, e149_41, e149_44, e149_45, e149_46, e149_49, psh0, psh1, psh3, true_or, or_true, eq_self, Option.bind_some, List.length_nil, List.length_cons, Nat.reduceAdd, Nat.reduceLeDiff, Nat.zero_le, ↓reduceIte, Int.reduceLT, Int.reduceEq, Int.reduceLE, Int.reduceNeg, Int.reduceAdd, Int.reduceMul, Int.reduceSub, ne_eq, not_true_eq_false, not_false_eq_true, and_true, true_and, and_false, false_and, c3lt, c3gt, c3eq, Bool.false_eq_true, isK_wr, inA_wr, inR_wr, hk, e8, hs.1, hN, ci, g1, hb, w1]
      exact ih' _
theorem m_root_in (hm : CM h) (l : Nat) (hl : l < 12) (b m : Int) (N : Nat) (hN : mrd h 240 1 = N) (h12 : N ≤ 12) (n : Nat) : ∀ i : Nat, i + n = N → EV (d + 2) 305 32 [(2, 235), (0, b), (0, m), (0, (l : Int)), (0, cP (fun q => decide (¬ q = l) && bI (aN (fun j => mrd h 240 (52 + j)) (i_shl 1 q) (q + 1)) l) i), (0, (i : Int))] [] h = EV (d + 2) 305 78 [(2, 235), (0, b), (0, m), (0, (l : Int)), (0, cP (fun q => decide (¬ q = l) && bI (aN (fun j => mrd h 240 (52 + j)) (i_shl 1 q) (q + 1)) l) N), (0, (N : Int))] [] h := by
  have i1 := inC hm (j := 1) (by decide) (by decide)
  induction n with
  | zero =>
    intro i hi
    have e : i = N := by omega
    subst e
    rw [e305_32]
    simp only [e305_0, e305_1, e305_2, e305_5, e305_6, e305_7, e305_10, e305_11, e305_12, e305_13, e305_14, e305_15, e305_16, e305_17, e305_18, e305_21, e305_22, e305_23, e305_26, e305_27, e305_29, e305_30, e305_34, e305_35, e305_38, e305_39, e305_40, e305_43, e305_45, e305_47, e305_48, e305_51, e305_52, e305_54, e305_57, e305_58, e305_61, e305_64, e305_65, e305_68, e305_69, e305_70, e305_72, e305_75, e305_79, e305_82, e305_84, e305_85, e305_88, e305_91, e305_92, e305_93, e305_95, e305_96, e305_99, e305_102, e305_103, e305_106, e305_107, e305_109, e305_112, e305_115, e305_116, psh0, psh1, psh3, true_or, or_true, eq_self, Option.bind_some, List.length_nil, List.length_cons, Nat.reduceAdd, Nat.reduceLeDiff, Nat.zero_le, ↓reduceIte, Int.reduceLT, Int.reduceEq, Int.reduceLE, Int.reduceNeg, Int.reduceAdd, Int.reduceMul, Int.reduceSub, ne_eq, not_true_eq_false, not_false_eq_true, and_true, true_and, and_false, false_and, c3lt, c3gt, c3eq, Bool.false_eq_true, isK_wr, inA_wr, inR_wr, hm.1, mC hm, i1, hN, Int.lt_irrefl]
  | succ n ih =>
    intro i hi
    have ci : (i : Int) < N := by omega
    have w1 : w32 ((i : Int) + 1) = ((i + 1 : Nat) : Int) := by rw [w32_id (by omega) (by omega)]; omega
    have g1 := m_needsOf (d := d) hm i (by omega)
    have g2 : ∀ x, EV (d + 1) 188 0 [(0, x), (0, (l : Int))] [] h = some ((0, if bI x l = true then 1 else 0), h) := fun x => m_has (by omega) (by omega)
    have g3 := cP_rng (fun q => decide (¬ q = l) && bI (aN (fun j : Nat => mrd h 240 (52 + (j : Int))) (i_shl 1 (q : Int)) (q + 1)) l) i
    have ih' := ih (i + 1) (by omega)
    rw [cP] at ih'
    rw [e305_32]
    by_cases ce : i = l
    · subst ce
      rw [if_neg (show ¬ (decide (¬ i = i) && bI (aN (fun j : Nat => mrd h 240 (52 + (j : Int))) (i_shl 1 (i : Int)) (i + 1)) i) = true by simp), ← w32_id (x := cP _ i + 0) (by omega) (by omega)] at ih'
      simp only [e305_0, e305_1, e305_2, e305_5, e305_6, e305_7, e305_10, e305_11, e305_12, e305_13, e305_14, e305_15, e305_16, e305_17, e305_18, e305_21, e305_22, e305_23, e305_26, e305_27, e305_29, e305_30, e305_34, e305_35, e305_38, e305_39, e305_40, e305_43, e305_45, e305_47, e305_48, e305_51, e305_52, e305_54, e305_57, e305_58, e305_61, e305_64, e305_65, e305_68, e305_69, e305_70, e305_72, e305_75, e305_79, e305_82, e305_84, e305_85, e305_88, e305_91, e305_92, e305_93, e305_95, e305_96, e305_99, e305_102, e305_103, e305_106, e305_107, e305_109, e305_112, e305_115, e305_116, psh0, psh1, psh3, true_or, or_true, eq_self, Option.bind_some, List.length_nil, List.length_cons, Nat.reduceAdd, Nat.reduceLeDiff, Nat.zero_le, ↓reduceIte, Int.reduceLT, Int.reduceEq, Int.reduceLE, Int.reduceNeg, Int.reduceAdd, Int.reduceMul, Int.reduceSub, ne_eq, not_true_eq_false, not_false_eq_true, and_true, true_and, and_false, false_and, c3lt, c3gt, c3eq, Bool.false_eq_true, isK_wr, inA_wr, inR_wr, hm.1, mC hm, i1, hN, ci, w1]
      exact ih'
    · have ce' : ¬ (i : Int) = (l : Int) := by omega
      by_cases hb : bI (aN (fun j : Nat => mrd h 240 (52 + (j : Int))) (i_shl 1 (i : Int)) (i + 1)) l = true
      · rw [if_pos (show (decide (¬ i = l) && bI (aN (fun j : Nat => mrd h 240 (52 + (j : Int))) (i_shl 1 (i : Int)) (i + 1)) l) = true by rw [hb, decide_eq_true ce]; rfl), ← w32_id (x := cP _ i + 1) (by omega) (by omega)] at ih'
        simp only [e305_0, e305_1, e305_2, e305_5, e305_6, e305_7, e305_10, e305_11, e305_12, e305_13, e305_14, e305_15, e305_16, e305_17, e305_18, e305_21, e305_22, e305_23, e305_26, e305_27, e305_29, e305_30, e305_34, e305_35, e305_38, e305_39, e305_40, e305_43, e305_45, e305_47, e305_48, e305_51, e305_52, e305_54, e305_57, e305_58, e305_61, e305_64, e305_65, e305_68, e305_69, e305_70, e305_72, e305_75, e305_79, e305_82, e305_84, e305_85, e305_88, e305_91, e305_92, e305_93, e305_95, e305_96, e305_99, e305_102, e305_103, e305_106, e305_107, e305_109, e305_112, e305_115, e305_116, psh0, psh1, psh3, true_or, or_true, eq_self, Option.bind_some, List.length_nil, List.length_cons, Nat.reduceAdd, Nat.reduceLeDiff, Nat.zero_le, ↓reduceIte, Int.reduceLT, Int.reduceEq, Int.reduceLE, Int.reduceNeg, Int.reduceAdd, Int.reduceMul, Int.reduceSub, ne_eq, not_true_eq_false, not_false_eq_true, and_true, true_and, and_false, false_and, c3lt, c3gt, c3eq, Bool.false_eq_true, isK_wr, inA_wr, inR_wr, hm.1, mC hm, i1, hN, ci, w1, ce', g1, g2, hb]
        exact ih'
      · rw [if_neg (show ¬ (decide (¬ i = l) && bI (aN (fun j : Nat => mrd h 240 (52 + (j : Int))) (i_shl 1 (i : Int)) (i + 1)) l) = true by simp [hb]), ← w32_id (x := cP _ i + 0) (by omega) (by omega)] at ih'
        simp only [e305_0, e305_1, e305_2, e305_5, e305_6, e305_7, e305_10, e305_11, e305_12, e305_13, e305_14, e305_15, e305_16, e305_17, e305_18, e305_21, e305_22, e305_23, e305_26, e305_27, e305_29, e305_30, e305_34, e305_35, e305_38, e305_39, e305_40, e305_43, e305_45, e305_47, e305_48, e305_51, e305_52, e305_54, e305_57, e305_58, e305_61, e305_64, e305_65, e305_68, e305_69, e305_70, e305_72, e305_75, e305_79, e305_82, e305_84, e305_85, e305_88, e305_91, e305_92, e305_93, e305_95, e305_96, e305_99, e305_102, e305_103, e305_106, e305_107, e305_109, e305_112, e305_115, e305_116, psh0, psh1, psh3, true_or, or_true, eq_self, Option.bind_some, List.length_nil, List.length_cons, Nat.reduceAdd, Nat.reduceLeDiff, Nat.zero_le, ↓reduceIte, Int.reduceLT, Int.reduceEq, Int.reduceLE, Int.reduceNeg, Int.reduceAdd, Int.reduceMul, Int.reduceSub, ne_eq, not_true_eq_false, not_false_eq_true, and_true, true_and, and_false, false_and, c3lt, c3gt, c3eq, Bool.false_eq_true, isK_wr, inA_wr, inR_wr, hm.1, mC hm, i1, hN, ci, w1, ce', g1, g2, hb]
        exact ih'
theorem m_root_loop (hm : CM h) (N : Nat) (hN : mrd h 240 1 = N) (h12 : N ≤ 12) (n : Nat) : ∀ (i : Nat) (l4 l5 : AV), i + n = N → EV (d + 2) 305 16 [(2, 235), (0, (bM (fun l => cP (fun q => decide (¬ q = l) && bI (aN (fun j => mrd h 240 (52 + j)) (i_shl 1 q) (q + 1)) l) N) i).1), (0, (bM (fun l => cP (fun q => decide (¬ q = l) && bI (aN (fun j => mrd h 240 (52 + j)) (i_shl 1 q) (q + 1)) l) N) i).2), (0, (i : Int)), l4, l5] [] h = if (bM (fun l => cP (fun q => decide (¬ q = l) && bI (aN (fun j => mrd h 240 (52 + j)) (i_shl 1 q) (q + 1)) l) N) N).1 < 0 then some ((0, -1), mwr h 235 0 8) else some ((0, (bM (fun l => cP (fun q => decide (¬ q = l) && bI (aN (fun j => mrd h 240 (52 + j)) (i_shl 1 q) (q + 1)) l) N) N).1), h) := by
  have i1 := inC hm (j := 1) (by decide) (by decide)
  induction n with
  | zero =>
    intro i l4 l5 hi
    have e : i = N := by omega
    subst e
    rw [e305_16]
    simp only [e305_0, e305_1, e305_2, e305_5, e305_6, e305_7, e305_10, e305_11, e305_12, e305_13, e305_14, e305_15, e305_17, e305_18, e305_21, e305_22, e305_23, e305_26, e305_27, e305_29, e305_30, e305_34, e305_35, e305_38, e305_39, e305_40, e305_43, e305_45, e305_47, e305_48, e305_51, e305_52, e305_54, e305_57, e305_58, e305_61, e305_64, e305_65, e305_68, e305_69, e305_70, e305_72, e305_75, e305_78, e305_79, e305_82, e305_84, e305_85, e305_88, e305_91, e305_92, e305_93, e305_95, e305_96, e305_99, e305_102, e305_103, e305_106, e305_107, e305_109, e305_112, e305_115, e305_116, psh0, psh1, psh3, true_or, or_true, eq_self, Option.bind_some, List.length_nil, List.length_cons, Nat.reduceAdd, Nat.reduceLeDiff, Nat.zero_le, ↓reduceIte, Int.reduceLT, Int.reduceEq, Int.reduceLE, Int.reduceNeg, Int.reduceAdd, Int.reduceMul, Int.reduceSub, ne_eq, not_true_eq_false, not_false_eq_true, and_true, true_and, and_false, false_and, c3lt, c3gt, c3eq, Bool.false_eq_true, isK_wr, inA_wr, inR_wr, hm.1, mC hm, i1, hN, Int.lt_irrefl, m_refuse]
  | succ n ih =>
    intro i l4 l5 hi
    have ci : (i : Int) < N := by omega
    have w1 : w32 ((i : Int) + 1) = ((i + 1 : Nat) : Int) := by rw [w32_id (by omega) (by omega)]; omega
    have ih' := fun l4 l5 => ih (i + 1) l4 l5 (by omega)
    have g1 := fun b m => m_root_in (d := d) hm i (by omega) b m N hN h12 N 0 (by omega)
    rw [e305_16]
    simp only [e305_0, e305_1, e305_2, e305_5, e305_6, e305_7, e305_10, e305_11, e305_12, e305_13, e305_14, e305_15, e305_17, e305_18, e305_21, e305_22, e305_23, e305_26, e305_27, e305_29, e305_30, e305_34, e305_35, e305_38, e305_39, e305_40, e305_43, e305_45, e305_47, e305_48, e305_51, e305_52, e305_54, e305_57, e305_58, e305_61, e305_64, e305_65, e305_68, e305_69, e305_70, e305_72, e305_75, e305_78, e305_79, e305_82, e305_84, e305_85, e305_88, e305_91, e305_92, e305_93, e305_95, e305_96, e305_99, e305_102, e305_103, e305_106, e305_107, e305_109, e305_112, e305_115, e305_116, psh0, psh1, psh3, true_or, or_true, eq_self, Option.bind_some, List.length_nil, List.length_cons, Nat.reduceAdd, Nat.reduceLeDiff, Nat.zero_le, ↓reduceIte, Int.reduceLT, Int.reduceEq, Int.reduceLE, Int.reduceNeg, Int.reduceAdd, Int.reduceMul, Int.reduceSub, ne_eq, not_true_eq_false, not_false_eq_true, and_true, true_and, and_false, false_and, c3lt, c3gt, c3eq, Bool.false_eq_true, isK_wr, inA_wr, inR_wr, hm.1, mC hm, i1, hN, ci]
    refine (congrArg (fun t => t) (g1 _ _)).trans ?_
    rw [bM] at ih'
    by_cases hb : 0 ≤ (bM (fun l => cP (fun q => decide (¬ q = l) && bI (aN (fun j : Nat => mrd h 240 (52 + (j : Int))) (i_shl 1 (q : Int)) (q + 1)) l) N) i).1 ∧ cP (fun q => decide (¬ q = i) && bI (aN (fun j : Nat => mrd h 240 (52 + (j : Int))) (i_shl 1 (q : Int)) (q + 1)) i) N ≤ (bM (fun l => cP (fun q => decide (¬ q = l) && bI (aN (fun j : Nat => mrd h 240 (52 + (j : Int))) (i_shl 1 (q : Int)) (q + 1)) l) N) i).2
    · have h1 : ¬ (bM (fun l => cP (fun q => decide (¬ q = l) && bI (aN (fun j : Nat => mrd h 240 (52 + (j : Int))) (i_shl 1 (q : Int)) (q + 1)) l) N) i).1 < 0 := by omega
      have h2 : ¬ (bM (fun l => cP (fun q => decide (¬ q = l) && bI (aN (fun j : Nat => mrd h 240 (52 + (j : Int))) (i_shl 1 (q : Int)) (q + 1)) l) N) i).2 < cP (fun q => decide (¬ q = i) && bI (aN (fun j : Nat => mrd h 240 (52 + (j : Int))) (i_shl 1 (q : Int)) (q + 1)) i) N := by omega
      rw [if_pos hb] at ih'
      simp only [e305_0, e305_1, e305_2, e305_5, e305_6, e305_7, e305_10, e305_11, e305_12, e305_13, e305_14, e305_15, e305_17, e305_18, e305_21, e305_22, e305_23, e305_26, e305_27, e305_29, e305_30, e305_34, e305_35, e305_38, e305_39, e305_40, e305_43, e305_45, e305_47, e305_48, e305_51, e305_52, e305_54, e305_57, e305_58, e305_61, e305_64, e305_65, e305_68, e305_69, e305_70, e305_72, e305_75, e305_78, e305_79, e305_82, e305_84, e305_85, e305_88, e305_91, e305_92, e305_93, e305_95, e305_96, e305_99, e305_102, e305_103, e305_106, e305_107, e305_109, e305_112, e305_115, e305_116, psh0, psh1, psh3, true_or, or_true, eq_self, Option.bind_some, List.length_nil, List.length_cons, Nat.reduceAdd, Nat.reduceLeDiff, Nat.zero_le, ↓reduceIte, Int.reduceLT, Int.reduceEq, Int.reduceLE, Int.reduceNeg, Int.reduceAdd, Int.reduceMul, Int.reduceSub, ne_eq, not_true_eq_false, not_false_eq_true, and_true, true_and, and_false, false_and, c3lt, c3gt, c3eq, Bool.false_eq_true, isK_wr, inA_wr, inR_wr, h1, h2, w1]
      exact ih' _ _
    · rw [if_neg hb] at ih'
      by_cases h1 : (bM (fun l => cP (fun q => decide (¬ q = l) && bI (aN (fun j : Nat => mrd h 240 (52 + (j : Int))) (i_shl 1 (q : Int)) (q + 1)) l) N) i).1 < 0
      · simp only [e305_0, e305_1, e305_2, e305_5, e305_6, e305_7, e305_10, e305_11, e305_12, e305_13, e305_14, e305_15, e305_17, e305_18, e305_21, e305_22, e305_23, e305_26, e305_27, e305_29, e305_30, e305_34, e305_35, e305_38, e305_39, e305_40, e305_43, e305_45, e305_47, e305_48, e305_51, e305_52, e305_54, e305_57, e305_58, e305_61, e305_64, e305_65, e305_68, e305_69, e305_70, e305_72, e305_75, e305_78, e305_79, e305_82, e305_84, e305_85, e305_88, e305_91, e305_92, e305_93, e305_95, e305_96, e305_99, e305_102, e305_103, e305_106, e305_107, e305_109, e305_112, e305_115, e305_116, psh0, psh1, psh3, true_or, or_true, eq_self, Option.bind_some, List.length_nil, List.length_cons, Nat.reduceAdd, Nat.reduceLeDiff, Nat.zero_le, ↓reduceIte, Int.reduceLT, Int.reduceEq, Int.reduceLE, Int.reduceNeg, Int.reduceAdd, Int.reduceMul, Int.reduceSub, ne_eq, not_true_eq_false, not_false_eq_true, and_true, true_and, and_false, false_and, c3lt, c3gt, c3eq, Bool.false_eq_true, isK_wr, inA_wr, inR_wr, h1, w1]
        exact ih' _ _
      · have h2 : (bM (fun l => cP (fun q => decide (¬ q = l) && bI (aN (fun j : Nat => mrd h 240 (52 + (j : Int))) (i_shl 1 (q : Int)) (q + 1)) l) N) i).2 < cP (fun q => decide (¬ q = i) && bI (aN (fun j : Nat => mrd h 240 (52 + (j : Int))) (i_shl 1 (q : Int)) (q + 1)) i) N := by omega
        simp only [e305_0, e305_1, e305_2, e305_5, e305_6, e305_7, e305_10, e305_11, e305_12, e305_13, e305_14, e305_15, e305_17, e305_18, e305_21, e305_22, e305_23, e305_26, e305_27, e305_29, e305_30, e305_34, e305_35, e305_38, e305_39, e305_40, e305_43, e305_45, e305_47, e305_48, e305_51, e305_52, e305_54, e305_57, e305_58, e305_61, e305_64, e305_65, e305_68, e305_69, e305_70, e305_72, e305_75, e305_78, e305_79, e305_82, e305_84, e305_85, e305_88, e305_91, e305_92, e305_93, e305_95, e305_96, e305_99, e305_102, e305_103, e305_106, e305_107, e305_109, e305_112, e305_115, e305_116, psh0, psh1, psh3, true_or, or_true, eq_self, Option.bind_some, List.length_nil, List.length_cons, Nat.reduceAdd, Nat.reduceLeDiff, Nat.zero_le, ↓reduceIte, Int.reduceLT, Int.reduceEq, Int.reduceLE, Int.reduceNeg, Int.reduceAdd, Int.reduceMul, Int.reduceSub, ne_eq, not_true_eq_false, not_false_eq_true, and_true, true_and, and_false, false_and, c3lt, c3gt, c3eq, Bool.false_eq_true, isK_wr, inA_wr, inR_wr, h1, h2, w1]
        exact ih' _ _
end
theorem op_root : Op_root Inv := by
  intro d h hI
  obtain ⟨s, e8, hs, k0, kM, cs, ds⟩ := ctx hI
  have ds' := ds
  have ks := cs.1
  have r1 := cs.2.2.1
  have r2 := cs.2.2.2.1
  have r3 := cs.2.2.2.2.1
  have kl := cs.2.2.2.2.2.2.2.2.2.2.2.1
  have kc := cs.2.2.2.2.2.2.2.2.2.2.2.2
  obtain ⟨d5, d6, d7, d8, dl, dc⟩ := ds
  have hm : ∀ v, CM (mwr (mwr (mwr h 0 11 v) 235 1 0) 235 0 0) := fun v => CM_q (CM_of hI)
  obtain ⟨N, hN⟩ : ∃ N : Nat, mrd h 240 1 = N := ⟨(mrd h 240 1).toNat, by omega⟩
  have gx := x_root_loop (d := d + 58) k0 e8 cs N (by rw [d6.1, hN]) (by omega) N 0 (3, 0) (by omega)
  have gm := fun v => m_root_loop (d := d + 58) (hm v) N (by rw [rdq (by decide) (by decide), hN]) (by omega) N 0 (3, 0) (3, 0) (by omega)
  simp only [rdq, ↓reduceIte, Int.reduceLT, Int.reduceEq, Int.reduceLE, Int.reduceNeg, Int.reduceAdd, Int.reduceMul, Int.reduceSub, ne_eq, not_true_eq_false, not_false_eq_true, and_true, true_and, and_false, false_and, c3lt, c3gt, c3eq, Bool.false_eq_true, isK_wr, inA_wr, inR_wr] at gm
  have e1 : ∀ l, l < N → cP (fun q => bI (aN (fun j : Nat => mrd h (s + 13 + (j : Int)) 6) (mrd h (s + 13 + (q : Int)) 6) q) l) N = cP (fun q => decide (¬ q = l) && bI (aN (fun j : Nat => mrd h 240 (52 + (j : Int))) (i_shl 1 (q : Int)) (q + 1)) l) N := fun l hl => cP_eq N (fun q hq => by
    rw [aN_x ds' (by omega), needs_both _ (by omega), bI_or, bI_shl (by omega) (by omega)]
    by_cases c : q = l
    · subst c
      rw [aN_b ds' (by omega) (Nat.le_refl _)]
      simp
    · rw [decide_eq_true c, decide_eq_false (show ¬ (l : Int) = (q : Int) by omega), Bool.true_and, Bool.false_or])
  have e2 := bX_congr N e1
  have e3 := bXM1 (fun l => cP (fun q => decide (¬ q = l) && bI (aN (fun j : Nat => mrd h 240 (52 + (j : Int))) (i_shl 1 (q : Int)) (q + 1)) l) N) (fun i => (cP_rng _ N).1) N
  rw [e2] at gx
  rw [e3.1] at gx e3
  generalize (bM (fun l => cP (fun q => decide (¬ q = l) && bI (aN (fun j : Nat => mrd h 240 (52 + (j : Int))) (i_shl 1 (q : Int)) (q + 1)) l) N) N).1 = R at gx gm e3
  by_cases c : R = -1
  · subst c
    refine opq hI (-1) 8 ?_ ?_
    · simp only [e149_0, e149_1, e149_2, e149_3, e149_4, e149_5]
      exact gx
    · simp only [e305_0, e305_1, e305_2, e305_5, e305_6, e305_7, e305_10, e305_11, e305_12, e305_13, e305_14, e305_15, e305_17, e305_18, e305_21, e305_22, e305_23, e305_26, e305_27, e305_29, e305_30, e305_32, e305_34, e305_35, e305_38, e305_39, e305_40, e305_43, e305_45, e305_47, e305_48, e305_51, e305_52, e305_54, e305_57, e305_58, e305_61, e305_64, e305_65, e305_68, e305_69, e305_70, e305_72, e305_75, e305_78, e305_79, e305_82, e305_84, e305_85, e305_88, e305_91, e305_92, e305_93, e305_95, e305_96, e305_99, e305_102, e305_103, e305_106, e305_107, e305_109, e305_112, e305_115, e305_116, psh0, psh1, psh3, true_or, or_true, eq_self, Option.bind_some, List.length_nil, List.length_cons, Nat.reduceAdd, Nat.reduceLeDiff, Nat.zero_le, ↓reduceIte, Int.reduceLT, Int.reduceEq, Int.reduceLE, Int.reduceNeg, Int.reduceAdd, Int.reduceMul, Int.reduceSub, ne_eq, not_true_eq_false, not_false_eq_true, and_true, true_and, and_false, false_and, c3lt, c3gt, c3eq, Bool.false_eq_true, isK_wr, inA_wr, inR_wr, kM]
      refine (gm 8).trans ?_
      rw [if_pos (by decide), wrwr]
  · refine opq hI R 0 ?_ ?_
    · simp only [e149_0, e149_1, e149_2, e149_3, e149_4, e149_5]
      rw [if_neg c] at gx
      exact gx
    · simp only [e305_0, e305_1, e305_2, e305_5, e305_6, e305_7, e305_10, e305_11, e305_12, e305_13, e305_14, e305_15, e305_17, e305_18, e305_21, e305_22, e305_23, e305_26, e305_27, e305_29, e305_30, e305_32, e305_34, e305_35, e305_38, e305_39, e305_40, e305_43, e305_45, e305_47, e305_48, e305_51, e305_52, e305_54, e305_57, e305_58, e305_61, e305_64, e305_65, e305_68, e305_69, e305_70, e305_72, e305_75, e305_78, e305_79, e305_82, e305_84, e305_85, e305_88, e305_91, e305_92, e305_93, e305_95, e305_96, e305_99, e305_102, e305_103, e305_106, e305_107, e305_109, e305_112, e305_115, e305_116, psh0, psh1, psh3, true_or, or_true, eq_self, Option.bind_some, List.length_nil, List.length_cons, Nat.reduceAdd, Nat.reduceLeDiff, Nat.zero_le, ↓reduceIte, Int.reduceLT, Int.reduceEq, Int.reduceLE, Int.reduceNeg, Int.reduceAdd, Int.reduceMul, Int.reduceSub, ne_eq, not_true_eq_false, not_false_eq_true, and_true, true_and, and_false, false_and, c3lt, c3gt, c3eq, Bool.false_eq_true, isK_wr, inA_wr, inR_wr, kM]
      refine (gm 0).trans ?_
      rw [if_neg (by omega)]

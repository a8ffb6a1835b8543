/-! two names side by side: rhyme, apart, behind -/
def fI (P : Nat → Bool) : Nat → Nat → Nat
  | i, 0 => i
  | i, n + 1 => if P i = true then i else fI P (i + 1) n
theorem fI_rng (P : Nat → Bool) : ∀ (n i : Nat), i ≤ fI P i n ∧ fI P i n ≤ i + n
  | 0, i => by rw [fI]; omega
  | n + 1, i => by
    rw [fI]
    have := fI_rng P n (i + 1)
    split <;> omega
theorem fI_congr {P Q : Nat → Bool} : ∀ (n i : Nat), (∀ j, i ≤ j → j < i + n → P j = Q j) → fI P i n = fI Q i n
  | 0, _, _ => rfl
  | n + 1, i, h => by rw [fI, fI, h i (by omega) (by omega), fI_congr n (i + 1) (fun j h0 h1 => h j (by omega) (by omega))]
theorem fI_no {P : Nat → Bool} : ∀ (n i : Nat), (∀ j, i ≤ j → j < i + n → P j = false) → fI P i n = i + n
  | 0, _, _ => rfl
  | n + 1, i, h => by rw [fI, h i (by omega) (by omega), if_neg (by decide), fI_no n (i + 1) (fun j h0 h1 => h j (by omega) (by omega))]; omega
theorem fI_bef {P : Nat → Bool} : ∀ (n i j : Nat), i ≤ j → j < fI P i n → P j = false
  | 0, i, j, h0, h1 => by rw [fI] at h1; omega
  | n + 1, i, j, h0, h1 => by
    rw [fI] at h1
    by_cases c : P i = true
    · rw [if_pos c] at h1; omega
    · rw [if_neg c] at h1
      by_cases e : j = i
      · subst e; simpa using c
      · exact fI_bef n (i + 1) j (by omega) h1
theorem fI_at {P : Nat → Bool} : ∀ (n i : Nat), fI P i n < i + n → P (fI P i n) = true
  | 0, i, h => by rw [fI] at h; omega
  | n + 1, i, h => by
    rw [fI] at h ⊢
    by_cases c : P i = true
    · rw [if_pos c]; exact c
    · rw [if_neg c] at h ⊢
      exact fI_at n (i + 1) (by omega)
/-- child k as the reference has it: its length, its lessons -/
def MC (h : AM) (k : Int) : Prop := (0 ≤ k ∧ k < 4) ∧ (0 ≤ mrd h 240 (76 + k) ∧ mrd h 240 (76 + k) ≤ 12) ∧ ∀ p, 0 ≤ p → p < mrd h 240 (76 + k) → 0 ≤ mrd h 240 (80 + 12 * k + p) ∧ mrd h 240 (80 + 12 * k + p) < 12
def LT (h : AM) (k p : Int) : Int := mrd h 240 (4 + mrd h 240 (80 + 12 * k + p))
theorem MC_q {h : AM} {k : Int} (v w : Int) (hc : MC h k) : MC (mwr (mwr (mwr h 0 11 v) 235 1 0) 235 0 w) k := by
  unfold MC at hc ⊢
  simp only [rdq, ↓reduceIte, Int.reduceLT, Int.reduceEq, Int.reduceLE, Int.reduceNeg, Int.reduceAdd, Int.reduceMul, Int.reduceSub, ne_eq, not_true_eq_false, not_false_eq_true, and_true, true_and, and_false, false_and, c3lt, c3gt, c3eq, Bool.false_eq_true, isK_wr, inA_wr, inR_wr]
  exact hc
theorem LT_q {h : AM} {k p : Int} (v w : Int) : LT (mwr (mwr (mwr h 0 11 v) 235 1 0) 235 0 w) k p = LT h k p := by
  unfold LT
  simp only [rdq, ↓reduceIte, Int.reduceLT, Int.reduceEq, Int.reduceLE, Int.reduceNeg, Int.reduceAdd, Int.reduceMul, Int.reduceSub, ne_eq, not_true_eq_false, not_false_eq_true, and_true, true_and, and_false, false_and, c3lt, c3gt, c3eq, Bool.false_eq_true, isK_wr, inA_wr, inR_wr]
theorem MC_of {h : AM} {s k : Int} (ds : DS h s) (h0 : 0 ≤ k) (h1 : k < mrd h 240 2) : MC h k := by
  obtain ⟨d5, d6, d7, d8, dl, dc⟩ := ds
  obtain ⟨q1, q2, q3, q4, q5, q6, q7⟩ := dc k h0 h1
  exact ⟨⟨h0, by omega⟩, ⟨q4.2.1, q4.2.2⟩, fun p p0 p1 => ⟨(q5 p p0 p1).2.1, by have := (q5 p p0 p1).2.2; omega⟩⟩
section
variable {d : Nat} {h : AM} {s a b c k p v w x y z : Int}
theorem m_letter (hm : CM h) (hc : MC h k) (p0 : 0 ≤ p) (p1 : p < mrd h 240 (76 + k)) : EV (d + 1) 243 0 [(2, 235), (0, k), (0, p)] [] h = some ((0, LT h k p), h) := by
  obtain ⟨⟨a0, a1⟩, ⟨b0, b1⟩, hp⟩ := hc
  have := hp p p0 p1
  exact m_letterOf hm a0 a1 p0 (by omega) this.1 this.2
theorem x_letter (hs : CS h s) (ds : DS h s) (c0 : 0 ≤ c) (c1 : c < mrd h 240 2) (p0 : 0 ≤ p) (p1 : p < mrd h 240 (76 + c)) : EV d 67 0 [(2, s), (2, s + 25 + 2 * c), (0, p)] [] h = some ((0, LT h c p), h) := by
  obtain ⟨d5, d6, d7, d8, dl, dc⟩ := ds
  obtain ⟨q1, q2, q3, q4, q5, q6, q7⟩ := dc c c0 c1
  obtain ⟨e1, e2, e3⟩ := q5 p p0 p1
  rw [x_letterAt hs c0 (by omega) p0 (by omega) (by rw [e1]; omega) (by rw [e1]; omega), e1, (dl _ e2 e3).1.1]
  rfl
theorem x_sameAtEnd_loop (hs : CS h s) (ds : DS h s) (a0 : 0 ≤ a) (a1 : a < mrd h 240 2) (b0 : 0 ≤ b) (b1 : b < mrd h 240 2) (M : Nat) (h1 : (M : Int) ≤ mrd h 240 (76 + a)) (h2 : (M : Int) ≤ mrd h 240 (76 + b)) (n : Nat) : ∀ i : Nat, i + n = M → EV (d + 1) 76 15 [(2, s), (2, s + 25 + 2 * a), (2, s + 25 + 2 * b), (0, (M : Int)), (0, (i : Int))] [] h = some ((0, ((fI (fun j => decide (¬ LT h a (mrd h 240 (76 + a) - 1 - j) = LT h b (mrd h 240 (76 + b) - 1 - j))) i n : Nat) : Int)), h) := by
  obtain ⟨qa1, qa2, qa3, qa4, qa5, qa6, qa7⟩ := ds.2.2.2.2.2 a a0 a1
  obtain ⟨qb1, qb2, qb3, qb4, qb5, qb6, qb7⟩ := ds.2.2.2.2.2 b b0 b1
  have d7 := ds.2.2.1
  obtain ⟨ta1, ta2, ta3, ta4, ta5, ta6⟩ := hs.2.2.2.2.2.2.2.2.2.2.2.2 a a0 (by omega)
  obtain ⟨tb1, tb2, tb3, tb4, tb5, tb6⟩ := hs.2.2.2.2.2.2.2.2.2.2.2.2 b b0 (by omega)
  induction n with
  | zero =>
    intro i hi
    have e : i = M := by omega
    subst e
    rw [e76_15, fI]
    simp only [e76_0, e76_1, e76_4, e76_5, e76_8, e76_11, e76_12, e76_13, e76_17, e76_18, e76_21, e76_22, e76_23, e76_24, e76_27, e76_28, e76_29, e76_31, e76_32, e76_35, e76_36, e76_37, e76_38, e76_41, e76_42, e76_43, e76_45, e76_46, e76_49, e76_52, e76_54, e76_55, e76_58, e76_61, e76_62, psh0, psh1, psh3, true_or, or_true, eq_self, Option.bind_some, List.length_nil, List.length_cons, Nat.reduceAdd, Nat.reduceLeDiff, Nat.zero_le, ↓reduceIte, Int.reduceLT, Int.reduceEq, Int.reduceLE, Int.reduceNeg, Int.reduceAdd, Int.reduceMul, Int.reduceSub, ne_eq, not_true_eq_false, not_false_eq_true, and_true, true_and, and_false, false_and, c3lt, c3gt, c3eq, Bool.false_eq_true, isK_wr, inA_wr, inR_wr, Int.lt_irrefl]
  | succ n ih =>
    intro i hi
    have ci : (i : Int) < M := by omega
    have w1 : w32 ((i : Int) + 1) = ((i + 1 : Nat) : Int) := by rw [w32_id (by omega) (by omega)]; omega
    have w2 : w32 (mrd h 240 (76 + a) - 1) = mrd h 240 (76 + a) - 1 := w32_id (by omega) (by omega)
    have w3 : w32 (mrd h 240 (76 + b) - 1) = mrd h 240 (76 + b) - 1 := w32_id (by omega) (by omega)
    have w4 : w32 (mrd h 240 (76 + a) - 1 - i) = mrd h 240 (76 + a) - 1 - i := w32_id (by omega) (by omega)
    have w5 : w32 (mrd h 240 (76 + b) - 1 - i) = mrd h 240 (76 + b) - 1 - i := w32_id (by omega) (by omega)
    have g1 := x_letter (d := d) (p := mrd h 240 (76 + a) - 1 - i) hs ds a0 a1 (by omega) (by omega)
    have g2 := x_letter (d := d) (p := mrd h 240 (76 + b) - 1 - i) hs ds b0 b1 (by omega) (by omega)
    rw [e76_15, fI]
    by_cases hb : LT h a (mrd h 240 (76 + a) - 1 - i) = LT h b (mrd h 240 (76 + b) - 1 - i)
    · rw [if_neg (by simpa using hb)]
      simp only [e76_0, e76_1, e76_4, e76_5, e76_8, e76_11, e76_12, e76_13, e76_17, e76_18, e76_21, e76_22, e76_23, e76_24, e76_27, e76_28, e76_29, e76_31, e76_32, e76_35, e76_36, e76_37, e76_38, e76_41, e76_42, e76_43, e76_45, e76_46, e76_49, e76_52, e76_54, e76_55, e76_58, e76_61, e76_62, psh0, psh1, psh3, true_or, or_true, eq_self, Option.bind_some, List.length_nil, List.length_cons, Nat.reduceAdd, Nat.reduceLeDiff, Nat.zero_le, ↓reduceIte, Int.reduceLT, Int.reduceEq, Int.reduceLE, Int.reduceNeg, Int.reduceAdd, Int.reduceMul, Int.reduceSub, ne_eq, not_true_eq_false, not_false_eq_true, and_true, true_and, and_false, false_and, c3lt, c3gt, c3eq, Bool.false_eq_true, isK_wr, inA_wr, inR_wr, ci, hs.1, ta3, tb3, qa4.1, qb4.1, w2, w3, w4, w5, g1, g2, hb, w1]
      exact ih (i + 1) (by omega)
    · rw [if_pos (decide_eq_true hb)]
      simp only [e76_0, e76_1, e76_4, e76_5, e76_8, e76_11, e76_12, e76_13, e76_17, e76_18, e76_21, e76_22, e76_23, e76_24, e76_27, e76_28, e76_29, e76_31, e76_32, e76_35, e76_36, e76_37, e76_38, e76_41, e76_42, e76_43, e76_45, e76_46, e76_49, e76_52, e76_54, e76_55, e76_58, e76_61, e76_62, psh0, psh1, psh3, true_or, or_true, eq_self, Option.bind_some, List.length_nil, List.length_cons, Nat.reduceAdd, Nat.reduceLeDiff, Nat.zero_le, ↓reduceIte, Int.reduceLT, Int.reduceEq, Int.reduceLE, Int.reduceNeg, Int.reduceAdd, Int.reduceMul, Int.reduceSub, ne_eq, not_true_eq_false, not_false_eq_true, and_true, true_and, and_false, false_and, c3lt, c3gt, c3eq, Bool.false_eq_true, isK_wr, inA_wr, inR_wr, ci, hs.1, ta3, tb3, qa4.1, qb4.1, w2, w3, w4, w5, g1, g2, hb, w1]
theorem m_rhyme_loop (hm : CM h) (ha : MC h a) (hb : MC h b) (M : Nat) (hM : (M : Int) = if mrd h 240 (76 + b) < mrd h 240 (76 + a) then mrd h 240 (76 + b) else mrd h 240 (76 + a)) (n : Nat) : ∀ i : Nat, i + n = M → EV (d + 2) 282 45 [(2, 235), (0, a), (0, b), (0, (i : Int))] [] h = some ((0, ((fI (fun j => decide (¬ LT h a (mrd h 240 (76 + a) - 1 - j) = LT h b (mrd h 240 (76 + b) - 1 - j))) i n : Nat) : Int)), h) := by
  have ga := fun d => m_lengthOf (d := d) hm ha.1.1 ha.1.2
  have gb := fun d => m_lengthOf (d := d) hm hb.1.1 hb.1.2
  have ra := ha.2.1
  have rb := hb.2.1
  induction n with
  | zero =>
    intro i hi
    rw [e282_45, fI]
    by_cases c1 : (i : Int) < mrd h 240 (76 + a)
    · have c2 : ¬ (i : Int) < mrd h 240 (76 + b) := by split at hM <;> omega
      simp only [e282_0, e282_1, e282_2, e282_5, e282_6, e282_7, e282_10, e282_11, e282_12, e282_15, e282_18, e282_19, e282_20, e282_23, e282_26, e282_27, e282_28, e282_31, e282_32, e282_33, e282_34, e282_37, e282_38, e282_39, e282_42, e282_43, e282_44, e282_46, e282_47, e282_48, e282_51, e282_54, e282_55, e282_56, e282_57, e282_60, e282_63, e282_64, e282_65, e282_66, e282_67, e282_70, e282_71, e282_72, e282_73, e282_74, e282_77, e282_78, e282_79, e282_80, e282_81, e282_84, e282_85, e282_86, e282_87, e282_88, e282_91, e282_94, e282_97, e282_100, e282_101, psh0, psh1, psh3, true_or, or_true, eq_self, Option.bind_some, List.length_nil, List.length_cons, Nat.reduceAdd, Nat.reduceLeDiff, Nat.zero_le, ↓reduceIte, Int.reduceLT, Int.reduceEq, Int.reduceLE, Int.reduceNeg, Int.reduceAdd, Int.reduceMul, Int.reduceSub, ne_eq, not_true_eq_false, not_false_eq_true, and_true, true_and, and_false, false_and, c3lt, c3gt, c3eq, Bool.false_eq_true, isK_wr, inA_wr, inR_wr, hm.1, ga, gb, c1, c2]
    · simp only [e282_0, e282_1, e282_2, e282_5, e282_6, e282_7, e282_10, e282_11, e282_12, e282_15, e282_18, e282_19, e282_20, e282_23, e282_26, e282_27, e282_28, e282_31, e282_32, e282_33, e282_34, e282_37, e282_38, e282_39, e282_42, e282_43, e282_44, e282_46, e282_47, e282_48, e282_51, e282_54, e282_55, e282_56, e282_57, e282_60, e282_63, e282_64, e282_65, e282_66, e282_67, e282_70, e282_71, e282_72, e282_73, e282_74, e282_77, e282_78, e282_79, e282_80, e282_81, e282_84, e282_85, e282_86, e282_87, e282_88, e282_91, e282_94, e282_97, e282_100, e282_101, psh0, psh1, psh3, true_or, or_true, eq_self, Option.bind_some, List.length_nil, List.length_cons, Nat.reduceAdd, Nat.reduceLeDiff, Nat.zero_le, ↓reduceIte, Int.reduceLT, Int.reduceEq, Int.reduceLE, Int.reduceNeg, Int.reduceAdd, Int.reduceMul, Int.reduceSub, ne_eq, not_true_eq_false, not_false_eq_true, and_true, true_and, and_false, false_and, c3lt, c3gt, c3eq, Bool.false_eq_true, isK_wr, inA_wr, inR_wr, hm.1, ga, gb, c1]
  | succ n ih =>
    intro i hi
    have c1 : (i : Int) < mrd h 240 (76 + a) := by split at hM <;> omega
    have c2 : (i : Int) < mrd h 240 (76 + b) := by split at hM <;> omega
    have w1 : w32 ((i : Int) + 1) = ((i + 1 : Nat) : Int) := by rw [w32_id (by omega) (by omega)]; omega
    have w2 : w32 (mrd h 240 (76 + a) - 1) = mrd h 240 (76 + a) - 1 := w32_id (by omega) (by omega)
    have w3 : w32 (mrd h 240 (76 + b) - 1) = mrd h 240 (76 + b) - 1 := w32_id (by omega) (by omega)
    have w4 : w32 (mrd h 240 (76 + a) - 1 - i) = mrd h 240 (76 + a) - 1 - i := w32_id (by omega) (by omega)
    have w5 : w32 (mrd h 240 (76 + b) - 1 - i) = mrd h 240 (76 + b) - 1 - i := w32_id (by omega) (by omega)
    have g1 := m_letter (d := d) (p := mrd h 240 (76 + a) - 1 - i) hm ha (by omega) (by omega)
    have g2 := m_letter (d := d) (p := mrd h 240 (76 + b) - 1 - i) hm hb (by omega) (by omega)
    rw [e282_45, fI]
    by_cases he : LT h a (mrd h 240 (76 + a) - 1 - i) = LT h b (mrd h 240 (76 + b) - 1 - i)
    · rw [if_neg (by simpa using he)]
      simp only [e282_0, e282_1, e282_2, e282_5, e282_6, e282_7, e282_10, e282_11, e282_12, e282_15, e282_18, e282_19, e282_20, e282_23, e282_26, e282_27, e282_28, e282_31, e282_32, e282_33, e282_34, e282_37, e282_38, e282_39, e282_42, e282_43, e282_44, e282_46, e282_47, e282_48, e282_51, e282_54, e282_55, e282_56, e282_57, e282_60, e282_63, e282_64, e282_65, e282_66, e282_67, e282_70, e282_71, e282_72, e282_73, e282_74, e282_77, e282_78, e282_79, e282_80, e282_81, e282_84, e282_85, e282_86, e282_87, e282_88, e282_91, e282_94, e282_97, e282_100, e282_101, psh0, psh1, psh3, true_or, or_true, eq_self, Option.bind_some, List.length_nil, List.length_cons, Nat.reduceAdd, Nat.reduceLeDiff, Nat.zero_le, ↓reduceIte, Int.reduceLT, Int.reduceEq, Int.reduceLE, Int.reduceNeg, Int.reduceAdd, Int.reduceMul, Int.reduceSub, ne_eq, not_true_eq_false, not_false_eq_true, and_true, true_and, and_false, false_and, c3lt, c3gt, c3eq, Bool.false_eq_true, isK_wr, inA_wr, inR_wr, hm.1, ga, gb, c1, c2, w2, w3, w4, w5, g1, g2, he, w1]
      exact ih (i + 1) (by omega)
    · rw [if_pos (decide_eq_true he)]
      simp only [e282_0, e282_1, e282_2, e282_5, e282_6, e282_7, e282_10, e282_11, e282_12, e282_15, e282_18, e282_19, e282_20, e282_23, e282_26, e282_27, e282_28, e282_31, e282_32, e282_33, e282_34, e282_37, e282_38, e282_39, e282_42, e282_43, e282_44, e282_46, e282_47, e282_48, e282_51, e282_54, e282_55, e282_56, e282_57, e282_60, e282_63, e282_64, e282_65, e282_66, e282_67, e282_70, e282_71, e282_72, e282_73, e282_74, e282_77, e282_78, e282_79, e282_80, e282_81, e282_84, e282_85, e282_86, e282_87, e282_88, e282_91, e282_94, e282_97, e282_100, e282_101, psh0, psh1, psh3, true_or, or_true, eq_self, Option.bind_some, List.length_nil, List.length_cons, Nat.reduceAdd, Nat.reduceLeDiff, Nat.zero_le, ↓reduceIte, Int.reduceLT, Int.reduceEq, Int.reduceLE, Int.reduceNeg, Int.reduceAdd, Int.reduceMul, Int.reduceSub, ne_eq, not_true_eq_false, not_false_eq_true, and_true, true_and, and_false, false_and, c3lt, c3gt, c3eq, Bool.false_eq_true, isK_wr, inA_wr, inR_wr, hm.1, ga, gb, c1, c2, w2, w3, w4, w5, g1, g2, he, w1]
theorem x_unlike_loop (hs : CS h s) (ds : DS h s) (a0 : 0 ≤ a) (a1 : a < mrd h 240 2) (b0 : 0 ≤ b) (b1 : b < mrd h 240 2) (M : Nat) (h1 : (M : Int) ≤ mrd h 240 (76 + a)) (h2 : (M : Int) ≤ mrd h 240 (76 + b)) (n : Nat) : ∀ i : Nat, i + n = M → EV (d + 1) 77 15 [(2, s), (2, s + 25 + 2 * a), (2, s + 25 + 2 * b), (0, (M : Int)), (0, (i : Int))] [] h = some ((0, if fI (fun j => decide (¬ LT h a j = LT h b j)) i n = M ∧ mrd h 240 (76 + a) = mrd h 240 (76 + b) then -1 else ((fI (fun j => decide (¬ LT h a j = LT h b j)) i n : Nat) : Int)), h) := by
  obtain ⟨qa1, qa2, qa3, qa4, qa5, qa6, qa7⟩ := ds.2.2.2.2.2 a a0 a1
  obtain ⟨qb1, qb2, qb3, qb4, qb5, qb6, qb7⟩ := ds.2.2.2.2.2 b b0 b1
  have d7 := ds.2.2.1
  obtain ⟨ta1, ta2, ta3, ta4, ta5, ta6⟩ := hs.2.2.2.2.2.2.2.2.2.2.2.2 a a0 (by omega)
  obtain ⟨tb1, tb2, tb3, tb4, tb5, tb6⟩ := hs.2.2.2.2.2.2.2.2.2.2.2.2 b b0 (by omega)
  induction n with
  | zero =>
    intro i hi
    have e : i = M := by omega
    subst e
    rw [e77_15, fI]
    by_cases c : mrd h 240 (76 + a) = mrd h 240 (76 + b)
    · simp only [e77_0, e77_1, e77_4, e77_5, e77_8, e77_11, e77_12, e77_13, e77_17, e77_18, e77_21, e77_22, e77_23, e77_25, e77_28, e77_29, e77_30, e77_32, e77_35, e77_38, e77_40, e77_41, e77_44, e77_47, e77_48, e77_51, e77_52, e77_55, e77_58, e77_59, e77_62, e77_63, psh0, psh1, psh3, true_or, or_true, eq_self, Option.bind_some, List.length_nil, List.length_cons, Nat.reduceAdd, Nat.reduceLeDiff, Nat.zero_le, ↓reduceIte, Int.reduceLT, Int.reduceEq, Int.reduceLE, Int.reduceNeg, Int.reduceAdd, Int.reduceMul, Int.reduceSub, ne_eq, not_true_eq_false, not_false_eq_true, and_true, true_and, and_false, false_and, c3lt, c3gt, c3eq, Bool.false_eq_true, isK_wr, inA_wr, inR_wr, Int.lt_irrefl, ta3, tb3, qa4.1, qb4.1, c]
    · simp only [e77_0, e77_1, e77_4, e77_5, e77_8, e77_11, e77_12, e77_13, e77_17, e77_18, e77_21, e77_22, e77_23, e77_25, e77_28, e77_29, e77_30, e77_32, e77_35, e77_38, e77_40, e77_41, e77_44, e77_47, e77_48, e77_51, e77_52, e77_55, e77_58, e77_59, e77_62, e77_63, psh0, psh1, psh3, true_or, or_true, eq_self, Option.bind_some, List.length_nil, List.length_cons, Nat.reduceAdd, Nat.reduceLeDiff, Nat.zero_le, ↓reduceIte, Int.reduceLT, Int.reduceEq, Int.reduceLE, Int.reduceNeg, Int.reduceAdd, Int.reduceMul, Int.reduceSub, ne_eq, not_true_eq_false, not_false_eq_true, and_true, true_and, and_false, false_and, c3lt, c3gt, c3eq, Bool.false_eq_true, isK_wr, inA_wr, inR_wr, Int.lt_irrefl, ta3, tb3, qa4.1, qb4.1, c]
  | succ n ih =>
    intro i hi
    have ci : (i : Int) < M := by omega
    have w1 : w32 ((i : Int) + 1) = ((i + 1 : Nat) : Int) := by rw [w32_id (by omega) (by omega)]; omega
    have g1 := x_letter (d := d) (p := i) hs ds a0 a1 (by omega) (by omega)
    have g2 := x_letter (d := d) (p := i) hs ds b0 b1 (by omega) (by omega)
    rw [e77_15, fI]
    by_cases hb : LT h a i = LT h b i
    · rw [if_neg (show ¬ decide (¬ LT h a i = LT h b i) = true by simpa using hb)]
      simp only [e77_0, e77_1, e77_4, e77_5, e77_8, e77_11, e77_12, e77_13, e77_17, e77_18, e77_21, e77_22, e77_23, e77_25, e77_28, e77_29, e77_30, e77_32, e77_35, e77_38, e77_40, e77_41, e77_44, e77_47, e77_48, e77_51, e77_52, e77_55, e77_58, e77_59, e77_62, e77_63, psh0, psh1, psh3, true_or, or_true, eq_self, Option.bind_some, List.length_nil, List.length_cons, Nat.reduceAdd, Nat.reduceLeDiff, Nat.zero_le, ↓reduceIte, Int.reduceLT, Int.reduceEq, Int.reduceLE, Int.reduceNeg, Int.reduceAdd, Int.reduceMul, Int.reduceSub, ne_eq, not_true_eq_false, not_false_eq_true, and_true, true_and, and_false, false_and, c3lt, c3gt, c3eq, Bool.false_eq_true, isK_wr, inA_wr, inR_wr, ci, hs.1, g1, g2, hb, w1]
      exact ih (i + 1) (by omega)
    · rw [if_pos (show decide (¬ LT h a i = LT h b i) = true from decide_eq_true hb), if_neg (show ¬ (i = M ∧ _) by omega)]
      simp only [e77_0, e77_1, e77_4, e77_5, e77_8, e77_11, e77_12, e77_13, e77_17, e77_18, e77_21, e77_22, e77_23, e77_25, e77_28, e77_29, e77_30, e77_32, e77_35, e77_38, e77_40, e77_41, e77_44, e77_47, e77_48, e77_51, e77_52, e77_55, e77_58, e77_59, e77_62, e77_63, psh0, psh1, psh3, true_or, or_true, eq_self, Option.bind_some, List.length_nil, List.length_cons, Nat.reduceAdd, Nat.reduceLeDiff, Nat.zero_le, ↓reduceIte, Int.reduceLT, Int.reduceEq, Int.reduceLE, Int.reduceNeg, Int.reduceAdd, Int.reduceMul, Int.reduceSub, ne_eq, not_true_eq_false, not_false_eq_true, and_true, true_and, and_false, false_and, c3lt, c3gt, c3eq, Bool.false_eq_true, isK_wr, inA_wr, inR_wr, ci, hs.1, g1, g2, hb, w1]
theorem m_apartOf_loop (hm : CM h) (ha : MC h a) (hb : MC h b) (M : Nat) (hM : (M : Int) = if mrd h 240 (76 + b) < mrd h 240 (76 + a) then mrd h 240 (76 + b) else mrd h 240 (76 + a)) (n : Nat) : ∀ i : Nat, i + n = M → EV (d + 2) 283 2 [(2, 235), (0, a), (0, b), (0, (i : Int))] [] h = some ((0, if fI (fun j => decide (¬ LT h a j = LT h b j)) i n = M ∧ mrd h 240 (76 + a) = mrd h 240 (76 + b) then -1 else ((fI (fun j => decide (¬ LT h a j = LT h b j)) i n : Nat) : Int)), h) := by
  have ga := fun d => m_lengthOf (d := d) hm ha.1.1 ha.1.2
  have gb := fun d => m_lengthOf (d := d) hm hb.1.1 hb.1.2
  have ra := ha.2.1
  have rb := hb.2.1
  induction n with
  | zero =>
    intro i hi
    rw [e283_2, fI]
    by_cases c1 : (i : Int) < mrd h 240 (76 + a)
    · have c2 : ¬ (i : Int) < mrd h 240 (76 + b) := by split at hM <;> omega
      have c3 : ¬ (i : Int) = mrd h 240 (76 + a) := by omega
      rw [if_neg (by split at hM <;> omega)]
      simp only [e283_0, e283_1, e283_3, e283_4, e283_5, e283_8, e283_11, e283_12, e283_13, e283_14, e283_17, e283_20, e283_21, e283_22, e283_23, e283_26, e283_27, e283_28, e283_29, e283_32, e283_35, e283_38, e283_41, e283_42, e283_43, e283_44, e283_47, e283_50, e283_51, e283_52, e283_53, e283_56, e283_59, e283_60, e283_63, e283_64, psh0, psh1, psh3, true_or, or_true, eq_self, Option.bind_some, List.length_nil, List.length_cons, Nat.reduceAdd, Nat.reduceLeDiff, Nat.zero_le, ↓reduceIte, Int.reduceLT, Int.reduceEq, Int.reduceLE, Int.reduceNeg, Int.reduceAdd, Int.reduceMul, Int.reduceSub, ne_eq, not_true_eq_false, not_false_eq_true, and_true, true_and, and_false, false_and, c3lt, c3gt, c3eq, Bool.false_eq_true, isK_wr, inA_wr, inR_wr, hm.1, ga, gb, c1, c2, c3]
    · have c3 : (i : Int) = mrd h 240 (76 + a) := by split at hM <;> omega
      have c3' := eq_true c3
      by_cases c4 : (i : Int) = mrd h 240 (76 + b)
      · have c4' := eq_true c4
        rw [if_pos (by omega)]
        simp only [e283_0, e283_1, e283_3, e283_4, e283_5, e283_8, e283_11, e283_12, e283_13, e283_14, e283_17, e283_20, e283_21, e283_22, e283_23, e283_26, e283_27, e283_28, e283_29, e283_32, e283_35, e283_38, e283_41, e283_42, e283_43, e283_44, e283_47, e283_50, e283_51, e283_52, e283_53, e283_56, e283_59, e283_60, e283_63, e283_64, psh0, psh1, psh3, true_or, or_true, eq_self, Option.bind_some, List.length_nil, List.length_cons, Nat.reduceAdd, Nat.reduceLeDiff, Nat.zero_le, ↓reduceIte, Int.reduceLT, Int.reduceEq, Int.reduceLE, Int.reduceNeg, Int.reduceAdd, Int.reduceMul, Int.reduceSub, ne_eq, not_true_eq_false, not_false_eq_true, and_true, true_and, and_false, false_and, c3lt, c3gt, c3eq, Bool.false_eq_true, isK_wr, inA_wr, inR_wr, hm.1, ga, gb, c1, c3', c4']
      · rw [if_neg (by omega)]
        simp only [e283_0, e283_1, e283_3, e283_4, e283_5, e283_8, e283_11, e283_12, e283_13, e283_14, e283_17, e283_20, e283_21, e283_22, e283_23, e283_26, e283_27, e283_28, e283_29, e283_32, e283_35, e283_38, e283_41, e283_42, e283_43, e283_44, e283_47, e283_50, e283_51, e283_52, e283_53, e283_56, e283_59, e283_60, e283_63, e283_64, psh0, psh1, psh3, true_or, or_true, eq_self, Option.bind_some, List.length_nil, List.length_cons, Nat.reduceAdd, Nat.reduceLeDiff, Nat.zero_le, ↓reduceIte, Int.reduceLT, Int.reduceEq, Int.reduceLE, Int.reduceNeg, Int.reduceAdd, Int.reduceMul, Int.reduceSub, ne_eq, not_true_eq_false, not_false_eq_true, and_true, true_and, and_false, false_and, c3lt, c3gt, c3eq, Bool.false_eq_true, isK_wr, inA_wr, inR_wr, hm.1, ga, gb, c1, c3', c4]
  | succ n ih =>
    intro i hi
    have c1 : (i : Int) < mrd h 240 (76 + a) := by split at hM <;> omega
    have c2 : (i : Int) < mrd h 240 (76 + b) := by split at hM <;> omega
    have w1 : w32 ((i : Int) + 1) = ((i + 1 : Nat) : Int) := by rw [w32_id (by omega) (by omega)]; omega
    have g1 := m_letter (d := d) (p := i) hm ha (by omega) (by omega)
    have g2 := m_letter (d := d) (p := i) hm hb (by omega) (by omega)
    have c3 : ¬ (i : Int) = mrd h 240 (76 + a) := by omega
    rw [e283_2, fI]
    by_cases he : LT h a i = LT h b i
    · rw [if_neg (show ¬ decide (¬ LT h a i = LT h b i) = true by simpa using he)]
      simp only [e283_0, e283_1, e283_3, e283_4, e283_5, e283_8, e283_11, e283_12, e283_13, e283_14, e283_17, e283_20, e283_21, e283_22, e283_23, e283_26, e283_27, e283_28, e283_29, e283_32, e283_35, e283_38, e283_41, e283_42, e283_43, e283_44, e283_47, e283_50, e283_51, e283_52, e283_53, e283_56, e283_59, e283_60, e283_63, e283_64, psh0, psh1, psh3, true_or, or_true, eq_self, Option.bind_some, List.length_nil, List.length_cons, Nat.reduceAdd, Nat.reduceLeDiff, Nat.zero_le, ↓reduceIte, Int.reduceLT, Int.reduceEq, Int.reduceLE, Int.reduceNeg, Int.reduceAdd, Int.reduceMul, Int.reduceSub, ne_eq, not_true_eq_false, not_false_eq_true, and_true, true_and, and_false, false_and, c3lt, c3gt, c3eq, Bool.false_eq_true, isK_wr, inA_wr, inR_wr, hm.1, ga, gb, c1, c2, g1, g2, he, w1]
      exact ih (i + 1) (by omega)
    · rw [if_pos (show decide (¬ LT h a i = LT h b i) = true from decide_eq_true he), if_neg (show ¬ (i = M ∧ _) by omega)]
      simp only [e283_0, e283_1, e283_3, e283_4, e283_5, e283_8, e283_11, e283_12, e283_13, e283_14, e283_17, e283_20, e283_21, e283_22, e283_23, e283_26, e283_27, e283_28, e283_29, e283_32, e283_35, e283_38, e283_41, e283_42, e283_43, e283_44, e283_47, e283_50, e283_51, e283_52, e283_53, e283_56, e283_59, e283_60, e283_63, e283_64, psh0, psh1, psh3, true_or, or_true, eq_self, Option.bind_some, List.length_nil, List.length_cons, Nat.reduceAdd, Nat.reduceLeDiff, Nat.zero_le, ↓reduceIte, Int.reduceLT, Int.reduceEq, Int.reduceLE, Int.reduceNeg, Int.reduceAdd, Int.reduceMul, Int.reduceSub, ne_eq, not_true_eq_false, not_false_eq_true, and_true, true_and, and_false, false_and, c3lt, c3gt, c3eq, Bool.false_eq_true, isK_wr, inA_wr, inR_wr, hm.1, ga, gb, c1, c2, g1, g2, he, c3]
end

/-! where a name stumbles -/
def stF (v : Nat → Int) (so : Int) : Nat → Nat → Int → Int
  | 0, _, _ => -1
  | n + 1, i, run => if so < (if 0 < i ∧ v i = v (i - 1) then run + 1 else 1) then (i : Int) else stF v so n (i + 1) (if 0 < i ∧ v i = v (i - 1) then run + 1 else 1)
theorem stF_congr {v v' : Nat → Int} {so : Int} : ∀ (n i : Nat) (run : Int), (∀ j, j < i + n → v j = v' j) → stF v so n i run = stF v' so n i run
  | 0, _, _, _ => rfl
  | n + 1, i, run, h => by
    rw [stF, stF, h i (by omega), h (i - 1) (by omega), stF_congr n (i + 1) _ (fun j hj => h j (by omega))]
theorem stF_rng {v : Nat → Int} {so : Int} : ∀ (n i : Nat) (run : Int), -1 ≤ stF v so n i run ∧ stF v so n i run < i + n ∧ (stF v so n i run < 0 → stF v so n i run = -1)
  | 0, i, _ => by rw [stF]; omega
  | n + 1, i, run => by
    rw [stF]
    have := stF_rng (v := v) (so := so) n (i + 1) (if 0 < i ∧ v i = v (i - 1) then run + 1 else 1)
    generalize (if 0 < i ∧ v i = v (i - 1) then run + 1 else 1) = r at this
    split <;> omega
def stL (so : Int) (l : List Int) : Int := stF (fun p => vow (l.getD p 0)) so l.length 0 0
def sdL (so : Int) (l : List Int) : Prop := 0 < l.length ∧ stL so l = -1
noncomputable def sdB (so : Int) (l : List Int) : Int := if 0 < l.length ∧ stL so l = -1 then 1 else 0
theorem sdB_01 (so : Int) (l : List Int) : sdB so l = 0 ∨ sdB so l = 1 := by unfold sdB; split <;> simp
theorem vow_01 (x : Int) : vow x = 0 ∨ vow x = 1 := by unfold vow; split <;> simp
section
variable {d : Nat} {h g : AM} {s a b c k p v w x y z : Int}
theorem x_stumble_loop (k7 : isK h (s + 4) 9) (r4 : mrd h (s + 4) 0 = s + 5) (k8 : isK h (s + 5) 18) (k9 : mln h (s + 5) = 12) (N : Nat) (hN : mrd h (s + 4) 1 = N) (N12 : N ≤ 12) (n : Nat) : ∀ (i : Nat) (run : Int), i + n = N → 0 ≤ run → run ≤ i → EV d 101 4 [(2, s + 4), (0, x), (0, run), (0, (i : Int))] [] h = some ((0, stF (fun p => mrd h (s + 5) p) x n i run), h) := by
  induction n with
  | zero =>
    intro i run hi _ _
    have e : i = N := by omega
    subst e
    rw [e101_4, stF]
    simp only [e101_0, e101_1, e101_2, e101_3, e101_5, e101_6, e101_9, e101_12, e101_13, e101_16, e101_17, e101_20, e101_21, e101_21z, e101_22, e101_23, e101_26, e101_27, e101_28, e101_29, e101_29z, e101_30, e101_33, e101_34, e101_35, e101_36, e101_39, e101_40, e101_41, e101_42, e101_43, e101_46, e101_47, e101_48, e101_51, e101_54, e101_55, psh0, psh1, psh3, true_or, or_true, eq_self, Option.bind_some, List.length_nil, List.length_cons, Nat.reduceAdd, Nat.reduceLeDiff, Nat.zero_le, ↓reduceIte, Int.reduceLT, Int.reduceEq, Int.reduceLE, Int.reduceNeg, Int.reduceAdd, Int.reduceMul, Int.reduceSub, ne_eq, not_true_eq_false, not_false_eq_true, and_true, true_and, and_false, false_and, c3lt, c3gt, c3eq, Bool.false_eq_true, isK_wr, inA_wr, inR_wr, k7, hN, Int.lt_irrefl]
  | succ n ih =>
    intro i run hi r0 r1
    have ci : (i : Int) < N := by omega
    have w1 : w32 ((i : Int) + 1) = ((i + 1 : Nat) : Int) := by rw [w32_id (by omega) (by omega)]; omega
    have w2 : w32 (run + 1) = run + 1 := w32_id (by omega) (by omega)
    have i1 : inA h (s + 5) 18 i := ⟨k8, by omega, by rw [k9]; omega⟩
    rw [e101_4, stF]
    by_cases c0 : 0 < i
    · have c0' : (0 : Int) < (i : Int) := by omega
      have w3 : w32 ((i : Int) - 1) = ((i - 1 : Nat) : Int) := by rw [w32_id (by omega) (by omega)]; omega
      have i2 : inA h (s + 5) 18 ((i - 1 : Nat) : Int) := ⟨k8, by omega, by rw [k9]; omega⟩
      by_cases ce : mrd h (s + 5) i = mrd h (s + 5) ((i - 1 : Nat) : Int)
      · simp only [c0, ce, true_and, and_self, if_true]
        by_cases cs : x < run + 1
        · simp only [e101_0, e101_1, e101_2, e101_3, e101_5, e101_6, e101_9, e101_12, e101_13, e101_16, e101_17, e101_20, e101_21, e101_21z, e101_22, e101_23, e101_26, e101_27, e101_28, e101_29, e101_29z, e101_30, e101_33, e101_34, e101_35, e101_36, e101_39, e101_40, e101_41, e101_42, e101_43, e101_46, e101_47, e101_48, e101_51, e101_54, e101_55, psh0, psh1, psh3, true_or, or_true, eq_self, Option.bind_some, List.length_nil, List.length_cons, Nat.reduceAdd, Nat.reduceLeDiff, Nat.zero_le, ↓reduceIte, Int.reduceLT, Int.reduceEq, Int.reduceLE, Int.reduceNeg, Int.reduceAdd, Int.reduceMul, Int.reduceSub, ne_eq, not_true_eq_false, not_false_eq_true, and_true, true_and, and_false, false_and, c3lt, c3gt, c3eq, Bool.false_eq_true, isK_wr, inA_wr, inR_wr, k7, hN, ci, c0', r4, i1, i2, w2, w3, ce, cs]
        · have := ih (i + 1) (run + 1) (by omega) (by omega) (by omega)
          simp only [e101_0, e101_1, e101_2, e101_3, e101_5, e101_6, e101_9, e101_12, e101_13, e101_16, e101_17, e101_20, e101_21, e101_21z, e101_22, e101_23, e101_26, e101_27, e101_28, e101_29, e101_29z, e101_30, e101_33, e101_34, e101_35, e101_36, e101_39, e101_40, e101_41, e101_42, e101_43, e101_46, e101_47, e101_48, e101_51, e101_54, e101_55, psh0, psh1, psh3, true_or, or_true, eq_self, Option.bind_some, List.length_nil, List.length_cons, Nat.reduceAdd, Nat.reduceLeDiff, Nat.zero_le, ↓reduceIte, Int.reduceLT, Int.reduceEq, Int.reduceLE, Int.reduceNeg, Int.reduceAdd, Int.reduceMul, Int.reduceSub, ne_eq, not_true_eq_false, not_false_eq_true, and_true, true_and, and_false, false_and, c3lt, c3gt, c3eq, Bool.false_eq_true, isK_wr, inA_wr, inR_wr, k7, hN, ci, c0', r4, i1, i2, w1, w2, w3, ce, cs]
          exact this
      · simp only [c0, ce, and_false, if_false]
        by_cases cs : x < 1
        · simp only [e101_0, e101_1, e101_2, e101_3, e101_5, e101_6, e101_9, e101_12, e101_13, e101_16, e101_17, e101_20, e101_21, e101_21z, e101_22, e101_23, e101_26, e101_27, e101_28, e101_29, e101_29z, e101_30, e101_33, e101_34, e101_35, e101_36, e101_39, e101_40, e101_41, e101_42, e101_43, e101_46, e101_47, e101_48, e101_51, e101_54, e101_55, psh0, psh1, psh3, true_or, or_true, eq_self, Option.bind_some, List.length_nil, List.length_cons, Nat.reduceAdd, Nat.reduceLeDiff, Nat.zero_le, ↓reduceIte, Int.reduceLT, Int.reduceEq, Int.reduceLE, Int.reduceNeg, Int.reduceAdd, Int.reduceMul, Int.reduceSub, ne_eq, not_true_eq_false, not_false_eq_true, and_true, true_and, and_false, false_and, c3lt, c3gt, c3eq, Bool.false_eq_true, isK_wr, inA_wr, inR_wr, k7, hN, ci, c0', r4, i1, i2, w3, ce, cs]
        · have := ih (i + 1) 1 (by omega) (by omega) (by omega)
          simp only [e101_0, e101_1, e101_2, e101_3, e101_5, e101_6, e101_9, e101_12, e101_13, e101_16, e101_17, e101_20, e101_21, e101_21z, e101_22, e101_23, e101_26, e101_27, e101_28, e101_29, e101_29z, e101_30, e101_33, e101_34, e101_35, e101_36, e101_39, e101_40, e101_41, e101_42, e101_43, e101_46, e101_47, e101_48, e101_51, e101_54, e101_55, psh0, psh1, psh3, true_or, or_true, eq_self, Option.bind_some, List.length_nil, List.length_cons, Nat.reduceAdd, Nat.reduceLeDiff, Nat.zero_le, ↓reduceIte, Int.reduceLT, Int.reduceEq, Int.reduceLE, Int.reduceNeg, Int.reduceAdd, Int.reduceMul, Int.reduceSub, ne_eq, not_true_eq_false, not_false_eq_true, and_true, true_and, and_false, false_and, c3lt, c3gt, c3eq, Bool.false_eq_true, isK_wr, inA_wr, inR_wr, k7, hN, ci, c0', r4, i1, i2, w1, w3, ce, cs]
          exact this
    · have c0' : ¬ (0 : Int) < (i : Int) := by omega
      simp only [c0, false_and, if_false]
      by_cases cs : x < 1
      · simp only [e101_0, e101_1, e101_2, e101_3, e101_5, e101_6, e101_9, e101_12, e101_13, e101_16, e101_17, e101_20, e101_21, e101_21z, e101_22, e101_23, e101_26, e101_27, e101_28, e101_29, e101_29z, e101_30, e101_33, e101_34, e101_35, e101_36, e101_39, e101_40, e101_41, e101_42, e101_43, e101_46, e101_47, e101_48, e101_51, e101_54, e101_55, psh0, psh1, psh3, true_or, or_true, eq_self, Option.bind_some, List.length_nil, List.length_cons, Nat.reduceAdd, Nat.reduceLeDiff, Nat.zero_le, ↓reduceIte, Int.reduceLT, Int.reduceEq, Int.reduceLE, Int.reduceNeg, Int.reduceAdd, Int.reduceMul, Int.reduceSub, ne_eq, not_true_eq_false, not_false_eq_true, and_true, true_and, and_false, false_and, c3lt, c3gt, c3eq, Bool.false_eq_true, isK_wr, inA_wr, inR_wr, k7, hN, ci, c0', cs]
      · have := ih (i + 1) 1 (by omega) (by omega) (by omega)
        simp only [e101_0, e101_1, e101_2, e101_3, e101_5, e101_6, e101_9, e101_12, e101_13, e101_16, e101_17, e101_20, e101_21, e101_21z, e101_22, e101_23, e101_26, e101_27, e101_28, e101_29, e101_29z, e101_30, e101_33, e101_34, e101_35, e101_36, e101_39, e101_40, e101_41, e101_42, e101_43, e101_46, e101_47, e101_48, e101_51, e101_54, e101_55, psh0, psh1, psh3, true_or, or_true, eq_self, Option.bind_some, List.length_nil, List.length_cons, Nat.reduceAdd, Nat.reduceLeDiff, Nat.zero_le, ↓reduceIte, Int.reduceLT, Int.reduceEq, Int.reduceLE, Int.reduceNeg, Int.reduceAdd, Int.reduceMul, Int.reduceSub, ne_eq, not_true_eq_false, not_false_eq_true, and_true, true_and, and_false, false_and, c3lt, c3gt, c3eq, Bool.false_eq_true, isK_wr, inA_wr, inR_wr, k7, hN, ci, c0', w1, cs]
        exact this
theorem x_stumble {h0 : AM} {l : List Int} (hs0 : CS h0 s) (hsp : SpX h0 h s l) (l12 : l.length ≤ 12) : EV d 101 0 [(2, s + 4), (0, x), (3, 0), (3, 0)] [] h = some ((0, stL x l), h) := by
  obtain ⟨ks, -, r1, r2, r3, r4, -, -, k7, k8, k9, kl, kc⟩ := CS_cong hsp.1 hsp.2.1 hs0
  simp only [e101_0, e101_1, e101_2, e101_3, e101_5, e101_6, e101_9, e101_12, e101_13, e101_16, e101_17, e101_20, e101_21, e101_21z, e101_22, e101_23, e101_26, e101_27, e101_28, e101_29, e101_29z, e101_30, e101_33, e101_34, e101_35, e101_36, e101_39, e101_40, e101_41, e101_42, e101_43, e101_46, e101_47, e101_48, e101_51, e101_54, e101_55, psh0, psh1, psh3, true_or, or_true, eq_self, Option.bind_some, List.length_nil, List.length_cons, Nat.reduceAdd, Nat.reduceLeDiff, Nat.zero_le, ↓reduceIte, Int.reduceLT, Int.reduceEq, Int.reduceLE, Int.reduceNeg, Int.reduceAdd, Int.reduceMul, Int.reduceSub, ne_eq, not_true_eq_false, not_false_eq_true, and_true, true_and, and_false, false_and, c3lt, c3gt, c3eq, Bool.false_eq_true, isK_wr, inA_wr, inR_wr]
  refine (x_stumble_loop (d := d) k7 r4 k8 k9 l.length hsp.2.2.1 l12 l.length 0 0 (by omega) (by omega) (by omega)).trans ?_
  unfold stL
  rw [stF_congr _ _ _ (fun j hj => hsp.2.2.2 j (by omega))]
theorem x_isSaid {h0 : AM} (hs0 : CS h0 s) (k0 : 0 ≤ k) (k1 : k < 4) (N : Nat) (hN : mrd h0 (s + 25 + 2 * k) 6 = N) (N12 : N ≤ 12) (hl : ∀ p : Nat, p < N → 0 ≤ mrd h0 (s + 26 + 2 * k) p ∧ mrd h0 (s + 26 + 2 * k) p < 12 ∧ mrd h0 (s + 13 + mrd h0 (s + 26 + 2 * k) p) 2 = vow (mrd h0 (s + 13 + mrd h0 (s + 26 + 2 * k) p) 1)) : ∃ h', EV (d + 1) 74 0 [(2, s), (2, s + 25 + 2 * k), (0, w)] [] h0 = some ((0, sdB (mrd h0 s 8) (kp (fun p => decide ((p : Int) = w)) (fun p => mrd h0 (s + 13 + mrd h0 (s + 26 + 2 * k) p) 1) N)), h') ∧ SpX h0 h' s (kp (fun p => decide ((p : Int) = w)) (fun p => mrd h0 (s + 13 + mrd h0 (s + 26 + 2 * k) p) 1) N) := by
  obtain ⟨h', g1, g2⟩ := x_spell (d := d) (w := w) hs0 k0 k1 N hN N12 hl
  have hlen := kp_len (fun p => decide ((p : Int) = w)) (fun p => mrd h0 (s + 13 + mrd h0 (s + 26 + 2 * k) p) 1) N
  refine ⟨h', ?_, g2⟩
  generalize kp (fun p => decide ((p : Int) = w)) (fun p => mrd h0 (s + 13 + mrd h0 (s + 26 + 2 * k) p) 1) N = l at g2 hlen
  have g3 := x_stumble (d := d) (x := mrd h0 s 8) hs0 g2 (by omega)
  obtain ⟨ks, -, r1, r2, r3, r4, -, -, k7, k8, k9, kl, kc⟩ := CS_cong g2.1 g2.2.1 hs0
  have ks0 := hs0.1
  have r30 := hs0.2.2.2.2.1
  have k70 := hs0.2.2.2.2.2.2.2.2.1
  have e8 : mrd h' s 8 = mrd h0 s 8 := g2.2.1 _ _ (by omega) (by omega)
  have e1 := g2.2.2.1
  unfold sdB
  by_cases c : 0 < l.length
  · have c' : (0 : Int) < (l.length : Int) := by omega
    by_cases c2 : stL (mrd h0 s 8) l = -1
    · rw [if_pos ⟨c, c2⟩]
      simp only [e74_0, e74_1, e74_4, e74_5, e74_6, e74_7, e74_10, e74_11, e74_14, e74_17, e74_20, e74_21, e74_24, e74_25, e74_28, e74_31, e74_32, e74_35, e74_36, e74_39, e74_40, psh0, psh1, psh3, true_or, or_true, eq_self, Option.bind_some, List.length_nil, List.length_cons, Nat.reduceAdd, Nat.reduceLeDiff, Nat.zero_le, ↓reduceIte, Int.reduceLT, Int.reduceEq, Int.reduceLE, Int.reduceNeg, Int.reduceAdd, Int.reduceMul, Int.reduceSub, ne_eq, not_true_eq_false, not_false_eq_true, and_true, true_and, and_false, false_and, c3lt, c3gt, c3eq, Bool.false_eq_true, isK_wr, inA_wr, inR_wr, ks0, r30, k70, g1, ks, r3, k7, e1, c', e8, g3, c2]
    · rw [if_neg (fun z => c2 z.2)]
      simp only [e74_0, e74_1, e74_4, e74_5, e74_6, e74_7, e74_10, e74_11, e74_14, e74_17, e74_20, e74_21, e74_24, e74_25, e74_28, e74_31, e74_32, e74_35, e74_36, e74_39, e74_40, psh0, psh1, psh3, true_or, or_true, eq_self, Option.bind_some, List.length_nil, List.length_cons, Nat.reduceAdd, Nat.reduceLeDiff, Nat.zero_le, ↓reduceIte, Int.reduceLT, Int.reduceEq, Int.reduceLE, Int.reduceNeg, Int.reduceAdd, Int.reduceMul, Int.reduceSub, ne_eq, not_true_eq_false, not_false_eq_true, and_true, true_and, and_false, false_and, c3lt, c3gt, c3eq, Bool.false_eq_true, isK_wr, inA_wr, inR_wr, ks0, r30, k70, g1, ks, r3, k7, e1, c', e8, g3, c2]
  · have c' : ¬ (0 : Int) < (l.length : Int) := by omega
    rw [if_neg (fun z => c z.1)]
    simp only [e74_0, e74_1, e74_4, e74_5, e74_6, e74_7, e74_10, e74_11, e74_14, e74_17, e74_20, e74_21, e74_24, e74_25, e74_28, e74_31, e74_32, e74_35, e74_36, e74_39, e74_40, psh0, psh1, psh3, true_or, or_true, eq_self, Option.bind_some, List.length_nil, List.length_cons, Nat.reduceAdd, Nat.reduceLeDiff, Nat.zero_le, ↓reduceIte, Int.reduceLT, Int.reduceEq, Int.reduceLE, Int.reduceNeg, Int.reduceAdd, Int.reduceMul, Int.reduceSub, ne_eq, not_true_eq_false, not_false_eq_true, and_true, true_and, and_false, false_and, c3lt, c3gt, c3eq, Bool.false_eq_true, isK_wr, inA_wr, inR_wr, ks0, r30, k70, g1, ks, r3, k7, e1, c']
theorem m_isVowel : EV d 267 0 [(0, x)] [] h = some ((0, vow x), h) := by
  unfold vow
  by_cases c1 : x = 1
  · subst c1; simp only [e267_0, e267_1, e267_2, e267_5, e267_6, e267_7, e267_10, e267_11, e267_13, e267_16, e267_17, e267_19, e267_22, e267_23, e267_25, e267_28, e267_29, e267_32, e267_33, psh0, psh1, psh3, true_or, or_true, eq_self, Option.bind_some, List.length_nil, List.length_cons, Nat.reduceAdd, Nat.reduceLeDiff, Nat.zero_le, ↓reduceIte, Int.reduceLT, Int.reduceEq, Int.reduceLE, Int.reduceNeg, Int.reduceAdd, Int.reduceMul, Int.reduceSub, ne_eq, not_true_eq_false, not_false_eq_true, and_true, true_and, and_false, false_and, c3lt, c3gt, c3eq, Bool.false_eq_true, isK_wr, inA_wr, inR_wr]
  by_cases c2 : x = 5
  · subst c2; simp only [e267_0, e267_1, e267_2, e267_5, e267_6, e267_7, e267_10, e267_11, e267_13, e267_16, e267_17, e267_19, e267_22, e267_23, e267_25, e267_28, e267_29, e267_32, e267_33, psh0, psh1, psh3, true_or, or_true, eq_self, Option.bind_some, List.length_nil, List.length_cons, Nat.reduceAdd, Nat.reduceLeDiff, Nat.zero_le, ↓reduceIte, Int.reduceLT, Int.reduceEq, Int.reduceLE, Int.reduceNeg, Int.reduceAdd, Int.reduceMul, Int.reduceSub, ne_eq, not_true_eq_false, not_false_eq_true, and_true, true_and, and_false, false_and, c3lt, c3gt, c3eq, Bool.false_eq_true, isK_wr, inA_wr, inR_wr]
  by_cases c3 : x = 9
  · subst c3; simp only [e267_0, e267_1, e267_2, e267_5, e267_6, e267_7, e267_10, e267_11, e267_13, e267_16, e267_17, e267_19, e267_22, e267_23, e267_25, e267_28, e267_29, e267_32, e267_33, psh0, psh1, psh3, true_or, or_true, eq_self, Option.bind_some, List.length_nil, List.length_cons, Nat.reduceAdd, Nat.reduceLeDiff, Nat.zero_le, ↓reduceIte, Int.reduceLT, Int.reduceEq, Int.reduceLE, Int.reduceNeg, Int.reduceAdd, Int.reduceMul, Int.reduceSub, ne_eq, not_true_eq_false, not_false_eq_true, and_true, true_and, and_false, false_and, c3lt, c3gt, c3eq, Bool.false_eq_true, isK_wr, inA_wr, inR_wr]
  by_cases c4 : x = 15
  · subst c4; simp only [e267_0, e267_1, e267_2, e267_5, e267_6, e267_7, e267_10, e267_11, e267_13, e267_16, e267_17, e267_19, e267_22, e267_23, e267_25, e267_28, e267_29, e267_32, e267_33, psh0, psh1, psh3, true_or, or_true, eq_self, Option.bind_some, List.length_nil, List.length_cons, Nat.reduceAdd, Nat.reduceLeDiff, Nat.zero_le, ↓reduceIte, Int.reduceLT, Int.reduceEq, Int.reduceLE, Int.reduceNeg, Int.reduceAdd, Int.reduceMul, Int.reduceSub, ne_eq, not_true_eq_false, not_false_eq_true, and_true, true_and, and_false, false_and, c3lt, c3gt, c3eq, Bool.false_eq_true, isK_wr, inA_wr, inR_wr]
  by_cases c5 : x = 21
  · subst c5; simp only [e267_0, e267_1, e267_2, e267_5, e267_6, e267_7, e267_10, e267_11, e267_13, e267_16, e267_17, e267_19, e267_22, e267_23, e267_25, e267_28, e267_29, e267_32, e267_33, psh0, psh1, psh3, true_or, or_true, eq_self, Option.bind_some, List.length_nil, List.length_cons, Nat.reduceAdd, Nat.reduceLeDiff, Nat.zero_le, ↓reduceIte, Int.reduceLT, Int.reduceEq, Int.reduceLE, Int.reduceNeg, Int.reduceAdd, Int.reduceMul, Int.reduceSub, ne_eq, not_true_eq_false, not_false_eq_true, and_true, true_and, and_false, false_and, c3lt, c3gt, c3eq, Bool.false_eq_true, isK_wr, inA_wr, inR_wr]
  · simp only [e267_0, e267_1, e267_2, e267_5, e267_6, e267_7, e267_10, e267_11, e267_13, e267_16, e267_17, e267_19, e267_22, e267_23, e267_25, e267_28, e267_29, e267_32, e267_33, psh0, psh1, psh3, true_or, or_true, eq_self, Option.bind_some, List.length_nil, List.length_cons, Nat.reduceAdd, Nat.reduceLeDiff, Nat.zero_le, ↓reduceIte, Int.reduceLT, Int.reduceEq, Int.reduceLE, Int.reduceNeg, Int.reduceAdd, Int.reduceMul, Int.reduceSub, ne_eq, not_true_eq_false, not_false_eq_true, and_true, true_and, and_false, false_and, c3lt, c3gt, c3eq, Bool.false_eq_true, isK_wr, inA_wr, inR_wr, c1, c2, c3, c4, c5, or_self]
theorem m_stumble_loop (hm : CM h) (N : Nat) (hN : mrd h 235 27 = N) (N13 : N ≤ 13) (n : Nat) : ∀ (i : Nat) (run : Int), i + n = N → 0 ≤ run → run ≤ i → EV (d + 1) 268 4 [(2, 235), (0, run), (0, (i : Int))] [] h = some ((0, stF (fun p => vow (mrd h 243 p)) (mrd h 240 3) n i run), h) := by
  have m26 : mrd h 235 26 = 243 := rf_235_26 hm.2.2
  have k8 := kn_243 hm.2.1
  have k9 := ln_243 hm.2.1
  have j3 := inC hm (j := 3) (by decide) (by decide)
  induction n with
  | zero =>
    intro i run hi _ _
    have e : i = N := by omega
    subst e
    rw [e268_4, stF]
    simp only [e268_0, e268_1, e268_2, e268_3, e268_5, e268_6, e268_9, e268_12, e268_13, e268_16, e268_17, e268_20, e268_21, e268_22, e268_25, e268_26, e268_29, e268_30, e268_31, e268_32, e268_33, e268_36, e268_39, e268_40, e268_41, e268_42, e268_45, e268_46, e268_47, e268_48, e268_49, e268_52, e268_53, e268_54, e268_57, e268_58, e268_59, e268_62, e268_65, e268_66, psh0, psh1, psh3, true_or, or_true, eq_self, Option.bind_some, List.length_nil, List.length_cons, Nat.reduceAdd, Nat.reduceLeDiff, Nat.zero_le, ↓reduceIte, Int.reduceLT, Int.reduceEq, Int.reduceLE, Int.reduceNeg, Int.reduceAdd, Int.reduceMul, Int.reduceSub, ne_eq, not_true_eq_false, not_false_eq_true, and_true, true_and, and_false, false_and, c3lt, c3gt, c3eq, Bool.false_eq_true, isK_wr, inA_wr, inR_wr, hm.1, hN, Int.lt_irrefl]
  | succ n ih =>
    intro i run hi r0 r1
    have ci : (i : Int) < N := by omega
    have w1 : w32 ((i : Int) + 1) = ((i + 1 : Nat) : Int) := by rw [w32_id (by omega) (by omega)]; omega
    have w2 : w32 (run + 1) = run + 1 := w32_id (by omega) (by omega)
    have i1 : inA h 243 16 i := ⟨k8, by omega, by rw [k9]; omega⟩
    rw [e268_4, stF]
    by_cases c0 : 0 < i
    · have c0' : (0 : Int) < (i : Int) := by omega
      have w3 : w32 ((i : Int) - 1) = ((i - 1 : Nat) : Int) := by rw [w32_id (by omega) (by omega)]; omega
      have i2 : inA h 243 16 ((i - 1 : Nat) : Int) := ⟨k8, by omega, by rw [k9]; omega⟩
      by_cases ce : vow (mrd h 243 i) = vow (mrd h 243 ((i - 1 : Nat) : Int))
      · simp only [c0, ce, true_and, and_self, if_true]
        by_cases cs : mrd h 240 3 < run + 1
        · simp only [e268_0, e268_1, e268_2, e268_3, e268_5, e268_6, e268_9, e268_12, e268_13, e268_16, e268_17, e268_20, e268_21, e268_22, e268_25, e268_26, e268_29, e268_30, e268_31, e268_32, e268_33, e268_36, e268_39, e268_40, e268_41, e268_42, e268_45, e268_46, e268_47, e268_48, e268_49, e268_52, e268_53, e268_54, e268_57, e268_58, e268_59, e268_62, e268_65, e268_66, psh0, psh1, psh3, true_or, or_true, eq_self, Option.bind_some, List.length_nil, List.length_cons, Nat.reduceAdd, Nat.reduceLeDiff, Nat.zero_le, ↓reduceIte, Int.reduceLT, Int.reduceEq, Int.reduceLE, Int.reduceNeg, Int.reduceAdd, Int.reduceMul, Int.reduceSub, ne_eq, not_true_eq_false, not_false_eq_true, and_true, true_and, and_false, false_and, c3lt, c3gt, c3eq, Bool.false_eq_true, isK_wr, inA_wr, inR_wr, hm.1, mC hm, j3, hN, ci, c0', m26, i1, i2, m_isVowel, w2, w3, ce, cs]
        · have := ih (i + 1) (run + 1) (by omega) (by omega) (by omega)
          simp only [e268_0, e268_1, e268_2, e268_3, e268_5, e268_6, e268_9, e268_12, e268_13, e268_16, e268_17, e268_20, e268_21, e268_22, e268_25, e268_26, e268_29, e268_30, e268_31, e268_32, e268_33, e268_36, e268_39, e268_40, e268_41, e268_42, e268_45, e268_46, e268_47, e268_48, e268_49, e268_52, e268_53, e268_54, e268_57, e268_58, e268_59, e268_62, e268_65, e268_66, psh0, psh1, psh3, true_or, or_true, eq_self, Option.bind_some, List.length_nil, List.length_cons, Nat.reduceAdd, Nat.reduceLeDiff, Nat.zero_le, ↓reduceIte, Int.reduceLT, Int.reduceEq, Int.reduceLE, Int.reduceNeg, Int.reduceAdd, Int.reduceMul, Int.reduceSub, ne_eq, not_true_eq_false, not_false_eq_true, and_true, true_and, and_false, false_and, c3lt, c3gt, c3eq, Bool.false_eq_true, isK_wr, inA_wr, inR_wr, hm.1, mC hm, j3, hN, ci, c0', m26, i1, i2, m_isVowel, w1, w2, w3, ce, cs]
          exact this
      · simp only [c0, ce, and_false, if_false]
        by_cases cs : mrd h 240 3 < 1
        · simp only [e268_0, e268_1, e268_2, e268_3, e268_5, e268_6, e268_9, e268_12, e268_13, e268_16, e268_17, e268_20, e268_21, e268_22, e268_25, e268_26, e268_29, e268_30, e268_31, e268_32, e268_33, e268_36, e268_39, e268_40, e268_41, e268_42, e268_45, e268_46, e268_47, e268_48, e268_49, e268_52, e268_53, e268_54, e268_57, e268_58, e268_59, e268_62, e268_65, e268_66, psh0, psh1, psh3, true_or, or_true, eq_self, Option.bind_some, List.length_nil, List.length_cons, Nat.reduceAdd, Nat.reduceLeDiff, Nat.zero_le, ↓reduceIte, Int.reduceLT, Int.reduceEq, Int.reduceLE, Int.reduceNeg, Int.reduceAdd, Int.reduceMul, Int.reduceSub, ne_eq, not_true_eq_false, not_false_eq_true, and_true, true_and, and_false, false_and, c3lt, c3gt, c3eq, Bool.false_eq_true, isK_wr, inA_wr, inR_wr, hm.1, mC hm, j3, hN, ci, c0', m26, i1, i2, m_isVowel, w3, ce, cs]
        · have := ih (i + 1) 1 (by omega) (by omega) (by omega)
          simp only [e268_0, e268_1, e268_2, e268_3, e268_5, e268_6, e268_9, e268_12, e268_13, e268_16, e268_17, e268_20, e268_21, e268_22, e268_25, e268_26, e268_29, e268_30, e268_31, e268_32, e268_33, e268_36, e268_39, e268_40, e268_41, e268_42, e268_45, e268_46, e268_47, e268_48, e268_49, e268_52, e268_53, e268_54, e268_57, e268_58, e268_59, e268_62, e268_65, e268_66, psh0, psh1, psh3, true_or, or_true, eq_self, Option.bind_some, List.length_nil, List.length_cons, Nat.reduceAdd, Nat.reduceLeDiff, Nat.zero_le, ↓reduceIte, Int.reduceLT, Int.reduceEq, Int.reduceLE, Int.reduceNeg, Int.reduceAdd, Int.reduceMul, Int.reduceSub, ne_eq, not_true_eq_false, not_false_eq_true, and_true, true_and, and_false, false_and, c3lt, c3gt, c3eq, Bool.false_eq_true, isK_wr, inA_wr, inR_wr, hm.1, mC hm, j3, hN, ci, c0', m26, i1, i2, m_isVowel, w1, w3, ce, cs]
          exact this
    · have c0' : ¬ (0 : Int) < (i : Int) := by omega
      simp only [c0, false_and, if_false]
      by_cases cs : mrd h 240 3 < 1
      · simp only [e268_0, e268_1, e268_2, e268_3, e268_5, e268_6, e268_9, e268_12, e268_13, e268_16, e268_17, e268_20, e268_21, e268_22, e268_25, e268_26, e268_29, e268_30, e268_31, e268_32, e268_33, e268_36, e268_39, e268_40, e268_41, e268_42, e268_45, e268_46, e268_47, e268_48, e268_49, e268_52, e268_53, e268_54, e268_57, e268_58, e268_59, e268_62, e268_65, e268_66, psh0, psh1, psh3, true_or, or_true, eq_self, Option.bind_some, List.length_nil, List.length_cons, Nat.reduceAdd, Nat.reduceLeDiff, Nat.zero_le, ↓reduceIte, Int.reduceLT, Int.reduceEq, Int.reduceLE, Int.reduceNeg, Int.reduceAdd, Int.reduceMul, Int.reduceSub, ne_eq, not_true_eq_false, not_false_eq_true, and_true, true_and, and_false, false_and, c3lt, c3gt, c3eq, Bool.false_eq_true, isK_wr, inA_wr, inR_wr, hm.1, mC hm, j3, hN, ci, c0', cs]
      · have := ih (i + 1) 1 (by omega) (by omega) (by omega)
        simp only [e268_0, e268_1, e268_2, e268_3, e268_5, e268_6, e268_9, e268_12, e268_13, e268_16, e268_17, e268_20, e268_21, e268_22, e268_25, e268_26, e268_29, e268_30, e268_31, e268_32, e268_33, e268_36, e268_39, e268_40, e268_41, e268_42, e268_45, e268_46, e268_47, e268_48, e268_49, e268_52, e268_53, e268_54, e268_57, e268_58, e268_59, e268_62, e268_65, e268_66, psh0, psh1, psh3, true_or, or_true, eq_self, Option.bind_some, List.length_nil, List.length_cons, Nat.reduceAdd, Nat.reduceLeDiff, Nat.zero_le, ↓reduceIte, Int.reduceLT, Int.reduceEq, Int.reduceLE, Int.reduceNeg, Int.reduceAdd, Int.reduceMul, Int.reduceSub, ne_eq, not_true_eq_false, not_false_eq_true, and_true, true_and, and_false, false_and, c3lt, c3gt, c3eq, Bool.false_eq_true, isK_wr, inA_wr, inR_wr, hm.1, mC hm, j3, hN, ci, c0', w1, cs]
        exact this
theorem m_stumble {l : List Int} (hm : CM h) (e27 : mrd h 235 27 = l.length) (er : ∀ p : Nat, p < l.length → mrd h 243 p = l.getD p 0) (l13 : l.length ≤ 13) : EV (d + 1) 268 0 [(2, 235), (3, 0), (3, 0)] [] h = some ((0, stL (mrd h 240 3) l), h) := by
  simp only [e268_0, e268_1, e268_2, e268_3, e268_5, e268_6, e268_9, e268_12, e268_13, e268_16, e268_17, e268_20, e268_21, e268_22, e268_25, e268_26, e268_29, e268_30, e268_31, e268_32, e268_33, e268_36, e268_39, e268_40, e268_41, e268_42, e268_45, e268_46, e268_47, e268_48, e268_49, e268_52, e268_53, e268_54, e268_57, e268_58, e268_59, e268_62, e268_65, e268_66, psh0, psh1, psh3, true_or, or_true, eq_self, Option.bind_some, List.length_nil, List.length_cons, Nat.reduceAdd, Nat.reduceLeDiff, Nat.zero_le, ↓reduceIte, Int.reduceLT, Int.reduceEq, Int.reduceLE, Int.reduceNeg, Int.reduceAdd, Int.reduceMul, Int.reduceSub, ne_eq, not_true_eq_false, not_false_eq_true, and_true, true_and, and_false, false_and, c3lt, c3gt, c3eq, Bool.false_eq_true, isK_wr, inA_wr, inR_wr]
  refine (m_stumble_loop (d := d) hm l.length e27 l13 l.length 0 0 (by omega) (by omega) (by omega)).trans ?_
  unfold stL
  rw [stF_congr _ _ _ (fun j hj => by rw [er j (by omega)])]
theorem m_isSaid {l : List Int} (hm : CM h) (e27 : mrd h 235 27 = l.length) (er : ∀ p : Nat, p < l.length → mrd h 243 p = l.getD p 0) (l13 : l.length ≤ 13) : EV (d + 2) 269 0 [(2, 235)] [] h = some ((0, sdB (mrd h 240 3) l), h) := by
  have g3 := m_stumble (d := d) hm e27 er l13
  have hr := stF_rng (v := fun p => vow (l.getD p 0)) (so := mrd h 240 3) l.length 0 0
  change _ ≤ stL _ _ ∧ _ at hr
  unfold sdB
  by_cases c : 0 < l.length
  · have c' : (0 : Int) < (l.length : Int) := by omega
    by_cases c2 : stL (mrd h 240 3) l = -1
    · have c3 : stL (mrd h 240 3) l < 0 := by omega
      rw [if_pos ⟨c, c2⟩]
      simp only [e269_0, e269_1, e269_4, e269_7, e269_8, e269_11, e269_14, e269_15, e269_18, e269_19, psh0, psh1, psh3, true_or, or_true, eq_self, Option.bind_some, List.length_nil, List.length_cons, Nat.reduceAdd, Nat.reduceLeDiff, Nat.zero_le, ↓reduceIte, Int.reduceLT, Int.reduceEq, Int.reduceLE, Int.reduceNeg, Int.reduceAdd, Int.reduceMul, Int.reduceSub, ne_eq, not_true_eq_false, not_false_eq_true, and_true, true_and, and_false, false_and, c3lt, c3gt, c3eq, Bool.false_eq_true, isK_wr, inA_wr, inR_wr, hm.1, e27, c', g3, c2]
    · have c3 : ¬ stL (mrd h 240 3) l < 0 := by have := hr.2.2; unfold stL at c2 ⊢; omega
      rw [if_neg (fun z => c2 z.2)]
      simp only [e269_0, e269_1, e269_4, e269_7, e269_8, e269_11, e269_14, e269_15, e269_18, e269_19, psh0, psh1, psh3, true_or, or_true, eq_self, Option.bind_some, List.length_nil, List.length_cons, Nat.reduceAdd, Nat.reduceLeDiff, Nat.zero_le, ↓reduceIte, Int.reduceLT, Int.reduceEq, Int.reduceLE, Int.reduceNeg, Int.reduceAdd, Int.reduceMul, Int.reduceSub, ne_eq, not_true_eq_false, not_false_eq_true, and_true, true_and, and_false, false_and, c3lt, c3gt, c3eq, Bool.false_eq_true, isK_wr, inA_wr, inR_wr, hm.1, e27, c', g3, c3]
  · have c' : ¬ (0 : Int) < (l.length : Int) := by omega
    rw [if_neg (fun z => c z.1)]
    simp only [e269_0, e269_1, e269_4, e269_7, e269_8, e269_11, e269_14, e269_15, e269_18, e269_19, psh0, psh1, psh3, true_or, or_true, eq_self, Option.bind_some, List.length_nil, List.length_cons, Nat.reduceAdd, Nat.reduceLeDiff, Nat.zero_le, ↓reduceIte, Int.reduceLT, Int.reduceEq, Int.reduceLE, Int.reduceNeg, Int.reduceAdd, Int.reduceMul, Int.reduceSub, ne_eq, not_true_eq_false, not_false_eq_true, and_true, true_and, and_false, false_and, c3lt, c3gt, c3eq, Bool.false_eq_true, isK_wr, inA_wr, inR_wr, hm.1, e27, c']
theorem CM_spm {l : List Int} {g g' : AM} (hm : CM g) (hsp : SpM g g' l) : CM g' := by
  refine ⟨?_, ?_, fun q hq => ?_⟩
  · have := hm.1
    unfold isK mnx mkn at this ⊢
    rw [hsp.1]; exact this
  · have hS := hm.2.1
    unfold Shp mnx at hS ⊢
    rw [hsp.1]; exact hS
  · have hn : ∀ q ∈ refT, q.1 ≠ 243 ∧ ¬ (q.1 = 235 ∧ q.2.1 = 27) := by decide +kernel
    exact (hsp.2.1 _ _ (hn q hq).1 (hn q hq).2).trans (hm.2.2 q hq)
theorem m_layName_loop {g : AM} (hm : CM g) (hc : MC g k) (N : Nat) (hN : mrd g 240 (76 + k) = N) (n : Nat) : ∀ (i : Nat) (h : AM), i + n = N → SpM g h (kp (fun p => bI x p) (fun p => LT g k p) i) → ∃ h', EV (d + 2) 270 7 [(2, 235), (0, k), (0, x), (0, (i : Int))] [] h = some ((3, 0), h') ∧ SpM g h' (kp (fun p => bI x p) (fun p => LT g k p) N) := by
  have b12 := hc.2.1
  induction n with
  | zero =>
    intro i h hi hsp
    have e : i = N := by omega
    subst e
    have hm' := CM_spm hm hsp
    have gl := m_lengthOf (d := d + 1) hm' hc.1.1 hc.1.2
    rw [hsp.2.1 _ _ (by decide) (by omega), hN] at gl
    refine ⟨h, ?_, hsp⟩
    rw [e270_7]
    simp only [e270_0, e270_1, e270_2, e270_5, e270_6, e270_8, e270_9, e270_10, e270_13, e270_16, e270_17, e270_18, e270_21, e270_24, e270_27, e270_28, e270_31, e270_32, e270_35, e270_36, e270_37, e270_38, e270_41, e270_42, e270_43, e270_43i, e270_44, e270_47, e270_48, e270_49, e270_52, e270_55, e270_58, psh0, psh1, psh3, true_or, or_true, eq_self, Option.bind_some, List.length_nil, List.length_cons, Nat.reduceAdd, Nat.reduceLeDiff, Nat.zero_le, ↓reduceIte, Int.reduceLT, Int.reduceEq, Int.reduceLE, Int.reduceNeg, Int.reduceAdd, Int.reduceMul, Int.reduceSub, ne_eq, not_true_eq_false, not_false_eq_true, and_true, true_and, and_false, false_and, c3lt, c3gt, c3eq, Bool.false_eq_true, isK_wr, inA_wr, inR_wr, hm'.1, gl, Int.lt_irrefl]
  | succ n ih =>
    intro i h hi hsp
    have hm' := CM_spm hm hsp
    have e4 : ∀ j, mrd h 240 j = mrd g 240 j := fun j => hsp.2.1 _ _ (by decide) (by omega)
    have gl := m_lengthOf (d := d + 1) hm' hc.1.1 hc.1.2
    rw [e4, hN] at gl
    have ci : (i : Int) < N := by omega
    have w1 : w32 ((i : Int) + 1) = ((i + 1 : Nat) : Int) := by rw [w32_id (by omega) (by omega)]; omega
    have hh : EV (d + 1) 188 0 [(0, x), (0, (i : Int))] [] h = some ((0, if bI x i = true then 1 else 0), h) := m_has (by omega) (by omega)
    have hlen := kp_len (fun p => bI x p) (fun p => LT g k p) i
    have m26 : mrd h 235 26 = 243 := rf_235_26 hm'.2.2
    by_cases hb : bI x i = true
    · rw [if_pos hb] at hh
      have ek : kp (fun p => bI x p) (fun p => LT g k p) (i + 1) = kp (fun p => bI x p) (fun p => LT g k p) i := by rw [kp, if_pos hb]
      obtain ⟨h', g1, g2⟩ := ih (i + 1) h (by omega) (by rw [ek]; exact hsp)
      refine ⟨h', ?_, g2⟩
      rw [e270_7, ← g1]
      simp only [e270_0, e270_1, e270_2, e270_5, e270_6, e270_8, e270_9, e270_10, e270_13, e270_16, e270_17, e270_18, e270_21, e270_24, e270_27, e270_28, e270_31, e270_32, e270_35, e270_36, e270_37, e270_38, e270_41, e270_42, e270_43, e270_43i, e270_44, e270_47, e270_48, e270_49, e270_52, e270_55, e270_58, psh0, psh1, psh3, true_or, or_true, eq_self, Option.bind_some, List.length_nil, List.length_cons, Nat.reduceAdd, Nat.reduceLeDiff, Nat.zero_le, ↓reduceIte, Int.reduceLT, Int.reduceEq, Int.reduceLE, Int.reduceNeg, Int.reduceAdd, Int.reduceMul, Int.reduceSub, ne_eq, not_true_eq_false, not_false_eq_true, and_true, true_and, and_false, false_and, c3lt, c3gt, c3eq, Bool.false_eq_true, isK_wr, inA_wr, inR_wr, hm'.1, gl, ci, hh, w1]
    · rw [if_neg hb] at hh
      have ek : kp (fun p => bI x p) (fun p => LT g k p) (i + 1) = kp (fun p => bI x p) (fun p => LT g k p) i ++ [LT g k i] := by rw [kp, if_neg hb]
      have gt := m_letter (d := d) (p := (i : Int)) hm' (MC_congr e4 hc) (by omega) (by rw [e4]; omega)
      rw [LT_congr e4] at gt
      obtain ⟨c, hcl⟩ : ∃ c : Nat, c = (kp (fun p => bI x p) (fun p => LT g k p) i).length := ⟨_, rfl⟩
      have eL : mrd h 235 27 = c := by rw [hsp.2.2.1, hcl]
      have iV : inA h 243 16 c := ⟨kn_243 hm'.2.1, by omega, by rw [ln_243 hm'.2.1]; omega⟩
      have w2 : w32 ((c : Int) + 1) = (c : Int) + 1 := w32_id (by omega) (by omega)
      obtain ⟨h', g1, g2⟩ := ih (i + 1) (mwr (mwr h 243 c (LT g k i)) 235 27 ((c : Int) + 1)) (by omega) (by
        refine ⟨hsp.1, fun a j h1 h2 => ?_, ?_, fun p hp => ?_⟩
        · rw [rd_wr, if_neg h2, rd_wr, if_neg (by omega)]
          exact hsp.2.1 a j h1 h2
        · rw [rde, ek, List.length_append, ← hcl]; rfl
        · rw [ek] at hp ⊢
          rw [rdn1 (by omega), rd_wr, getD_snoc hp, ← hcl]
          by_cases c2 : p = c
          · rw [if_pos ⟨rfl, by omega⟩, if_pos c2]
          · rw [if_neg (by omega), if_neg c2]
            refine hsp.2.2.2 p ?_
            rw [List.length_append, ← hcl] at hp
            simp only [List.length_cons, List.length_nil] at hp
            rw [← hcl]; omega)
      refine ⟨h', ?_, g2⟩
      rw [e270_7, ← g1]
      simp only [e270_0, e270_1, e270_2, e270_5, e270_6, e270_8, e270_9, e270_10, e270_13, e270_16, e270_17, e270_18, e270_21, e270_24, e270_27, e270_28, e270_31, e270_32, e270_35, e270_36, e270_37, e270_38, e270_41, e270_42, e270_43, e270_43i, e270_44, e270_47, e270_48, e270_49, e270_52, e270_55, e270_58, psh0, psh1, psh3, true_or, or_true, eq_self, Option.bind_some, List.length_nil, List.length_cons, Nat.reduceAdd, Nat.reduceLeDiff, Nat.zero_le, ↓reduceIte, Int.reduceLT, Int.reduceEq, Int.reduceLE, Int.reduceNeg, Int.reduceAdd, Int.reduceMul, Int.reduceSub, ne_eq, not_true_eq_false, not_false_eq_true, and_true, true_and, and_false, false_and, c3lt, c3gt, c3eq, Bool.false_eq_true, isK_wr, inA_wr, inR_wr, hm'.1, gl, ci, hh, m26, eL, gt, iV, rd_wr, w1, w2]
theorem m_layName {g : AM} (hm : CM g) (hc : MC g k) (N : Nat) (hN : mrd g 240 (76 + k) = N) : ∃ h', EV (d + 2) 270 0 [(2, 235), (0, k), (0, x), (3, 0)] [] g = some ((3, 0), h') ∧ SpM g h' (kp (fun p => bI x p) (fun p => LT g k p) N) := by
  obtain ⟨h', g1, g2⟩ := m_layName_loop (d := d) (x := x) hm hc N hN N 0 (mwr g 235 27 0) (by omega) (by
    refine ⟨rfl, fun a j h1 h2 => ?_, ?_, fun p hp => ?_⟩
    · rw [rd_wr, if_neg h2]
    · rw [rde]; rfl
    · exact absurd hp (by rw [kp]; exact Nat.not_lt_zero _))
  refine ⟨h', ?_, g2⟩
  rw [← g1]
  simp only [e270_0, e270_1, e270_2, e270_5, e270_6, e270_8, e270_9, e270_10, e270_13, e270_16, e270_17, e270_18, e270_21, e270_24, e270_27, e270_28, e270_31, e270_32, e270_35, e270_36, e270_37, e270_38, e270_41, e270_42, e270_43, e270_43i, e270_44, e270_47, e270_48, e270_49, e270_52, e270_55, e270_58, psh0, psh1, psh3, true_or, or_true, eq_self, Option.bind_some, List.length_nil, List.length_cons, Nat.reduceAdd, Nat.reduceLeDiff, Nat.zero_le, ↓reduceIte, Int.reduceLT, Int.reduceEq, Int.reduceLE, Int.reduceNeg, Int.reduceAdd, Int.reduceMul, Int.reduceSub, ne_eq, not_true_eq_false, not_false_eq_true, and_true, true_and, and_false, false_and, c3lt, c3gt, c3eq, Bool.false_eq_true, isK_wr, inA_wr, inR_wr, hm.1]
  rfl
theorem m_saysName {g : AM} (hm : CM g) (hc : MC g k) (N : Nat) (hN : mrd g 240 (76 + k) = N) : ∃ h', EV (d + 3) 271 0 [(2, 235), (0, k), (0, x)] [] g = some ((0, sdB (mrd g 240 3) (kp (fun p => bI x p) (fun p => LT g k p) N)), h') ∧ SpM g h' (kp (fun p => bI x p) (fun p => LT g k p) N) := by
  obtain ⟨h', g1, g2⟩ := m_layName (d := d) (x := x) hm hc N hN
  have b12 := hc.2.1
  have hlen := kp_len (fun p => bI x p) (fun p => LT g k p) N
  refine ⟨h', ?_, g2⟩
  generalize kp (fun p => bI x p) (fun p => LT g k p) N = l at g2 hlen
  have hm' := CM_spm hm g2
  have g3 := m_isSaid (d := d) hm' g2.2.2.1 g2.2.2.2 (by omega)
  rw [g2.2.1 240 3 (by decide) (by omega)] at g3
  have h01 := sdB_01 (mrd g 240 3) l
  simp only [e271_0, e271_1, e271_2, e271_3, e271_6, e271_7, e271_10, psh0, psh1, psh3, true_or, or_true, eq_self, Option.bind_some, List.length_nil, List.length_cons, Nat.reduceAdd, Nat.reduceLeDiff, Nat.zero_le, ↓reduceIte, Int.reduceLT, Int.reduceEq, Int.reduceLE, Int.reduceNeg, Int.reduceAdd, Int.reduceMul, Int.reduceSub, ne_eq, not_true_eq_false, not_false_eq_true, and_true, true_and, and_false, false_and, c3lt, c3gt, c3eq, Bool.false_eq_true, isK_wr, inA_wr, inR_wr, hm.1, hm'.1, g1, g3, h01]
end

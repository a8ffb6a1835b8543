/-! the needs of a lesson: their bits, and both loops' steps -/
def us (x : Int) : Nat → Nat
  | 0 => 0
  | n + 1 => us x n + if bI x n = true then 0 else 1
theorem us_le {x : Int} : ∀ n, us x n ≤ n
  | 0 => Nat.le_refl 0
  | n + 1 => by have := us_le (x := x) n; rw [us]; split <;> omega
theorem us_same {x y : Int} : ∀ n, (∀ j, j < n → bI y j = bI x j) → us y n = us x n
  | 0, _ => rfl
  | n + 1, h => by rw [us, us, us_same n (fun j hj => h j (by omega)), h n (by omega)]
theorem us_or {x y : Int} {i : Nat} (hx : bI x i = false) (hy : ∀ j, bI y j = (bI x j || decide (j = i))) : ∀ n, i < n → us y n + 1 = us x n
  | 0, h => by omega
  | n + 1, h => by
    rw [us, us]
    by_cases c : i = n
    · have h1 : us y n = us x n := us_same n (fun j hj => by rw [hy j, show decide (j = i) = false from decide_eq_false (by omega), Bool.or_false])
      have h2 : bI y n = true := by rw [hy n, ← c]; simp
      rw [h1, if_pos h2, ← c, if_neg (by rw [hx]; decide)]
    · have ih := us_or hx hy n (by omega)
      have h2 : bI y n = bI x n := by rw [hy n, show decide (n = i) = false from decide_eq_false (by omega), Bool.or_false]
      rw [h2]; omega
section
variable {d d' N : Nat} {a a' a1 a2 b b' b1 b2 : AM} {D v x k kf i : Int} {l4 : AV}
theorem blm_f {w : Int} (h : mrd a 110 9 ≠ 0) : blm a w = a := if_neg h
theorem x_isSignF {y : Int} (kk : isK a 110 5) (h : mrd a 110 9 ≠ 0) : EV d 42 0 [(2, 110), (0, y)] [] a = some ((0, 0), a) := by
  simp only [e42_0, e42_1, e42_4, e42_7, e42_8, e42_11, e42_12, e42_15, e42_16, e42_19, e42_20, e42_21, e42_22, e42_25, e42_26, e42_29, e42_30, psh0, psh1, psh3, true_or, or_true, eq_self, Option.bind_some, List.length_nil, List.length_cons, Nat.reduceAdd, Nat.reduceLeDiff, Nat.zero_le, ↓reduceIte, Int.reduceLT, Int.reduceEq, Int.reduceLE, Int.reduceNeg, Int.reduceAdd, Int.reduceMul, Int.reduceSub, ne_eq, not_true_eq_false, not_false_eq_true, and_true, true_and, and_false, false_and, c3lt, c3gt, c3eq, Bool.false_eq_true, isK_wr, inA_wr, inR_wr, kk, h]
theorem x_foundF (kk : isK a 110 5) (h : mrd a 110 9 ≠ 0) : EV (d + 1) 49 0 [(2, 110), (0, kf)] [] a = some ((0, 0), a) := by
  by_cases c : kf = -1
  · subst c
    have := x_foundN (d := d) (a := a) kk (by rw [blm_f h]; exact kk) (by rw [blm_f h]; exact h)
    rw [blm_f h] at this; exact this
  · exact x_foundW kk c h
/-- the class's loop with a fault runs out -/
theorem x_nd51 (kk : isK a 110 5) (h : mrd a 110 9 ≠ 0) (i0 : 0 ≤ i) (i1 : i ≤ 12) : EV (d + 2) 55 51 [(2, D), (2, 110), (0, x), (0, i), (0, kf)] [] a = some ((0, i_or x (i_shl 1 0)), a) := by
  have g1 := x_foundF (d := d) (kf := kf) kk h
  have g2 := x_isSignF (d := d + 1) (y := 59) kk h
  have w : w32 (i + 1) = i + 1 := w32_id (by omega) (by omega)
  by_cases c : 12 < i + 1
  · simp only [e55_0, e55_1, e55_4, e55_5, e55_6, e55_7, e55_8, e55_9, e55_11, e55_14, e55_15, e55_18, e55_21, e55_22, e55_23, e55_26, e55_29, e55_31, e55_33, e55_34, e55_37, e55_38, e55_39, e55_41, e55_42, e55_43, e55_46, e55_47, e55_48, e55_51, e55_52, e55_53, e55_54, e55_56, e55_59, e55_60, e55_61, e55_62, e55_63, e55_65, e55_68, e55_71, e55_74, e55_77, e55_80, e55_81, psh0, psh1, psh3, true_or, or_true, eq_self, Option.bind_some, List.length_nil, List.length_cons, Nat.reduceAdd, Nat.reduceLeDiff, Nat.zero_le, ↓reduceIte, Int.reduceLT, Int.reduceEq, Int.reduceLE, Int.reduceNeg, Int.reduceAdd, Int.reduceMul, Int.reduceSub, ne_eq, not_true_eq_false, not_false_eq_true, and_true, true_and, and_false, false_and, c3lt, c3gt, c3eq, Bool.false_eq_true, isK_wr, inA_wr, inR_wr, kk, g1, g2, w, c]
  · simp only [e55_0, e55_1, e55_4, e55_5, e55_6, e55_7, e55_8, e55_9, e55_11, e55_14, e55_15, e55_18, e55_21, e55_22, e55_23, e55_26, e55_29, e55_31, e55_33, e55_34, e55_37, e55_38, e55_39, e55_41, e55_42, e55_43, e55_46, e55_47, e55_48, e55_51, e55_52, e55_53, e55_54, e55_56, e55_59, e55_60, e55_61, e55_62, e55_63, e55_65, e55_68, e55_71, e55_74, e55_77, e55_80, e55_81, psh0, psh1, psh3, true_or, or_true, eq_self, Option.bind_some, List.length_nil, List.length_cons, Nat.reduceAdd, Nat.reduceLeDiff, Nat.zero_le, ↓reduceIte, Int.reduceLT, Int.reduceEq, Int.reduceLE, Int.reduceNeg, Int.reduceAdd, Int.reduceMul, Int.reduceSub, ne_eq, not_true_eq_false, not_false_eq_true, and_true, true_and, and_false, false_and, c3lt, c3gt, c3eq, Bool.false_eq_true, isK_wr, inA_wr, inR_wr, kk, g1, g2, w, c, h]
theorem x_nd29 (kk : isK a 110 5) (h : mrd a 110 9 ≠ 0) (i0 : 0 ≤ i) (i1 : i ≤ 12) : EV (d + 2) 55 29 [(2, D), (2, 110), (0, x), (0, i), l4] [(0, kf)] a = some ((0, i_or x (i_shl 1 0)), a) := by
  have g := x_nd51 (d := d) (D := D) (x := x) (kf := kf) kk h i0 i1
  have gb := x_blame (d := d + 1) (w := 5) kk
  rw [blm_f h] at gb
  by_cases c : kf = -1
  · rw [← g]
    simp only [e55_0, e55_1, e55_4, e55_5, e55_6, e55_7, e55_8, e55_9, e55_11, e55_14, e55_15, e55_18, e55_21, e55_22, e55_23, e55_26, e55_29, e55_31, e55_33, e55_34, e55_37, e55_38, e55_39, e55_41, e55_42, e55_43, e55_46, e55_47, e55_48, e55_52, e55_53, e55_54, e55_56, e55_59, e55_60, e55_61, e55_62, e55_63, e55_65, e55_68, e55_71, e55_74, e55_77, e55_80, e55_81, psh0, psh1, psh3, true_or, or_true, eq_self, Option.bind_some, List.length_nil, List.length_cons, Nat.reduceAdd, Nat.reduceLeDiff, Nat.zero_le, ↓reduceIte, Int.reduceLT, Int.reduceEq, Int.reduceLE, Int.reduceNeg, Int.reduceAdd, Int.reduceMul, Int.reduceSub, ne_eq, not_true_eq_false, not_false_eq_true, and_true, true_and, and_false, false_and, c3lt, c3gt, c3eq, Bool.false_eq_true, isK_wr, inA_wr, inR_wr, c]
  · by_cases c2 : i_and x (i_shl 1 kf) = 0
    · rw [← g]
      simp only [e55_0, e55_1, e55_4, e55_5, e55_6, e55_7, e55_8, e55_9, e55_11, e55_14, e55_15, e55_18, e55_21, e55_22, e55_23, e55_26, e55_29, e55_31, e55_33, e55_34, e55_37, e55_38, e55_39, e55_41, e55_42, e55_43, e55_46, e55_47, e55_48, e55_52, e55_53, e55_54, e55_56, e55_59, e55_60, e55_61, e55_62, e55_63, e55_65, e55_68, e55_71, e55_74, e55_77, e55_80, e55_81, psh0, psh1, psh3, true_or, or_true, eq_self, Option.bind_some, List.length_nil, List.length_cons, Nat.reduceAdd, Nat.reduceLeDiff, Nat.zero_le, ↓reduceIte, Int.reduceLT, Int.reduceEq, Int.reduceLE, Int.reduceNeg, Int.reduceAdd, Int.reduceMul, Int.reduceSub, ne_eq, not_true_eq_false, not_false_eq_true, and_true, true_and, and_false, false_and, c3lt, c3gt, c3eq, Bool.false_eq_true, isK_wr, inA_wr, inR_wr, c, c2]
    · rw [← g]
      simp only [e55_0, e55_1, e55_4, e55_5, e55_6, e55_7, e55_8, e55_9, e55_11, e55_14, e55_15, e55_18, e55_21, e55_22, e55_23, e55_26, e55_29, e55_31, e55_33, e55_34, e55_37, e55_38, e55_39, e55_41, e55_42, e55_43, e55_46, e55_47, e55_48, e55_52, e55_53, e55_54, e55_56, e55_59, e55_60, e55_61, e55_62, e55_63, e55_65, e55_68, e55_71, e55_74, e55_77, e55_80, e55_81, psh0, psh1, psh3, true_or, or_true, eq_self, Option.bind_some, List.length_nil, List.length_cons, Nat.reduceAdd, Nat.reduceLeDiff, Nat.zero_le, ↓reduceIte, Int.reduceLT, Int.reduceEq, Int.reduceLE, Int.reduceNeg, Int.reduceAdd, Int.reduceMul, Int.reduceSub, ne_eq, not_true_eq_false, not_false_eq_true, and_true, true_and, and_false, false_and, c3lt, c3gt, c3eq, Bool.false_eq_true, isK_wr, inA_wr, inR_wr, c, c2, kk, gb]
/-- from its head, at a token that is no name -/
theorem x_ndW (cs : CS a1 D) (kk : isK a 110 5) (h : mrd a 110 9 = 0) (i0 : 0 ≤ i) (i1 : i ≤ 12) (g : EV (d + 1) 48 0 [(2, 110)] [] a = some ((1, v), a1)) (kk1 : isK a1 110 5) (h1 : mrd a1 110 9 ≠ 0) (n0 : 0 ≤ mrd a1 D 6) (n1 : mrd a1 D 6 ≤ 12) : EV (d + 2) 55 8 [(2, D), (2, 110), (0, x), (0, i), l4] [] a = some ((0, i_or x (i_shl 1 0)), a1) := by
  have ks := cs.1
  have gf := x_FnL (d := d + 1) (v := v) cs n0 n1
  have c : ¬ 12 < i := by omega
  rw [← x_nd29 (d := d) (D := D) (x := x) (l4 := l4) (kf := FnL a1 D v) kk1 h1 i0 i1, e55_8]
  simp only [e55_0, e55_1, e55_4, e55_5, e55_6, e55_7, e55_9, e55_11, e55_14, e55_15, e55_18, e55_21, e55_22, e55_23, e55_26, e55_31, e55_33, e55_34, e55_37, e55_38, e55_39, e55_41, e55_42, e55_43, e55_46, e55_47, e55_48, e55_52, e55_53, e55_54, e55_56, e55_59, e55_60, e55_61, e55_62, e55_63, e55_65, e55_68, e55_71, e55_74, e55_77, e55_80, e55_81, psh0, psh1, psh3, true_or, or_true, eq_self, Option.bind_some, List.length_nil, List.length_cons, Nat.reduceAdd, Nat.reduceLeDiff, Nat.zero_le, ↓reduceIte, Int.reduceLT, Int.reduceEq, Int.reduceLE, Int.reduceNeg, Int.reduceAdd, Int.reduceMul, Int.reduceSub, ne_eq, not_true_eq_false, not_false_eq_true, and_true, true_and, and_false, false_and, c3lt, c3gt, c3eq, Bool.false_eq_true, isK_wr, inA_wr, inR_wr, kk, h, c, g, ks, gf]
/-- .. and at a name: to the place where it is passed -/
theorem x_ndN (cs : CS a D) (kk : isK a 110 5) (h : mrd a 110 9 = 0) (i0 : 0 ≤ i) (i1 : i ≤ 12) (g : EV (d + 1) 48 0 [(2, 110)] [] a = some ((1, v), a)) (n0 : 0 ≤ mrd a D 6) (n1 : mrd a D 6 ≤ 12) : EV (d + 2) 55 8 [(2, D), (2, 110), (0, x), (0, i), l4] [] a = EV (d + 2) 55 51 [(2, D), (2, 110), (0, x), (0, i), (0, FnL a D v)] [] (if FnL a D v ≠ -1 ∧ i_and x (i_shl 1 (FnL a D v)) ≠ 0 then blm a 5 else a) := by
  have ks := cs.1
  have gf := x_FnL (d := d + 1) (v := v) cs n0 n1
  have gb := x_blame (d := d + 1) (w := 5) kk
  have c : ¬ 12 < i := by omega
  rw [e55_8]
  obtain ⟨K, hK⟩ : ∃ K, K = FnL a D v := ⟨_, rfl⟩
  rw [← hK] at gf ⊢
  by_cases c1 : K = -1
  · rw [if_neg (fun z => z.1 c1)]
    simp only [e55_0, e55_1, e55_4, e55_5, e55_6, e55_7, e55_9, e55_11, e55_14, e55_15, e55_18, e55_21, e55_22, e55_23, e55_26, e55_29, e55_31, e55_33, e55_34, e55_37, e55_38, e55_39, e55_41, e55_42, e55_43, e55_46, e55_47, e55_48, e55_52, e55_53, e55_54, e55_56, e55_59, e55_60, e55_61, e55_62, e55_63, e55_65, e55_68, e55_71, e55_74, e55_77, e55_80, e55_81, psh0, psh1, psh3, true_or, or_true, eq_self, Option.bind_some, List.length_nil, List.length_cons, Nat.reduceAdd, Nat.reduceLeDiff, Nat.zero_le, ↓reduceIte, Int.reduceLT, Int.reduceEq, Int.reduceLE, Int.reduceNeg, Int.reduceAdd, Int.reduceMul, Int.reduceSub, ne_eq, not_true_eq_false, not_false_eq_true, and_true, true_and, and_false, false_and, c3lt, c3gt, c3eq, Bool.false_eq_true, isK_wr, inA_wr, inR_wr, kk, h, c, g, ks, gf, c1]
  · by_cases c2 : i_and x (i_shl 1 K) = 0
    · rw [if_neg (fun z => z.2 c2)]
      simp only [e55_0, e55_1, e55_4, e55_5, e55_6, e55_7, e55_9, e55_11, e55_14, e55_15, e55_18, e55_21, e55_22, e55_23, e55_26, e55_29, e55_31, e55_33, e55_34, e55_37, e55_38, e55_39, e55_41, e55_42, e55_43, e55_46, e55_47, e55_48, e55_52, e55_53, e55_54, e55_56, e55_59, e55_60, e55_61, e55_62, e55_63, e55_65, e55_68, e55_71, e55_74, e55_77, e55_80, e55_81, psh0, psh1, psh3, true_or, or_true, eq_self, Option.bind_some, List.length_nil, List.length_cons, Nat.reduceAdd, Nat.reduceLeDiff, Nat.zero_le, ↓reduceIte, Int.reduceLT, Int.reduceEq, Int.reduceLE, Int.reduceNeg, Int.reduceAdd, Int.reduceMul, Int.reduceSub, ne_eq, not_true_eq_false, not_false_eq_true, and_true, true_and, and_false, false_and, c3lt, c3gt, c3eq, Bool.false_eq_true, isK_wr, inA_wr, inR_wr, kk, h, c, g, ks, gf, c1, c2]
    · rw [if_pos ⟨c1, c2⟩]
      simp only [e55_0, e55_1, e55_4, e55_5, e55_6, e55_7, e55_9, e55_11, e55_14, e55_15, e55_18, e55_21, e55_22, e55_23, e55_26, e55_29, e55_31, e55_33, e55_34, e55_37, e55_38, e55_39, e55_41, e55_42, e55_43, e55_46, e55_47, e55_48, e55_52, e55_53, e55_54, e55_56, e55_59, e55_60, e55_61, e55_62, e55_63, e55_65, e55_68, e55_71, e55_74, e55_77, e55_80, e55_81, psh0, psh1, psh3, true_or, or_true, eq_self, Option.bind_some, List.length_nil, List.length_cons, Nat.reduceAdd, Nat.reduceLeDiff, Nat.zero_le, ↓reduceIte, Int.reduceLT, Int.reduceEq, Int.reduceLE, Int.reduceNeg, Int.reduceAdd, Int.reduceMul, Int.reduceSub, ne_eq, not_true_eq_false, not_false_eq_true, and_true, true_and, and_false, false_and, c3lt, c3gt, c3eq, Bool.false_eq_true, isK_wr, inA_wr, inR_wr, kk, h, c, g, ks, gf, c1, c2, gb]
/-- past a name: the end, or on -/
theorem x_ndE (kk : isK a 110 5) (g : EV (d + 1) 49 0 [(2, 110), (0, kf)] [] a = some ((0, kf), a1)) (kk1 : isK a1 110 5) (gs : EV (d + 1) 42 0 [(2, 110), (0, 59)] [] a1 = some ((0, 1), a1)) : EV (d + 2) 55 51 [(2, D), (2, 110), (0, x), (0, i), (0, kf)] [] a = some ((0, i_or x (i_shl 1 kf)), a1) := by
  simp only [e55_0, e55_1, e55_4, e55_5, e55_6, e55_7, e55_8, e55_9, e55_11, e55_14, e55_15, e55_18, e55_21, e55_22, e55_23, e55_26, e55_29, e55_31, e55_33, e55_34, e55_37, e55_38, e55_39, e55_41, e55_42, e55_43, e55_46, e55_47, e55_48, e55_51, e55_52, e55_53, e55_54, e55_56, e55_59, e55_60, e55_61, e55_62, e55_63, e55_65, e55_68, e55_71, e55_74, e55_77, e55_80, e55_81, psh0, psh1, psh3, true_or, or_true, eq_self, Option.bind_some, List.length_nil, List.length_cons, Nat.reduceAdd, Nat.reduceLeDiff, Nat.zero_le, ↓reduceIte, Int.reduceLT, Int.reduceEq, Int.reduceLE, Int.reduceNeg, Int.reduceAdd, Int.reduceMul, Int.reduceSub, ne_eq, not_true_eq_false, not_false_eq_true, and_true, true_and, and_false, false_and, c3lt, c3gt, c3eq, Bool.false_eq_true, isK_wr, inA_wr, inR_wr, kk, g, kk1, gs]
theorem x_ndO (kk : isK a 110 5) (i0 : 0 ≤ i) (i1 : i ≤ 12) (g : EV (d + 1) 49 0 [(2, 110), (0, kf)] [] a = some ((0, kf), a1)) (kk1 : isK a1 110 5) (gs : EV (d + 1) 42 0 [(2, 110), (0, 59)] [] a1 = some ((0, 0), a1)) : EV (d + 2) 55 51 [(2, D), (2, 110), (0, x), (0, i), (0, kf)] [] a = EV (d + 2) 55 8 [(2, D), (2, 110), (0, i_or x (i_shl 1 kf)), (0, i + 1), (0, kf)] [] a1 := by
  have w : w32 (i + 1) = i + 1 := w32_id (by omega) (by omega)
  simp only [e55_0, e55_1, e55_4, e55_5, e55_6, e55_7, e55_9, e55_11, e55_14, e55_15, e55_18, e55_21, e55_22, e55_23, e55_26, e55_29, e55_31, e55_33, e55_34, e55_37, e55_38, e55_39, e55_41, e55_42, e55_43, e55_46, e55_47, e55_48, e55_51, e55_52, e55_53, e55_54, e55_56, e55_59, e55_60, e55_61, e55_62, e55_63, e55_65, e55_68, e55_71, e55_74, e55_77, e55_80, e55_81, psh0, psh1, psh3, true_or, or_true, eq_self, Option.bind_some, List.length_nil, List.length_cons, Nat.reduceAdd, Nat.reduceLeDiff, Nat.zero_le, ↓reduceIte, Int.reduceLT, Int.reduceEq, Int.reduceLE, Int.reduceNeg, Int.reduceAdd, Int.reduceMul, Int.reduceSub, ne_eq, not_true_eq_false, not_false_eq_true, and_true, true_and, and_false, false_and, c3lt, c3gt, c3eq, Bool.false_eq_true, isK_wr, inA_wr, inR_wr, kk, g, kk1, gs, w]
/-- the reference's loop with a fault runs out -/
theorem m_ndX {l2 l3 : AV} (kM : isK b 235 11) (h : mrd b 235 12 ≠ 0) : EV d 230 6 [(2, 235), (0, k), l2, l3] [] b = some ((3, 0), b) := by
  rw [e230_6]
  simp only [e230_0, e230_1, e230_4, e230_5, e230_7, e230_10, e230_13, e230_14, e230_17, e230_18, e230_19, e230_20, e230_23, e230_24, e230_25, e230_28, e230_31, e230_32, e230_35, e230_38, e230_39, e230_40, e230_41, e230_42, e230_45, e230_48, e230_49, e230_50, e230_51, e230_54, e230_57, e230_58, e230_59, e230_62, e230_63, e230_66, e230_69, e230_70, e230_73, e230_76, e230_77, e230_78, e230_79, e230_80, e230_81, e230_82, e230_83, e230_84, e230_85, e230_86, e230_89, e230_90, e230_93, e230_94, e230_97, e230_98, e230_99, e230_102, psh0, psh1, psh3, true_or, or_true, eq_self, Option.bind_some, List.length_nil, List.length_cons, Nat.reduceAdd, Nat.reduceLeDiff, Nat.zero_le, ↓reduceIte, Int.reduceLT, Int.reduceEq, Int.reduceLE, Int.reduceNeg, Int.reduceAdd, Int.reduceMul, Int.reduceSub, ne_eq, not_true_eq_false, not_false_eq_true, and_true, true_and, and_false, false_and, c3lt, c3gt, c3eq, Bool.false_eq_true, isK_wr, inA_wr, inR_wr, kM, h]
theorem m_ndM {l3 : AV} (kM : isK b 235 11) : EV d 230 6 [(2, 235), (0, k), (0, 0), l3] [] b = some ((3, 0), b) := by
  rw [e230_6]
  by_cases h : mrd b 235 12 = 0
  · simp only [e230_0, e230_1, e230_4, e230_5, e230_7, e230_10, e230_13, e230_14, e230_17, e230_18, e230_19, e230_20, e230_23, e230_24, e230_25, e230_28, e230_31, e230_32, e230_35, e230_38, e230_39, e230_40, e230_41, e230_42, e230_45, e230_48, e230_49, e230_50, e230_51, e230_54, e230_57, e230_58, e230_59, e230_62, e230_63, e230_66, e230_69, e230_70, e230_73, e230_76, e230_77, e230_78, e230_79, e230_80, e230_81, e230_82, e230_83, e230_84, e230_85, e230_86, e230_89, e230_90, e230_93, e230_94, e230_97, e230_98, e230_99, e230_102, psh0, psh1, psh3, true_or, or_true, eq_self, Option.bind_some, List.length_nil, List.length_cons, Nat.reduceAdd, Nat.reduceLeDiff, Nat.zero_le, ↓reduceIte, Int.reduceLT, Int.reduceEq, Int.reduceLE, Int.reduceNeg, Int.reduceAdd, Int.reduceMul, Int.reduceSub, ne_eq, not_true_eq_false, not_false_eq_true, and_true, true_and, and_false, false_and, c3lt, c3gt, c3eq, Bool.false_eq_true, isK_wr, inA_wr, inR_wr, kM, h]
  · simp only [e230_0, e230_1, e230_4, e230_5, e230_7, e230_10, e230_13, e230_14, e230_17, e230_18, e230_19, e230_20, e230_23, e230_24, e230_25, e230_28, e230_31, e230_32, e230_35, e230_38, e230_39, e230_40, e230_41, e230_42, e230_45, e230_48, e230_49, e230_50, e230_51, e230_54, e230_57, e230_58, e230_59, e230_62, e230_63, e230_66, e230_69, e230_70, e230_73, e230_76, e230_77, e230_78, e230_79, e230_80, e230_81, e230_82, e230_83, e230_84, e230_85, e230_86, e230_89, e230_90, e230_93, e230_94, e230_97, e230_98, e230_99, e230_102, psh0, psh1, psh3, true_or, or_true, eq_self, Option.bind_some, List.length_nil, List.length_cons, Nat.reduceAdd, Nat.reduceLeDiff, Nat.zero_le, ↓reduceIte, Int.reduceLT, Int.reduceEq, Int.reduceLE, Int.reduceNeg, Int.reduceAdd, Int.reduceMul, Int.reduceSub, ne_eq, not_true_eq_false, not_false_eq_true, and_true, true_and, and_false, false_and, c3lt, c3gt, c3eq, Bool.false_eq_true, isK_wr, inA_wr, inR_wr, kM, h]
theorem m_nd85 {l2 : AV} (kM : isK b 235 11) : EV d 230 85 [(2, 235), (0, k), l2, (0, kf)] [] b = EV d 230 6 [(2, 235), (0, k), (0, if mrd b 235 14 = 1 then 1 else 0), (0, kf)] [] b := by
  by_cases h : mrd b 235 14 = 1
  · rw [if_pos h]
    simp only [e230_0, e230_1, e230_4, e230_5, e230_7, e230_10, e230_13, e230_14, e230_17, e230_18, e230_19, e230_20, e230_23, e230_24, e230_25, e230_28, e230_31, e230_32, e230_35, e230_38, e230_39, e230_40, e230_41, e230_42, e230_45, e230_48, e230_49, e230_50, e230_51, e230_54, e230_57, e230_58, e230_59, e230_62, e230_63, e230_66, e230_69, e230_70, e230_73, e230_76, e230_77, e230_78, e230_79, e230_80, e230_81, e230_82, e230_83, e230_84, e230_85, e230_86, e230_89, e230_90, e230_93, e230_94, e230_97, e230_98, e230_99, e230_102, psh0, psh1, psh3, true_or, or_true, eq_self, Option.bind_some, List.length_nil, List.length_cons, Nat.reduceAdd, Nat.reduceLeDiff, Nat.zero_le, ↓reduceIte, Int.reduceLT, Int.reduceEq, Int.reduceLE, Int.reduceNeg, Int.reduceAdd, Int.reduceMul, Int.reduceSub, ne_eq, not_true_eq_false, not_false_eq_true, and_true, true_and, and_false, false_and, c3lt, c3gt, c3eq, Bool.false_eq_true, isK_wr, inA_wr, inR_wr, kM, h]
  · rw [if_neg h]
    simp only [e230_0, e230_1, e230_4, e230_5, e230_7, e230_10, e230_13, e230_14, e230_17, e230_18, e230_19, e230_20, e230_23, e230_24, e230_25, e230_28, e230_31, e230_32, e230_35, e230_38, e230_39, e230_40, e230_41, e230_42, e230_45, e230_48, e230_49, e230_50, e230_51, e230_54, e230_57, e230_58, e230_59, e230_62, e230_63, e230_66, e230_69, e230_70, e230_73, e230_76, e230_77, e230_78, e230_79, e230_80, e230_81, e230_82, e230_83, e230_84, e230_85, e230_86, e230_89, e230_90, e230_93, e230_94, e230_97, e230_98, e230_99, e230_102, psh0, psh1, psh3, true_or, or_true, eq_self, Option.bind_some, List.length_nil, List.length_cons, Nat.reduceAdd, Nat.reduceLeDiff, Nat.zero_le, ↓reduceIte, Int.reduceLT, Int.reduceEq, Int.reduceLE, Int.reduceNeg, Int.reduceAdd, Int.reduceMul, Int.reduceSub, ne_eq, not_true_eq_false, not_false_eq_true, and_true, true_and, and_false, false_and, c3lt, c3gt, c3eq, Bool.false_eq_true, isK_wr, inA_wr, inR_wr, kM, h]
/-- told with a fault -/
theorem m_ndF {l3 : AV} {u : Int} (kM : isK b 235 11) (h : mrd b 235 12 = 0) (g : EV (d + 1) 227 0 [(2, 235), (0, 4), (0, 1), (3, 0)] [] b = some ((0, u), b1)) (k1 : isK b1 235 11) (h1 : 0 < mrd b1 235 12) : EV (d + 2) 230 6 [(2, 235), (0, k), (0, 1), l3] [] b = some ((3, 0), b1) := by
  have z : ¬ mrd b1 235 12 = 0 := by omega
  have gm := m_must0 (d := d + 1) (z := 1) k1 h1
  rw [← m_ndX (d := d + 2) (k := k) (l2 := (0, if mrd b1 235 14 = 1 then 1 else 0)) (l3 := (0, u)) k1 z, ← m_nd85 (l2 := (0, 1)) k1, e230_6]
  simp only [e230_0, e230_1, e230_4, e230_5, e230_7, e230_10, e230_13, e230_14, e230_17, e230_18, e230_19, e230_20, e230_23, e230_24, e230_25, e230_28, e230_31, e230_32, e230_35, e230_38, e230_39, e230_40, e230_41, e230_42, e230_45, e230_48, e230_49, e230_50, e230_51, e230_54, e230_57, e230_58, e230_59, e230_62, e230_63, e230_66, e230_69, e230_70, e230_73, e230_76, e230_77, e230_78, e230_79, e230_80, e230_81, e230_82, e230_83, e230_84, e230_86, e230_89, e230_90, e230_93, e230_94, e230_97, e230_98, e230_99, e230_102, psh0, psh1, psh3, true_or, or_true, eq_self, Option.bind_some, List.length_nil, List.length_cons, Nat.reduceAdd, Nat.reduceLeDiff, Nat.zero_le, ↓reduceIte, Int.reduceLT, Int.reduceEq, Int.reduceLE, Int.reduceNeg, Int.reduceAdd, Int.reduceMul, Int.reduceSub, ne_eq, not_true_eq_false, not_false_eq_true, and_true, true_and, and_false, false_and, c3lt, c3gt, c3eq, Bool.false_eq_true, isK_wr, inA_wr, inR_wr, kM, h, g, k1, z, gm]
/-- told a lesson, which is twice there -/
theorem m_ndT {l3 : AV} (hm : CM b) (k0 : 0 ≤ k) (k1 : k < 12) (h : mrd b 235 12 = 0) (u0 : 0 ≤ kf) (u1 : kf < 12) (g : EV (d + 1) 227 0 [(2, 235), (0, 4), (0, 1), (3, 0)] [] b = some ((0, kf), b)) (hb : bI (mrd b 240 (1692 + k)) kf.toNat = true) (k1' : isK (flm b 5 (mrd b 235 15)) 235 11) (h1 : 0 < mrd (flm b 5 (mrd b 235 15)) 235 12) : EV (d + 2) 230 6 [(2, 235), (0, k), (0, 1), l3] [] b = some ((3, 0), flm b 5 (mrd b 235 15)) := by
  have kM := hm.1
  have r0 := mC hm
  have w : w32 (1692 + k) = 1692 + k := w32_id (by omega) (by omega)
  have hA : inA b 240 16 (1692 + k) := ⟨kn_240 hm.2.1, by omega, by rw [ln_240 hm.2.1]; omega⟩
  have gh := m_has (d := d + 1) (h := b) (x := mrd b 240 (1692 + k)) u0 (by omega : kf < 32)
  rw [if_pos hb] at gh
  have gf := m_fail (d := d + 1) (w := 5) (p := mrd b 235 15) kM
  obtain ⟨c, hc⟩ : ∃ c, c = flm b 5 (mrd b 235 15) := ⟨_, rfl⟩
  rw [← hc] at gf k1' h1 ⊢
  have z : ¬ mrd c 235 12 = 0 := by omega
  have gm := m_must0 (d := d + 1) (z := 1) k1' h1
  rw [← m_ndX (d := d + 2) (k := k) (l2 := (0, if mrd c 235 14 = 1 then 1 else 0)) (l3 := (0, kf)) k1' z, ← m_nd85 (l2 := (0, 1)) k1', e230_6]
  simp only [e230_0, e230_1, e230_4, e230_5, e230_7, e230_10, e230_13, e230_14, e230_17, e230_18, e230_19, e230_20, e230_23, e230_24, e230_25, e230_28, e230_31, e230_32, e230_35, e230_38, e230_39, e230_40, e230_41, e230_42, e230_45, e230_48, e230_49, e230_50, e230_51, e230_54, e230_57, e230_58, e230_59, e230_62, e230_63, e230_66, e230_69, e230_70, e230_73, e230_76, e230_77, e230_78, e230_79, e230_80, e230_81, e230_82, e230_83, e230_84, e230_86, e230_89, e230_90, e230_93, e230_94, e230_97, e230_98, e230_99, e230_102, psh0, psh1, psh3, true_or, or_true, eq_self, Option.bind_some, List.length_nil, List.length_cons, Nat.reduceAdd, Nat.reduceLeDiff, Nat.zero_le, ↓reduceIte, Int.reduceLT, Int.reduceEq, Int.reduceLE, Int.reduceNeg, Int.reduceAdd, Int.reduceMul, Int.reduceSub, ne_eq, not_true_eq_false, not_false_eq_true, and_true, true_and, and_false, false_and, c3lt, c3gt, c3eq, Bool.false_eq_true, isK_wr, inA_wr, inR_wr, kM, h, g, r0, w, hA, gh, gf, k1', z, gm]
/-- told a new one -/
theorem m_ndN {l3 : AV} (hm : CM b) (k0 : 0 ≤ k) (k1 : k < 12) (h : mrd b 235 12 = 0) (u0 : 0 ≤ kf) (u1 : kf < 12) (g : EV (d + 1) 227 0 [(2, 235), (0, 4), (0, 1), (3, 0)] [] b = some ((0, kf), b)) (hb : bI (mrd b 240 (1692 + k)) kf.toNat = false) (gm : EV (d + 1) 215 0 [(2, 235), (0, 1)] [] b = some ((3, 0), b1)) (hm1 : CM b1) (h1 : mrd b1 235 12 = 0) : EV (d + 2) 230 6 [(2, 235), (0, k), (0, 1), l3] [] b = EV (d + 2) 230 6 [(2, 235), (0, k), (0, if mrd b1 235 14 = 1 then 1 else 0), (0, kf)] [] (mwr b1 240 (1692 + k) (i_or (mrd b1 240 (1692 + k)) (i_shl 1 kf))) := by
  have kM := hm.1
  have r0 := mC hm
  have kM1 := hm1.1
  have r1 := mC hm1
  have w : w32 (1692 + k) = 1692 + k := w32_id (by omega) (by omega)
  have hA : inA b 240 16 (1692 + k) := ⟨kn_240 hm.2.1, by omega, by rw [ln_240 hm.2.1]; omega⟩
  have hA1 : inA b1 240 16 (1692 + k) := ⟨kn_240 hm1.2.1, by omega, by rw [ln_240 hm1.2.1]; omega⟩
  have gh := m_has (d := d + 1) (h := b) (x := mrd b 240 (1692 + k)) u0 (by omega : kf < 32)
  rw [if_neg (by rw [hb]; decide)] at gh
  have e := m_nd85 (d := d + 2) (k := k) (kf := kf) (l2 := (0, 1)) (b := mwr b1 240 (1692 + k) (i_or (mrd b1 240 (1692 + k)) (i_shl 1 kf))) kM1
  rw [rdn1 (by decide)] at e
  rw [← e, e230_6]
  simp only [e230_0, e230_1, e230_4, e230_5, e230_7, e230_10, e230_13, e230_14, e230_17, e230_18, e230_19, e230_20, e230_23, e230_24, e230_25, e230_28, e230_31, e230_32, e230_35, e230_38, e230_39, e230_40, e230_41, e230_42, e230_45, e230_48, e230_49, e230_50, e230_51, e230_54, e230_57, e230_58, e230_59, e230_62, e230_63, e230_66, e230_69, e230_70, e230_73, e230_76, e230_77, e230_78, e230_79, e230_80, e230_81, e230_82, e230_83, e230_84, e230_86, e230_89, e230_90, e230_93, e230_94, e230_97, e230_98, e230_99, e230_102, psh0, psh1, psh3, true_or, or_true, eq_self, Option.bind_some, List.length_nil, List.length_cons, Nat.reduceAdd, Nat.reduceLeDiff, Nat.zero_le, ↓reduceIte, Int.reduceLT, Int.reduceEq, Int.reduceLE, Int.reduceNeg, Int.reduceAdd, Int.reduceMul, Int.reduceSub, ne_eq, not_true_eq_false, not_false_eq_true, and_true, true_and, and_false, false_and, c3lt, c3gt, c3eq, Bool.false_eq_true, isK_wr, inA_wr, inR_wr, kM, h, g, r0, w, hA, gh, gm, kM1, h1, r1, hA1]
end

/-! a new name; perhaps a number -/
section
variable {d d' N : Nat} {a a' b b' : AM} {s v B : Int}
/-- the names that a new one must not be, both sides -/
def NmR (s : Int) (a b : AM) : Prop :=
  (mrd a s 5 = mrd b 240 1640 ∧ 0 ≤ mrd a s 5 ∧ mrd a s 5 ≤ 4) ∧ (mrd a s 6 = mrd b 240 1641 ∧ 0 ≤ mrd a s 6 ∧ mrd a s 6 ≤ 12) ∧ (mrd a s 7 = mrd b 240 1642 ∧ 0 ≤ mrd a s 7 ∧ mrd a s 7 ≤ 4) ∧
  (∀ j, 0 ≤ j → j < mrd a s 5 → mrd a (s + 1) j = mrd b 242 (80 + j)) ∧ (∀ j, 0 ≤ j → j < mrd a s 6 → mrd a (s + 13 + j) 0 = mrd b 242 (84 + j)) ∧ (∀ j, 0 ≤ j → j < mrd a s 7 → mrd a (s + 25 + 2 * j) 1 = mrd b 242 (96 + j))
theorem NmR.fr (h : NmR s a b) (hs : s = 162 ∨ s = 195) (hA : AX a a') (hB : NX b b') : NmR s a' b' := by
  have ea : ∀ x i, x ≠ 110 → mrd a' x i = mrd a x i := fun x i hx => hA.2 x i (by omega)
  have eb : ∀ x i, x ≠ 235 → mrd b' x i = mrd b x i := fun x i hx => hB.2 x i (by omega)
  obtain ⟨h1, h2, h3, h4, h5, h6⟩ := h
  unfold NmR
  rw [ea s 5 (by omega), ea s 6 (by omega), ea s 7 (by omega), eb _ _ (by decide), eb _ _ (by decide), eb _ _ (by decide)]
  refine ⟨h1, h2, h3, fun j j0 j1 => ?_, fun j j0 j1 => ?_, fun j j0 j1 => ?_⟩
  · rw [ea _ _ (by omega), eb _ _ (by decide)]; exact h4 j j0 j1
  · rw [ea _ _ (by omega), eb _ _ (by decide)]; exact h5 j j0 j1
  · rw [ea _ _ (by omega), eb _ _ (by decide)]; exact h6 j j0 j1
theorem NmR.g (h : NmR s a b) (hm : CM b) : EV (d + 1) 223 0 [(2, 235), (0, 4)] [] b = some ((0, FnM a s (mrd b 235 19)), b) ∧ EV (d + 1) 224 0 [(2, 235), (0, 4)] [] b = some ((0, FnL a s (mrd b 235 19)), b) ∧ EV (d + 1) 225 0 [(2, 235), (0, 4)] [] b = some ((0, FnC a s (mrd b 235 19)), b) := by
  obtain ⟨h1, h2, h3, h4, h5, h6⟩ := h
  exact ⟨m_FnM hm (by decide) (by decide) h1.2.1 h1.2.2 h1.1 h4, m_FnL hm (by decide) (by decide) h2.2.1 h2.2.2 h2.1 h5, m_FnC hm (by decide) (by decide) h3.2.1 h3.2.2 h3.1 h6⟩
theorem x_nnW {a1 : AM} (kk : isK a 110 5) (g : EV d 48 0 [(2, 110)] [] a = some ((1, v), a1)) (k1 : isK a1 110 5) (h : mrd a1 110 9 ≠ 0) : EV (d + 1) 59 0 [(2, s), (2, 110), (3, 0), (3, 0)] [] a = some ((1, v), a1) := by
  simp only [e59_0, e59_1, e59_4, e59_5, e59_6, e59_9, e59_12, e59_13, e59_14, e59_15, e59_16, e59_19, e59_20, e59_23, e59_24, e59_25, e59_28, e59_29, e59_32, e59_33, e59_34, e59_37, e59_38, e59_41, e59_42, e59_43, e59_46, e59_47, e59_48, e59_49, e59_52, e59_53, psh0, psh1, psh3, true_or, or_true, eq_self, Option.bind_some, List.length_nil, List.length_cons, Nat.reduceAdd, Nat.reduceLeDiff, Nat.zero_le, ↓reduceIte, Int.reduceLT, Int.reduceEq, Int.reduceLE, Int.reduceNeg, Int.reduceAdd, Int.reduceMul, Int.reduceSub, ne_eq, not_true_eq_false, not_false_eq_true, and_true, true_and, and_false, false_and, c3lt, c3gt, c3eq, Bool.false_eq_true, isK_wr, inA_wr, inR_wr, kk, g, k1, h]
theorem x_nnF (ks : isK a s 6) (kk : isK a 110 5) (g : EV d 48 0 [(2, 110)] [] a = some ((1, v), a)) (h : mrd a 110 9 = 0) {f1 f2 f3 : Int} (g1 : EV d 60 0 [(2, s), (1, v), (3, 1), (3, 0)] [] a = some ((0, f1), a)) (g2 : EV d 61 0 [(2, s), (1, v), (3, 1), (3, 0)] [] a = some ((0, f2), a)) (g3 : EV d 62 0 [(2, s), (1, v), (3, 1), (3, 0)] [] a = some ((0, f3), a)) (hf : ¬ (f1 = -1 ∧ f2 = -1 ∧ f3 = -1)) : EV (d + 1) 59 0 [(2, s), (2, 110), (3, 0), (3, 0)] [] a = some ((1, v), blm a 3) := by
  have gb := x_blame (d := d) (w := 3) kk
  by_cases c1 : f1 = -1
  · by_cases c2 : f2 = -1
    · have c3 : ¬ f3 = -1 := fun z => hf ⟨c1, c2, z⟩
      simp only [e59_0, e59_1, e59_4, e59_5, e59_6, e59_9, e59_12, e59_13, e59_14, e59_15, e59_16, e59_19, e59_20, e59_23, e59_24, e59_25, e59_28, e59_29, e59_32, e59_33, e59_34, e59_37, e59_38, e59_41, e59_42, e59_43, e59_46, e59_47, e59_48, e59_49, e59_52, e59_53, psh0, psh1, psh3, true_or, or_true, eq_self, Option.bind_some, List.length_nil, List.length_cons, Nat.reduceAdd, Nat.reduceLeDiff, Nat.zero_le, ↓reduceIte, Int.reduceLT, Int.reduceEq, Int.reduceLE, Int.reduceNeg, Int.reduceAdd, Int.reduceMul, Int.reduceSub, ne_eq, not_true_eq_false, not_false_eq_true, and_true, true_and, and_false, false_and, c3lt, c3gt, c3eq, Bool.false_eq_true, isK_wr, inA_wr, inR_wr, ks, kk, g, h, g1, g2, g3, c1, c2, c3, gb]
    · simp only [e59_0, e59_1, e59_4, e59_5, e59_6, e59_9, e59_12, e59_13, e59_14, e59_15, e59_16, e59_19, e59_20, e59_23, e59_24, e59_25, e59_28, e59_29, e59_32, e59_33, e59_34, e59_37, e59_38, e59_41, e59_42, e59_43, e59_46, e59_47, e59_48, e59_49, e59_52, e59_53, psh0, psh1, psh3, true_or, or_true, eq_self, Option.bind_some, List.length_nil, List.length_cons, Nat.reduceAdd, Nat.reduceLeDiff, Nat.zero_le, ↓reduceIte, Int.reduceLT, Int.reduceEq, Int.reduceLE, Int.reduceNeg, Int.reduceAdd, Int.reduceMul, Int.reduceSub, ne_eq, not_true_eq_false, not_false_eq_true, and_true, true_and, and_false, false_and, c3lt, c3gt, c3eq, Bool.false_eq_true, isK_wr, inA_wr, inR_wr, ks, kk, g, h, g1, g2, c1, c2, gb]
  · simp only [e59_0, e59_1, e59_4, e59_5, e59_6, e59_9, e59_12, e59_13, e59_14, e59_15, e59_16, e59_19, e59_20, e59_23, e59_24, e59_25, e59_28, e59_29, e59_32, e59_33, e59_34, e59_37, e59_38, e59_41, e59_42, e59_43, e59_46, e59_47, e59_48, e59_49, e59_52, e59_53, psh0, psh1, psh3, true_or, or_true, eq_self, Option.bind_some, List.length_nil, List.length_cons, Nat.reduceAdd, Nat.reduceLeDiff, Nat.zero_le, ↓reduceIte, Int.reduceLT, Int.reduceEq, Int.reduceLE, Int.reduceNeg, Int.reduceAdd, Int.reduceMul, Int.reduceSub, ne_eq, not_true_eq_false, not_false_eq_true, and_true, true_and, and_false, false_and, c3lt, c3gt, c3eq, Bool.false_eq_true, isK_wr, inA_wr, inR_wr, ks, kk, g, h, g1, c1, gb]
theorem x_nnT (ks : isK a s 6) (kk : isK a 110 5) (g : EV d 48 0 [(2, 110)] [] a = some ((1, v), a)) (h : mrd a 110 9 = 0) {f1 f2 f3 : Int} (g1 : EV d 60 0 [(2, s), (1, v), (3, 1), (3, 0)] [] a = some ((0, f1), a)) (g2 : EV d 61 0 [(2, s), (1, v), (3, 1), (3, 0)] [] a = some ((0, f2), a)) (g3 : EV d 62 0 [(2, s), (1, v), (3, 1), (3, 0)] [] a = some ((0, f3), a)) (c1 : f1 = -1) (c2 : f2 = -1) (c3 : f3 = -1) (ga : EV d 35 0 [(2, 110)] [] a = some ((3, 0), a')) : EV (d + 1) 59 0 [(2, s), (2, 110), (3, 0), (3, 0)] [] a = some ((1, v), a') := by
  simp only [e59_0, e59_1, e59_4, e59_5, e59_6, e59_9, e59_12, e59_13, e59_14, e59_15, e59_16, e59_19, e59_20, e59_23, e59_24, e59_25, e59_28, e59_29, e59_32, e59_33, e59_34, e59_37, e59_38, e59_41, e59_42, e59_43, e59_46, e59_47, e59_48, e59_49, e59_52, e59_53, psh0, psh1, psh3, true_or, or_true, eq_self, Option.bind_some, List.length_nil, List.length_cons, Nat.reduceAdd, Nat.reduceLeDiff, Nat.zero_le, ↓reduceIte, Int.reduceLT, Int.reduceEq, Int.reduceLE, Int.reduceNeg, Int.reduceAdd, Int.reduceMul, Int.reduceSub, ne_eq, not_true_eq_false, not_false_eq_true, and_true, true_and, and_false, false_and, c3lt, c3gt, c3eq, Bool.false_eq_true, isK_wr, inA_wr, inR_wr, ks, kk, g, h, g1, g2, g3, c1, c2, c3, ga]
theorem m_rnW {p : Int} {b1 : AM} (kM : isK b 235 11) (g0 : EV (d + 3) 193 0 [(2, 235), (3, 0)] [] b = some ((3, 0), b1)) (k1 : isK b1 235 11) (n0 : nq b1 = 0) (g : EV (d + 3) 214 0 [(2, 235)] [] b1 = some ((3, 0), b')) (k' : isK b' 235 11) (h' : 0 < mrd b' 235 12) : EV (d + 4) 226 0 [(2, 235), (0, p)] [] b = some ((3, 0), b') := by
  have gn := m_isName (d := d) k1
  rw [show (if mrd b1 235 14 = 1 ∧ mrd b1 235 18 ≤ 8 ∧ wx b1 = -1 then 1 else 0 : Int) = 0 from n0] at gn
  have z : ¬ mrd b' 235 12 = 0 := by omega
  simp only [e226_0, e226_1, e226_4, e226_5, e226_8, e226_11, e226_12, e226_15, e226_16, e226_19, e226_22, e226_23, e226_24, e226_27, e226_30, e226_31, e226_32, e226_35, e226_38, e226_39, e226_40, e226_43, e226_46, e226_47, e226_48, e226_49, e226_52, e226_55, e226_56, e226_59, e226_62, e226_63, e226_64, e226_67, e226_69, e226_70, e226_71, e226_72, e226_75, e226_76, e226_77, e226_80, psh0, psh1, psh3, true_or, or_true, eq_self, Option.bind_some, List.length_nil, List.length_cons, Nat.reduceAdd, Nat.reduceLeDiff, Nat.zero_le, ↓reduceIte, Int.reduceLT, Int.reduceEq, Int.reduceLE, Int.reduceNeg, Int.reduceAdd, Int.reduceMul, Int.reduceSub, ne_eq, not_true_eq_false, not_false_eq_true, and_true, true_and, and_false, false_and, c3lt, c3gt, c3eq, Bool.false_eq_true, isK_wr, inA_wr, inR_wr, kM, g0, k1, gn, g, k', h', z]
theorem m_rnF {p : Int} {b1 : AM} (kM : isK b 235 11) (g0 : EV (d + 3) 193 0 [(2, 235), (3, 0)] [] b = some ((3, 0), b1)) (k1 : isK b1 235 11) (n1 : nq b1 = 1) (h : mrd b1 235 12 = 0) {f1 f2 f3 : Int} (g1 : EV (d + 3) 223 0 [(2, 235), (0, 4)] [] b1 = some ((0, f1), b1)) (g2 : EV (d + 3) 224 0 [(2, 235), (0, 4)] [] b1 = some ((0, f2), b1)) (g3 : EV (d + 3) 225 0 [(2, 235), (0, 4)] [] b1 = some ((0, f3), b1)) (hf : ¬ (f1 < 0 ∧ f2 < 0 ∧ f3 < 0)) (k' : isK (flm b1 3 (mrd b1 235 15)) 235 11) (h' : 0 < mrd (flm b1 3 (mrd b1 235 15)) 235 12) : EV (d + 4) 226 0 [(2, 235), (0, p)] [] b = some ((3, 0), flm b1 3 (mrd b1 235 15)) := by
  have gn := m_isName (d := d) k1
  rw [show (if mrd b1 235 14 = 1 ∧ mrd b1 235 18 ≤ 8 ∧ wx b1 = -1 then 1 else 0 : Int) = 1 from n1] at gn
  have gf := m_fail (d := d + 3) (w := 3) (p := mrd b1 235 15) k1
  by_cases c1 : f1 < 0
  · by_cases c2 : f2 < 0
    · have c3 : ¬ f3 < 0 := fun z => hf ⟨c1, c2, z⟩
      simp only [e226_0, e226_1, e226_4, e226_5, e226_8, e226_11, e226_12, e226_15, e226_16, e226_19, e226_22, e226_23, e226_24, e226_27, e226_30, e226_31, e226_32, e226_35, e226_38, e226_39, e226_40, e226_43, e226_46, e226_47, e226_48, e226_49, e226_52, e226_55, e226_56, e226_59, e226_62, e226_63, e226_64, e226_67, e226_69, e226_70, e226_71, e226_72, e226_75, e226_76, e226_77, e226_80, psh0, psh1, psh3, true_or, or_true, eq_self, Option.bind_some, List.length_nil, List.length_cons, Nat.reduceAdd, Nat.reduceLeDiff, Nat.zero_le, ↓reduceIte, Int.reduceLT, Int.reduceEq, Int.reduceLE, Int.reduceNeg, Int.reduceAdd, Int.reduceMul, Int.reduceSub, ne_eq, not_true_eq_false, not_false_eq_true, and_true, true_and, and_false, false_and, c3lt, c3gt, c3eq, Bool.false_eq_true, isK_wr, inA_wr, inR_wr, kM, g0, k1, gn, h, g1, g2, g3, c1, c2, c3, gf, k', h']
    · simp only [e226_0, e226_1, e226_4, e226_5, e226_8, e226_11, e226_12, e226_15, e226_16, e226_19, e226_22, e226_23, e226_24, e226_27, e226_30, e226_31, e226_32, e226_35, e226_38, e226_39, e226_40, e226_43, e226_46, e226_47, e226_48, e226_49, e226_52, e226_55, e226_56, e226_59, e226_62, e226_63, e226_64, e226_67, e226_69, e226_70, e226_71, e226_72, e226_75, e226_76, e226_77, e226_80, psh0, psh1, psh3, true_or, or_true, eq_self, Option.bind_some, List.length_nil, List.length_cons, Nat.reduceAdd, Nat.reduceLeDiff, Nat.zero_le, ↓reduceIte, Int.reduceLT, Int.reduceEq, Int.reduceLE, Int.reduceNeg, Int.reduceAdd, Int.reduceMul, Int.reduceSub, ne_eq, not_true_eq_false, not_false_eq_true, and_true, true_and, and_false, false_and, c3lt, c3gt, c3eq, Bool.false_eq_true, isK_wr, inA_wr, inR_wr, kM, g0, k1, gn, h, g1, g2, c1, c2, gf, k', h']
  · simp only [e226_0, e226_1, e226_4, e226_5, e226_8, e226_11, e226_12, e226_15, e226_16, e226_19, e226_22, e226_23, e226_24, e226_27, e226_30, e226_31, e226_32, e226_35, e226_38, e226_39, e226_40, e226_43, e226_46, e226_47, e226_48, e226_49, e226_52, e226_55, e226_56, e226_59, e226_62, e226_63, e226_64, e226_67, e226_69, e226_70, e226_71, e226_72, e226_75, e226_76, e226_77, e226_80, psh0, psh1, psh3, true_or, or_true, eq_self, Option.bind_some, List.length_nil, List.length_cons, Nat.reduceAdd, Nat.reduceLeDiff, Nat.zero_le, ↓reduceIte, Int.reduceLT, Int.reduceEq, Int.reduceLE, Int.reduceNeg, Int.reduceAdd, Int.reduceMul, Int.reduceSub, ne_eq, not_true_eq_false, not_false_eq_true, and_true, true_and, and_false, false_and, c3lt, c3gt, c3eq, Bool.false_eq_true, isK_wr, inA_wr, inR_wr, kM, g0, k1, gn, h, g1, c1, gf, k', h']
theorem m_rnT {p : Int} {b1 : AM} (kM : isK b 235 11) (g0 : EV (d + 3) 193 0 [(2, 235), (3, 0)] [] b = some ((3, 0), b1)) (hm : CM b1) (n1 : nq b1 = 1) (h : mrd b1 235 12 = 0) {f1 f2 f3 : Int} (g1 : EV (d + 3) 223 0 [(2, 235), (0, 4)] [] b1 = some ((0, f1), b1)) (g2 : EV (d + 3) 224 0 [(2, 235), (0, 4)] [] b1 = some ((0, f2), b1)) (g3 : EV (d + 3) 225 0 [(2, 235), (0, 4)] [] b1 = some ((0, f3), b1)) (c1 : f1 < 0) (c2 : f2 < 0) (c3 : f3 < 0) (p0 : 0 ≤ p) (p1 : p < 20) (gx : EV (d + 3) 193 0 [(2, 235), (3, 0)] [] (mwr b1 242 (80 + p) (mrd b1 235 19)) = some ((3, 0), b')) : EV (d + 4) 226 0 [(2, 235), (0, p)] [] b = some ((3, 0), b') := by
  have k1 := hm.1
  have gn := m_isName (d := d) k1
  rw [show (if mrd b1 235 14 = 1 ∧ mrd b1 235 18 ≤ 8 ∧ wx b1 = -1 then 1 else 0 : Int) = 1 from n1] at gn
  have r0 : mrd b1 235 22 = 242 := rf_235_22 hm.2.2
  have w0 : w32 (80 + p) = 80 + p := w32_id (by omega) (by omega)
  have hA : inA b1 242 19 (80 + p) := ⟨kn_242 hm.2.1, by omega, by rw [ln_242 hm.2.1]; omega⟩
  simp only [e226_0, e226_1, e226_4, e226_5, e226_8, e226_11, e226_12, e226_15, e226_16, e226_19, e226_22, e226_23, e226_24, e226_27, e226_30, e226_31, e226_32, e226_35, e226_38, e226_39, e226_40, e226_43, e226_46, e226_47, e226_48, e226_49, e226_52, e226_55, e226_56, e226_59, e226_62, e226_63, e226_64, e226_67, e226_69, e226_70, e226_71, e226_72, e226_75, e226_76, e226_77, e226_80, psh0, psh1, psh3, true_or, or_true, eq_self, Option.bind_some, List.length_nil, List.length_cons, Nat.reduceAdd, Nat.reduceLeDiff, Nat.zero_le, ↓reduceIte, Int.reduceLT, Int.reduceEq, Int.reduceLE, Int.reduceNeg, Int.reduceAdd, Int.reduceMul, Int.reduceSub, ne_eq, not_true_eq_false, not_false_eq_true, and_true, true_and, and_false, false_and, c3lt, c3gt, c3eq, Bool.false_eq_true, isK_wr, inA_wr, inR_wr, kM, g0, k1, gn, h, g1, g2, g3, c1, c2, c3, r0, w0, hA, gx]
/-- the reference's frame with one word -/
def NW (b b' : AM) (p : Int) : Prop := b'.2 = b.2 ∧ ∀ x i, ¬ (x = 235 ∧ 12 ≤ i ∧ i ≤ 19) → ¬ (x = 242 ∧ i = p) → mrd b' x i = mrd b x i
theorem NX.w (h : NX b b') {p : Int} : NW b b' p := ⟨h.1, fun x i hx _ => h.2 x i hx⟩
theorem RDM.w242 {i v : Int} (h : RDM b N) : RDM (mwr b 242 i v) N := by
  refine ⟨CM_wrA (by decide +kernel) h.1, by rw [rdn1 (by decide)]; exact h.2.1, h.2.2.1, fun j j0 j1 => by rw [rdn1 (by decide)]; exact h.2.2.2 j j0 j1⟩
/-- past the word that stands here, then a new name -/
theorem nn_both {p : Int} (q : QQ N a b) (h9 : mrd a 110 9 = 0) (h14 : mrd b 235 14 = 1) (hs : s = 162 ∨ s = 195) (nm : NmR s a b) (p0 : 0 ≤ p) (p1 : p < 20) : ∃ a1 v a' b', EV (d + 3) 35 0 [(2, 110)] [] a = some ((3, 0), a1) ∧ AX a a1 ∧ EV (d + 3) 59 0 [(2, s), (2, 110), (3, 0), (3, 0)] [] a1 = some ((1, v), a') ∧ AX a a' ∧ EV (d' + 4) 226 0 [(2, 235), (0, p)] [] b = some ((3, 0), b') ∧ NW b b' (80 + p) ∧ QQ N a' b' ∧ (mrd a' 110 9 = 0 → mrd b' 242 (80 + p) = v ∧ mrd b 235 15 < mrd b' 235 15) := by
  obtain ⟨a1, b1, y1, y2, y3, y4, y5, y6, y7⟩ := adv2 (d := d + 2) (d' := d' + 2) q h9 (by omega)
  have t3 := (q.tg h9).2.2.1 (by omega)
  have t4 := t3.2.2.2 (by omega)
  have n1 := nm.fr hs y3 y4
  have cs : CS a1 s := CS_of y5.1.1 y5.1.2.1 (S6_cur hs)
  have e12 := y5.e12
  obtain ⟨v, a2, b2, s1, s2, s3, s4, s5, s6, s7⟩ := sn_both (d := d) (d' := d' + 2) y5
  by_cases cn : nq b1 = 1
  · obtain ⟨rfl, rfl, ev, v0, h14'⟩ := s6 y6 cn
    obtain ⟨m1, m2, m3⟩ := n1.g (d := d' + 2) y5.2.1.1
    have g1 := x_FnM (d := d + 2) (v := v) cs n1.1.2.1 n1.1.2.2
    have g2 := x_FnL (d := d + 2) (v := v) cs n1.2.1.2.1 n1.2.1.2.2
    have g3 := x_FnC (d := d + 2) (v := v) cs n1.2.2.1.2.1 n1.2.2.1.2.2
    have r1 := FnM_r (v := v) n1.1.2.1
    have r2 := FnL_r (v := v) n1.2.1.2.1
    have r3 := FnC_r (v := v) n1.2.2.1.2.1
    rw [← ev] at m1 m2 m3
    by_cases cf : FnM a2 s v = -1 ∧ FnL a2 s v = -1 ∧ FnC a2 s v = -1
    · have qw : QQ N a2 (mwr b2 242 (80 + p) (mrd b2 235 19)) := y5.fr (fun _ _ _ => rfl) (fun x i hx => by rw [rd_wr, if_neg (by omega)]) y5.1 y5.2.1.w242
      have hw14 : mrd (mwr b2 242 (80 + p) (mrd b2 235 19)) 235 14 ≠ 4 := by rw [rdn1 (by decide)]; omega
      obtain ⟨a', b', z1, z2, z3, z4, z5, z6, z7⟩ := adv2 (d := d + 1) (d' := d' + 2) qw y6 hw14
      have u3 := (y5.tg y6).2.2.1 (by omega)
      have u4 := u3.2.2.2 (by omega)
      rw [rdn1 (by decide)] at z7
      refine ⟨a2, v, a', b', y1, y3, x_nnT cs.1 y5.k s1 y6 g1 g2 g3 cf.1 cf.2.1 cf.2.2 z1, y3.tr z3, m_rnT q.km y2 y5.2.1.1 cn (by omega) m1 m2 m3 (by omega) (by omega) (by omega) p0 p1 z2, ⟨z4.1.trans y4.1, fun x i hx hp => ?_⟩, z5, fun _ => ⟨?_, by omega⟩⟩
      · rw [z4.2 x i hx, rd_wr, if_neg (by omega)]; exact y4.2 x i hx
      · rw [z4.2 _ _ (by omega), rde]; exact ev.symm
    · obtain ⟨w1, w2, w3, w4⟩ := blm_both y5 (w := 3) (by decide)
      have w5 := w1.e12
      have w6 := w1.ge
      exact ⟨a2, v, _, _, y1, y3, x_nnF cs.1 y5.k s1 y6 g1 g2 g3 cf, y3.tr w3, m_rnF q.km y2 y5.km cn (by omega) m1 m2 m3 (fun z => cf ⟨by omega, by omega, by omega⟩) w1.km (by omega), (y4.tr w4).w, w1, fun z => absurd z w2⟩
  · obtain ⟨n0, gw, w1, v0⟩ := s7 y6 cn
    have r5 := s4.e12
    have r6 := s4.ge
    exact ⟨a1, v, a2, b2, y1, y3, x_nnW y5.k s1 s4.k w1, y3.tr s2, m_rnW q.km y2 y5.km n0 gw s4.km (by omega), (y4.tr s3).w, s4, fun z => absurd z w1⟩
end

/-! the reference's copy; the relation of a copy -/
section
variable {d : Nat} {h : AM} {x y : Int}
theorem m_copy_1 (hm : CM h) (x0 : 0 ≤ x) (x1 : x < 5) (y0 : 0 ≤ y) (y1 : y < 5) (hn : x ≠ y) (n : Nat) : ∀ i : Nat, i + n = 410 → EV d 324 2 [(2, 235), (0, x), (0, y), (0, (i : Int))] [] (mff h 240 (410 * y) i (fun i => mrd h 240 (410 * x + i))) = EV d 324 41 [(2, 235), (0, x), (0, y), (0, 0)] [] (mff h 240 (410 * y) 410 (fun i => mrd h 240 (410 * x + i))) := by
  have e20 : ∀ n, mrd (mff h 240 (410 * y) n (fun i => mrd h 240 (410 * x + i))) 235 20 = 240 := fun n => by
    rw [rdff (by decide)]; exact rf_235_20 hm.2.2
  induction n with
  | zero =>
    intro i hi
    have e : i = 410 := by omega
    subst e
    rw [e324_2]
    simp only [e324_0, e324_1, e324_3, e324_6, e324_9, e324_10, e324_13, e324_16, e324_17, e324_18, e324_19, e324_20, e324_21, e324_24, e324_27, e324_28, e324_29, e324_30, e324_31, e324_32, e324_33, e324_36, e324_39, e324_40, e324_42, e324_44, e324_47, e324_48, e324_51, e324_53, e324_54, e324_55, e324_56, e324_57, e324_58, e324_61, e324_63, e324_64, e324_65, e324_66, e324_67, e324_68, e324_69, e324_72, e324_75, psh0, psh1, psh3, true_or, or_true, eq_self, Option.bind_some, List.length_nil, List.length_cons, Nat.reduceAdd, Nat.reduceLeDiff, Nat.zero_le, ↓reduceIte, Int.reduceLT, Int.reduceEq, Int.reduceLE, Int.reduceNeg, Int.reduceAdd, Int.reduceMul, Int.reduceSub, ne_eq, not_true_eq_false, not_false_eq_true, and_true, true_and, and_false, false_and, c3lt, c3gt, c3eq, Bool.false_eq_true, isK_wr, inA_wr, inR_wr, show ¬ (((410 : Nat) : Int) < 410) by decide]
    rfl
  | succ n ih =>
    intro i hi
    have c : (i : Int) < 410 := by omega
    have w1 : w32 ((i : Int) + 1) = ((i + 1 : Nat) : Int) := by rw [w32_id (by omega) (by omega)]; omega
    have w2 : w32 (410 * x) = 410 * x := w32_id (by omega) (by omega)
    have w3 : w32 (410 * y) = 410 * y := w32_id (by omega) (by omega)
    have w4 : w32 (410 * x + i) = 410 * x + i := w32_id (by omega) (by omega)
    have w5 : w32 (410 * y + i) = 410 * y + i := w32_id (by omega) (by omega)
    have i1 : inA h 240 16 (410 * x + i) := ⟨kn_240 hm.2.1, by omega, by rw [ln_240 hm.2.1]; omega⟩
    have i2 : inA h 240 16 (410 * y + i) := ⟨kn_240 hm.2.1, by omega, by rw [ln_240 hm.2.1]; omega⟩
    have er : mrd (mff h 240 (410 * y) i (fun i => mrd h 240 (410 * x + i))) 240 (410 * x + i) = mrd h 240 (410 * x + i) := by
      rw [rd_ff, if_neg (by omega)]
    have e := mff_s (h := h) (a := 240) (i := 410 * y) (n := i) (f := fun i => mrd h 240 (410 * x + i)) (by omega)
    rw [e324_2]
    simp only [e324_0, e324_1, e324_3, e324_6, e324_9, e324_10, e324_13, e324_16, e324_17, e324_18, e324_19, e324_20, e324_21, e324_24, e324_27, e324_28, e324_29, e324_30, e324_31, e324_32, e324_33, e324_36, e324_39, e324_40, e324_42, e324_44, e324_47, e324_48, e324_51, e324_53, e324_54, e324_55, e324_56, e324_57, e324_58, e324_61, e324_63, e324_64, e324_65, e324_66, e324_67, e324_68, e324_69, e324_72, e324_75, psh0, psh1, psh3, true_or, or_true, eq_self, Option.bind_some, List.length_nil, List.length_cons, Nat.reduceAdd, Nat.reduceLeDiff, Nat.zero_le, ↓reduceIte, Int.reduceLT, Int.reduceEq, Int.reduceLE, Int.reduceNeg, Int.reduceAdd, Int.reduceMul, Int.reduceSub, ne_eq, not_true_eq_false, not_false_eq_true, and_true, true_and, and_false, false_and, c3lt, c3gt, c3eq, Bool.false_eq_true, isK_wr, inA_wr, inR_wr, isK_ff, inA_ff, hm.1, c, e20, w1, w2, w3, w4, w5, i1, i2, er]
    rw [show mwr (mff h 240 (410 * y) (↑i) (fun i => mrd h 240 (410 * x + i))) 240 (410 * y + ↑i) (mrd h 240 (410 * x + ↑i)) = _ from e]
    exact ih (i + 1) (by omega)
theorem m_copy_2 (hm : CM h) (x0 : 0 ≤ x) (x1 : x < 5) (y0 : 0 ≤ y) (y1 : y < 5) (hn : x ≠ y) (n : Nat) : ∀ i : Nat, i + n = 20 → EV d 324 41 [(2, 235), (0, x), (0, y), (0, (i : Int))] [] (mff h 242 (20 * y) i (fun i => mrd h 242 (20 * x + i))) = some ((3, 0), mff h 242 (20 * y) 20 (fun i => mrd h 242 (20 * x + i))) := by
  have e20 : ∀ n, mrd (mff h 242 (20 * y) n (fun i => mrd h 242 (20 * x + i))) 235 22 = 242 := fun n => by
    rw [rdff (by decide)]; exact rf_235_22 hm.2.2
  induction n with
  | zero =>
    intro i hi
    have e : i = 20 := by omega
    subst e
    rw [e324_41]
    simp only [e324_0, e324_1, e324_3, e324_6, e324_9, e324_10, e324_13, e324_16, e324_17, e324_18, e324_19, e324_20, e324_21, e324_24, e324_27, e324_28, e324_29, e324_30, e324_31, e324_32, e324_33, e324_36, e324_39, e324_40, e324_42, e324_44, e324_47, e324_48, e324_51, e324_53, e324_54, e324_55, e324_56, e324_57, e324_58, e324_61, e324_63, e324_64, e324_65, e324_66, e324_67, e324_68, e324_69, e324_72, e324_75, psh0, psh1, psh3, true_or, or_true, eq_self, Option.bind_some, List.length_nil, List.length_cons, Nat.reduceAdd, Nat.reduceLeDiff, Nat.zero_le, ↓reduceIte, Int.reduceLT, Int.reduceEq, Int.reduceLE, Int.reduceNeg, Int.reduceAdd, Int.reduceMul, Int.reduceSub, ne_eq, not_true_eq_false, not_false_eq_true, and_true, true_and, and_false, false_and, c3lt, c3gt, c3eq, Bool.false_eq_true, isK_wr, inA_wr, inR_wr, show ¬ (((20 : Nat) : Int) < 20) by decide]
    rfl
  | succ n ih =>
    intro i hi
    have c : (i : Int) < 20 := by omega
    have w1 : w32 ((i : Int) + 1) = ((i + 1 : Nat) : Int) := by rw [w32_id (by omega) (by omega)]; omega
    have w2 : w32 (20 * x) = 20 * x := w32_id (by omega) (by omega)
    have w3 : w32 (20 * y) = 20 * y := w32_id (by omega) (by omega)
    have w4 : w32 (20 * x + i) = 20 * x + i := w32_id (by omega) (by omega)
    have w5 : w32 (20 * y + i) = 20 * y + i := w32_id (by omega) (by omega)
    have i1 : inA h 242 19 (20 * x + i) := ⟨kn_242 hm.2.1, by omega, by rw [ln_242 hm.2.1]; omega⟩
    have i2 : inA h 242 19 (20 * y + i) := ⟨kn_242 hm.2.1, by omega, by rw [ln_242 hm.2.1]; omega⟩
    have er : mrd (mff h 242 (20 * y) i (fun i => mrd h 242 (20 * x + i))) 242 (20 * x + i) = mrd h 242 (20 * x + i) := by
      rw [rd_ff, if_neg (by omega)]
    have e := mff_s (h := h) (a := 242) (i := 20 * y) (n := i) (f := fun i => mrd h 242 (20 * x + i)) (by omega)
    rw [e324_41]
    simp only [e324_0, e324_1, e324_3, e324_6, e324_9, e324_10, e324_13, e324_16, e324_17, e324_18, e324_19, e324_20, e324_21, e324_24, e324_27, e324_28, e324_29, e324_30, e324_31, e324_32, e324_33, e324_36, e324_39, e324_40, e324_42, e324_44, e324_47, e324_48, e324_51, e324_53, e324_54, e324_55, e324_56, e324_57, e324_58, e324_61, e324_63, e324_64, e324_65, e324_66, e324_67, e324_68, e324_69, e324_72, e324_75, psh0, psh1, psh3, true_or, or_true, eq_self, Option.bind_some, List.length_nil, List.length_cons, Nat.reduceAdd, Nat.reduceLeDiff, Nat.zero_le, ↓reduceIte, Int.reduceLT, Int.reduceEq, Int.reduceLE, Int.reduceNeg, Int.reduceAdd, Int.reduceMul, Int.reduceSub, ne_eq, not_true_eq_false, not_false_eq_true, and_true, true_and, and_false, false_and, c3lt, c3gt, c3eq, Bool.false_eq_true, isK_wr, inA_wr, inR_wr, isK_ff, inA_ff, hm.1, c, e20, w1, w2, w3, w4, w5, i1, i2, er]
    rw [show mwr (mff h 242 (20 * y) (↑i) (fun i => mrd h 242 (20 * x + i))) 242 (20 * y + ↑i) (mrd h 242 (20 * x + ↑i)) = _ from e]
    exact ih (i + 1) (by omega)
/-- the memory after M.copy -/
def mcy (h : AM) (x y : Int) : AM := mff (mff h 240 (410 * y) 410 (fun i => mrd h 240 (410 * x + i))) 242 (20 * y) 20 (fun i => mrd h 242 (20 * x + i))
theorem rd_cy {b q : Int} : mrd (mcy h x y) b q = if b = 242 ∧ 20 * y ≤ q ∧ q < 20 * y + 20 then mrd h 242 (20 * x + (q - 20 * y)) else if b = 240 ∧ 410 * y ≤ q ∧ q < 410 * y + 410 then mrd h 240 (410 * x + (q - 410 * y)) else mrd h b q := rfl
theorem m_copy (hm : CM h) (x0 : 0 ≤ x) (x1 : x < 5) (y0 : 0 ≤ y) (y1 : y < 5) (hn : x ≠ y) : EV d 324 0 [(2, 235), (0, x), (0, y), (3, 0)] [] h = some ((3, 0), mcy h x y) := by
  have g1 := m_copy_1 (d := d) hm x0 x1 y0 y1 hn 410 0 (by omega)
  rw [show ((0 : Nat) : Int) = 0 from rfl, mff_0] at g1
  have g2 := m_copy_2 (d := d) (h := mff h 240 (410 * y) 410 (fun i => mrd h 240 (410 * x + i))) (CM_ffA (by decide +kernel) hm) x0 x1 y0 y1 hn 20 0 (by omega)
  rw [show ((0 : Nat) : Int) = 0 from rfl, mff_0] at g2
  rw [e324_0, e324_1, g1, g2]
  rfl
end
theorem dep_congr {f g : Int → Int} {p : Nat} (h : ∀ q : Int, 0 ≤ q → q < p → f q = g q) : dep f p = dep g p := by
  unfold dep
  congr 1
  apply List.filter_congr
  intro q hq
  rw [h q (by omega) (by have := List.mem_range.mp hq; omega)]
/-- a copy of a school is alike its block's copy -/
theorem RSch_cp {m m' : Int → Int → Int} {s1 s2 B1 B2 w1 w2 : Int} (e0 : ∀ q, 5 ≤ q → q ≤ 8 → m' s2 q = m s1 q) (e1 : ∀ l, 0 ≤ l → l < m s1 6 → ∀ q, 0 ≤ q → q ≤ 6 → m' (s2 + 13 + l) q = m (s1 + 13 + l) q) (e2 : ∀ k, 0 ≤ k → k < m s1 7 → (∀ q, 1 ≤ q → q ≤ 6 → m' (s2 + 25 + 2 * k) q = m (s1 + 25 + 2 * k) q) ∧ ∀ q, 0 ≤ q → q < 12 → m' (s2 + 26 + 2 * k) q = m (s1 + 26 + 2 * k) q) (e4 : ∀ i, 0 ≤ i → i < 128 → m' 240 (B2 + i) = m 240 (B1 + i)) (e5 : ∀ i, 0 ≤ i → i < 20 → m' 242 (w2 + i) = m 242 (w1 + i)) (h : RSch m s1 B1 w1) : RSch m' s2 B2 w2 := by
  obtain ⟨h1, h2, h3, h4, h5, h6⟩ := h
  have q5 := e0 5 (by decide) (by decide)
  have q6 := e0 6 (by decide) (by decide)
  have q7 := e0 7 (by decide) (by decide)
  have q8 := e0 8 (by decide) (by decide)
  refine ⟨?_, ?_, ?_, ?_, fun l l0 l1 => ?_, fun k k0 k1 => ?_⟩
  · rw [q5, e4 0 (by decide) (by decide)]; exact h1
  · rw [q6, e4 1 (by decide) (by decide)]; exact h2
  · rw [q7, e4 2 (by decide) (by decide)]; exact h3
  · rw [q8, e4 3 (by decide) (by decide)]; exact h4
  · rw [q6] at l1
    have := h5 l l0 l1
    have el := e1 l l0 l1
    unfold RLes at this ⊢
    rw [el 0 (by decide) (by decide), el 1 (by decide) (by decide), el 2 (by decide) (by decide), el 3 (by decide) (by decide), el 4 (by decide) (by decide), el 5 (by decide) (by decide), el 6 (by decide) (by decide), q5]
    have z : ∀ c, 0 ≤ c → c ≤ 52 → m' 240 (B2 + c + l) = m 240 (B1 + c + l) := fun c c0 c1 => by
      have := e4 (c + l) (by omega) (by omega)
      rwa [← Int.add_assoc, ← Int.add_assoc] at this
    have zw : m' 242 (w2 + 4 + l) = m 242 (w1 + 4 + l) := by
      have := e5 (4 + l) (by omega) (by omega)
      rwa [← Int.add_assoc, ← Int.add_assoc] at this
    rw [z 4 (by decide) (by decide), z 16 (by decide) (by decide), z 28 (by decide) (by decide), z 40 (by decide) (by decide), z 52 (by decide) (by decide), zw]
    exact this
  · rw [q7] at k1
    have := h6 k k0 k1
    obtain ⟨ec, ea⟩ := e2 k k0 k1
    unfold RChi at this ⊢
    obtain ⟨g1, g2, g3, g4, g5, g6, g7, g8⟩ := this
    have z : ∀ c, 0 ≤ c → c ≤ 76 → m' 240 (B2 + c + k) = m 240 (B1 + c + k) := fun c c0 c1 => by
      have := e4 (c + k) (by omega) (by omega)
      rwa [← Int.add_assoc, ← Int.add_assoc] at this
    have zw : m' 242 (w2 + 16 + k) = m 242 (w1 + 16 + k) := by
      have := e5 (16 + k) (by omega) (by omega)
      rwa [← Int.add_assoc, ← Int.add_assoc] at this
    rw [ec 1 (by decide) (by decide), ec 2 (by decide) (by decide), ec 3 (by decide) (by decide), ec 4 (by decide) (by decide), ec 5 (by decide) (by decide), ec 6 (by decide) (by decide), q6, z 64 (by decide) (by decide), z 68 (by decide) (by decide), z 72 (by decide) (by decide), z 76 (by decide) (by decide), zw]
    refine ⟨g1, g2, g3, g4, g5, fun p p0 p1 => ?_, fun p q p0 p1 q1 => ?_, ?_⟩
    · have zz : m' 240 (B2 + 80 + 12 * k + p) = m 240 (B1 + 80 + 12 * k + p) := by
        have := e4 (80 + 12 * k + p) (by omega) (by omega)
        rwa [show B2 + (80 + 12 * k + p) = B2 + 80 + 12 * k + p by omega, show B1 + (80 + 12 * k + p) = B1 + 80 + 12 * k + p by omega] at this
      rw [ea p p0 (by omega), zz]
      exact g6 p p0 p1
    · rw [ea p p0 (by omega), ea q (by omega) (by omega)]
      exact g7 p q p0 p1 q1
    · rw [g8]
      exact kb_congr _ (fun i i0 i1 => (ea i i0 (by omega)).symm)
theorem RAge_cp {m m' : Int → Int → Int} {a1 a2 B1 B2 nc nl : Int} (e0 : m' a2 6 = m a1 6 ∧ m' a2 7 = m a1 7) (e1 : ∀ j, 1 ≤ j → j ≤ 5 → ∀ q, 0 ≤ q → q < 30 → m' (a2 + j) q = m (a1 + j) q) (e4 : ∀ i, 128 ≤ i → i < 410 → m' 240 (B2 + i) = m 240 (B1 + i)) (h : RAge m a1 B1 nc nl) : RAge m' a2 B2 nc nl := by
  obtain ⟨h1, h2, h3⟩ := h
  refine ⟨by rw [e0.1]; exact h1, by rw [e0.1, e4 128 (by decide) (by decide)]; exact h2, fun z => ?_⟩
  rw [e0.1] at z
  obtain ⟨g1, g2, g3, g4⟩ := h3 z
  have z5 : ∀ q, 0 ≤ q → q < m a1 7 → m' (a2 + 5) q = m (a1 + 5) q := fun q q0 q1 => e1 5 (by decide) (by decide) q q0 (by omega)
  refine ⟨by rw [e0.2, e4 129 (by decide) (by decide)]; exact g1, fun p p0 p1 => ?_, fun p q p0 p1 q1 pn => ?_, fun p p1 => ?_⟩
  · rw [e0.2] at p1
    have := g2 p p0 p1
    have y : ∀ c, 128 ≤ c → c ≤ 138 → m' 240 (B2 + c + 9 * p) = m 240 (B1 + c + 9 * p) := fun c c0 c1 => by
      have := e4 (c + 9 * p) (by omega) (by omega)
      rwa [← Int.add_assoc, ← Int.add_assoc] at this
    have x : ∀ j, 1 ≤ j → j ≤ 5 → m' (a2 + j) p = m (a1 + j) p := fun j j0 j1 => e1 j j0 j1 p p0 (by omega)
    unfold RStp at this ⊢
    rw [x 1 (by decide) (by decide), x 2 (by decide) (by decide), x 3 (by decide) (by decide), x 4 (by decide) (by decide), x 5 (by decide) (by decide), e0.2, y 130 (by decide) (by decide), y 131 (by decide) (by decide), y 132 (by decide) (by decide), y 136 (by decide) (by decide), y 137 (by decide) (by decide), y 138 (by decide) (by decide)]
    exact this
  · rw [e0.2] at pn
    have b := (g2 p p0 pn).1.2.2
    rw [z5 p p0 pn] at q1 ⊢
    rw [z5 q (by omega) (by omega)]
    exact g3 p q p0 p1 q1 pn
  · rw [e0.2] at p1
    rw [dep_congr (g := m (a1 + 5)) (fun q q0 q1 => z5 q q0 (by omega))]
    exact g4 p p1

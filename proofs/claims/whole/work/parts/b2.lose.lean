/-! rest, pay, lose -/
theorem RChi_pc {m m' : Int → Int → Int} {s k : Int} (hk : RChi m s 0 0 k) (e1 : m' (s + 25 + 2 * k) 1 = m (s + 25 + 2 * k) 1) (e2 : m' (s + 25 + 2 * k) 2 = m (s + 25 + 2 * k) 2) (e5 : m' (s + 25 + 2 * k) 5 = m (s + 25 + 2 * k) 5) (e6 : m' (s + 25 + 2 * k) 6 = m (s + 25 + 2 * k) 6) (eA : m' (s + 26 + 2 * k) = m (s + 26 + 2 * k))
    (f2 : m' 240 (64 + k) = m 240 (64 + k)) (f6 : m' 240 (76 + k) = m 240 (76 + k)) (fA : ∀ p, 0 ≤ p → p < 12 → m' 240 (80 + 12 * k + p) = m 240 (80 + 12 * k + p)) (fw : m' 242 (16 + k) = m 242 (16 + k)) (es : m' s 6 = m s 6) (h3 : m' (s + 25 + 2 * k) 3 = m' 240 (68 + k) ∧ 0 ≤ m' (s + 25 + 2 * k) 3 ∧ m' (s + 25 + 2 * k) 3 ≤ 9999) (h4 : m' (s + 25 + 2 * k) 4 = m' 240 (72 + k)) : RChi m' s 0 0 k := by
  unfold RChi at hk ⊢
  simp only [Int.zero_add] at hk ⊢
  obtain ⟨g1, g2, g3, g4, g5, g6, g7, g8⟩ := hk
  rw [e1, e2, e5, e6, eA, f2, f6, fw, es]
  refine ⟨g1, g2, h3, h4, g5, fun p p0 p1 => ?_, g7, g8⟩
  rw [fA p p0 (by omega)]
  exact g6 p p0 p1
theorem RChi_lose {m m' : Int → Int → Int} {s k p : Int} (hk : RChi m s 0 0 k) (h12 : m s 6 ≤ 12) (p0 : 0 ≤ p) (p1 : p < m (s + 25 + 2 * k) 6) (e1 : m' (s + 25 + 2 * k) 1 = m (s + 25 + 2 * k) 1) (e2 : m' (s + 25 + 2 * k) 2 = m (s + 25 + 2 * k) 2) (e3 : m' (s + 25 + 2 * k) 3 = m (s + 25 + 2 * k) 3) (e4 : m' (s + 25 + 2 * k) 4 = m (s + 25 + 2 * k) 4) (e5 : m' (s + 25 + 2 * k) 5 = i_and (m (s + 25 + 2 * k) 5) (i_xor (i_shl 1 (m (s + 26 + 2 * k) p)) (-1))) (e6 : m' (s + 25 + 2 * k) 6 = m (s + 25 + 2 * k) 6 - 1) (eA : ∀ q, 0 ≤ q → m' (s + 26 + 2 * k) q = if p ≤ q ∧ q < m (s + 25 + 2 * k) 6 - 1 then m (s + 26 + 2 * k) (q + 1) else m (s + 26 + 2 * k) q)
    (f2 : m' 240 (64 + k) = m 240 (64 + k)) (f3 : m' 240 (68 + k) = m 240 (68 + k)) (f4 : m' 240 (72 + k) = m 240 (72 + k)) (f6 : m' 240 (76 + k) = m 240 (76 + k) - 1) (fA : ∀ q, 0 ≤ q → q < 12 → m' 240 (80 + 12 * k + q) = if p ≤ q ∧ q < m 240 (76 + k) - 1 then m 240 (80 + 12 * k + (q + 1)) else m 240 (80 + 12 * k + q)) (fw : m' 242 (16 + k) = m 242 (16 + k)) (es : m' s 6 = m s 6) : RChi m' s 0 0 k := by
  unfold RChi at hk ⊢
  simp only [Int.zero_add] at hk ⊢
  obtain ⟨g1, g2, g3, g4, g5, g6, g7, g8⟩ := hk
  rw [e1, e2, e3, e4, e5, e6, f2, f3, f4, f6, fw, es]
  refine ⟨g1, g2, g3, g4, ⟨by rw [g5.1], by omega, by omega⟩, fun q q0 q1 => ?_, fun q r q0 qr r1 => ?_, ?_⟩
  · rw [eA q q0, fA q q0 (by omega), ← g5.1]
    by_cases c : p ≤ q ∧ q < m (s + 25 + 2 * k) 6 - 1
    · rw [if_pos c, if_pos c]
      exact g6 (q + 1) (by omega) (by omega)
    · rw [if_neg c, if_neg c]
      exact g6 q q0 (by omega)
  · rw [eA q q0, eA r (by omega)]
    by_cases c : p ≤ q ∧ q < m (s + 25 + 2 * k) 6 - 1
    · rw [if_pos c, if_pos (by omega)]
      exact g7 (q + 1) (r + 1) (by omega) (by omega) (by omega)
    · rw [if_neg c]
      by_cases c2 : p ≤ r ∧ r < m (s + 25 + 2 * k) 6 - 1
      · rw [if_pos c2]
        exact g7 q (r + 1) q0 (by omega) (by omega)
      · rw [if_neg c2]
        exact g7 q r q0 qr (by omega)
  · have hr : ∀ j : Nat, (j : Int) < m (s + 25 + 2 * k) 6 → 0 ≤ m (s + 26 + 2 * k) j ∧ m (s + 26 + 2 * k) j < 12 := fun j hj => by
      have := g6 j (by omega) hj
      omega
    have hp := g6 p p0 p1
    have hr' : ∀ j : Nat, j < (m (s + 25 + 2 * k) 6 - 1).toNat → 0 ≤ m' (s + 26 + 2 * k) j ∧ m' (s + 26 + 2 * k) j < 32 := fun j hj => by
      rw [eA j (by omega)]
      split
      · have := g6 (j + 1) (by omega) (by omega)
        omega
      · have := g6 j (by omega) (by omega)
        omega
    refine bI_ext (in_and _ _) (kb_in _ _) (fun i hi => ?_)
    rw [g8, bI_and, bI_not _ hi, bI_shl hp.2.1 (by omega), Bool.eq_iff_iff, Bool.and_eq_true, kb_iff _ (fun j hj => ⟨(hr j (by omega)).1, by have := (hr j (by omega)).2; omega⟩) i, kb_iff _ hr' i]
    simp only [Bool.not_eq_true', decide_eq_false_iff_not]
    constructor
    · rintro ⟨⟨j, j1, j2⟩, hne⟩
      have hjp : (j : Int) ≠ p := fun z => hne (by rw [← j2, z])
      by_cases c : (j : Int) < p
      · refine ⟨j, by omega, ?_⟩
        rw [eA j (by omega), if_neg (by omega)]
        exact j2
      · refine ⟨j - 1, by omega, ?_⟩
        rw [eA _ (by omega), if_pos (by omega), show (((j - 1 : Nat) : Int) + 1) = j by omega]
        exact j2
    · rintro ⟨j, j1, j2⟩
      rw [eA j (by omega)] at j2
      by_cases c : p ≤ (j : Int) ∧ (j : Int) < m (s + 25 + 2 * k) 6 - 1
      · rw [if_pos c] at j2
        refine ⟨⟨j + 1, by omega, by push_cast; exact j2⟩, fun z => ?_⟩
        exact g7 p (j + 1) p0 (by omega) (by omega) (by rw [j2, z])
      · rw [if_neg c] at j2
        refine ⟨⟨j, by omega, j2⟩, fun z => ?_⟩
        exact g7 j p (by omega) (by omega) p1 (by rw [j2, z])
/-- losing a letter, on the two sides -/
def FG (h : AM) (s k p : Int) : AM := mwr (mcp (mwr h (s + 25 + 2 * k) 6 (mrd h (s + 25 + 2 * k) 6 - 1)) (s + 26 + 2 * k) (p + 1) (s + 26 + 2 * k) p (mrd h (s + 25 + 2 * k) 6 - 1 - p)) (s + 25 + 2 * k) 5 (i_and (mrd h (s + 25 + 2 * k) 5) (i_xor (i_shl 1 (mrd h (s + 26 + 2 * k) p)) (-1)))
def FM (g : AM) (k p : Int) : AM := mwr (mcp g 240 (80 + 12 * k + p + 1) 240 (80 + 12 * k + p) (mrd g 240 (76 + k) - 1 - p)) 240 (76 + k) (mrd g 240 (76 + k) - 1)
section
variable {d : Nat} {h g : AM} {s a b c i k l p v w x y z : Int}
theorem x_forget_loop (hk : isK h (s + 25 + 2 * k) 1) (r0 : mrd h (s + 25 + 2 * k) 0 = s + 26 + 2 * k) (hA : isK h (s + 26 + 2 * k) 16) (lA : mln h (s + 26 + 2 * k) = 12) (p0 : 0 ≤ p) (L : Int) (hL : mrd h (s + 25 + 2 * k) 6 = L) (L12 : L < 12) (n : Nat) : ∀ i : Nat, p + i + n = L → EV d 13 19 [(2, s + 25 + 2 * k), (0, p), (0, x), (0, p + i)] [] (mcp h (s + 26 + 2 * k) (p + 1) (s + 26 + 2 * k) p i) = EV d 13 47 [(2, s + 25 + 2 * k), (0, p), (0, x), (0, L)] [] (mcp h (s + 26 + 2 * k) (p + 1) (s + 26 + 2 * k) p (L - p)) := by
  have nAC : (s + 25 + 2 * k = s + 26 + 2 * k) = False := eq_false (by omega)
  induction n with
  | zero =>
    intro i hi
    have e : p + (i : Int) = L := by omega
    have e2 : (i : Int) = L - p := by omega
    rw [e13_19, e, e2]
    simp only [e13_20, e13_21, e13_24, psh0, psh1, psh3, true_or, or_true, eq_self, Option.bind_some, List.length_nil, List.length_cons, Nat.reduceAdd, Nat.reduceLeDiff, Nat.zero_le, ↓reduceIte, Int.reduceLT, Int.reduceEq, Int.reduceLE, Int.reduceNeg, Int.reduceAdd, Int.reduceMul, Int.reduceSub, ne_eq, not_true_eq_false, not_false_eq_true, and_true, true_and, and_false, false_and, c3lt, c3gt, c3eq, Bool.false_eq_true, isK_wr, inA_wr, inR_wr, isK_cp, hk, rdc, nAC, hL, Int.lt_irrefl]
  | succ n ih =>
    intro i hi
    have c : p + (i : Int) < L := by omega
    have w1 : w32 (p + (i : Int) + 1) = p + (i : Int) + 1 := w32_id (by omega) (by omega)
    have i1 : inA h (s + 26 + 2 * k) 16 (p + (i : Int) + 1) := ⟨hA, by omega, by rw [lA]; omega⟩
    have i2 : inA h (s + 26 + 2 * k) 16 (p + (i : Int)) := ⟨hA, by omega, by rw [lA]; omega⟩
    have e := mcp_f (h := h) (r := s + 26 + 2 * k) (S := p + 1) (D := p) (n := i) (by omega) (by omega)
    rw [show p + 1 + (i : Int) = p + i + 1 by omega] at e
    have ih' := ih (i + 1) (by omega)
    rw [show p + ((i + 1 : Nat) : Int) = p + i + 1 by omega, show ((i + 1 : Nat) : Int) = (i : Int) + 1 by omega] at ih'
    rw [e13_19]
    simp only [e13_0, e13_1, e13_4, e13_5, e13_6, e13_7, e13_8, e13_8i, e13_9, e13_12, e13_13, e13_14, e13_17, e13_18, e13_20, e13_21, e13_24, e13_27, e13_28, e13_31, e13_32, e13_33, e13_36, e13_37, e13_38, e13_39, e13_40, e13_41, e13_44, e13_48, e13_48i, e13_49, e13_52, e13_53, e13_54, e13_55, e13_56, e13_57, e13_58, e13_61, e13_62, psh0, psh1, psh3, true_or, or_true, eq_self, Option.bind_some, List.length_nil, List.length_cons, Nat.reduceAdd, Nat.reduceLeDiff, Nat.zero_le, ↓reduceIte, Int.reduceLT, Int.reduceEq, Int.reduceLE, Int.reduceNeg, Int.reduceAdd, Int.reduceMul, Int.reduceSub, ne_eq, not_true_eq_false, not_false_eq_true, and_true, true_and, and_false, false_and, c3lt, c3gt, c3eq, Bool.false_eq_true, isK_wr, inA_wr, inR_wr, isK_cp, inA_cp, hk, rdc, nAC, hL, c, r0, w1, i1, i2, e]
    exact ih'
theorem x_forget (hs : CS h s) (k0 : 0 ≤ k) (k1 : k < 4) (p0 : 0 ≤ p) (p1 : p < mrd h (s + 25 + 2 * k) 6) (n1 : mrd h (s + 25 + 2 * k) 6 ≤ 12) : EV d 13 0 [(2, s + 25 + 2 * k), (0, p), (3, 0), (3, 0)] [] h = some ((0, mrd h (s + 26 + 2 * k) p), FG h s k p) := by
  obtain ⟨q1, q2, q3, q4, q5, q6⟩ := hs.2.2.2.2.2.2.2.2.2.2.2.2 k k0 k1
  have nAC : (s + 25 + 2 * k = s + 26 + 2 * k) = False := eq_false (by omega)
  have i1 : inA h (s + 26 + 2 * k) 16 p := ⟨q5, p0, by rw [q6]; omega⟩
  have w1 : w32 (mrd h (s + 25 + 2 * k) 6 - 1) = mrd h (s + 25 + 2 * k) 6 - 1 := w32_id (by omega) (by omega)
  have gl := x_forget_loop (d := d) (h := mwr h (s + 25 + 2 * k) 6 (mrd h (s + 25 + 2 * k) 6 - 1)) (s := s) (k := k) (p := p) (x := mrd h (s + 26 + 2 * k) p) q3 (by rw [rdn2 (by decide)]; exact q4) q5 q6 p0 (mrd h (s + 25 + 2 * k) 6 - 1) (by rw [rde]) (by omega) (mrd h (s + 25 + 2 * k) 6 - 1 - p).toNat 0 (by omega)
  rw [show ((0 : Nat) : Int) = 0 from rfl, mcp_0, Int.add_zero] at gl
  unfold FG
  simp only [e13_0, e13_1, e13_4, e13_5, e13_6, e13_7, e13_8, e13_8i, e13_9, e13_12, e13_13, e13_14, e13_17, e13_18, e13_20, e13_21, e13_24, e13_27, e13_28, e13_31, e13_32, e13_33, e13_36, e13_37, e13_38, e13_39, e13_40, e13_41, e13_44, e13_48, e13_48i, e13_49, e13_52, e13_53, e13_54, e13_55, e13_56, e13_57, e13_58, e13_61, e13_62, psh0, psh1, psh3, true_or, or_true, eq_self, Option.bind_some, List.length_nil, List.length_cons, Nat.reduceAdd, Nat.reduceLeDiff, Nat.zero_le, ↓reduceIte, Int.reduceLT, Int.reduceEq, Int.reduceLE, Int.reduceNeg, Int.reduceAdd, Int.reduceMul, Int.reduceSub, ne_eq, not_true_eq_false, not_false_eq_true, and_true, true_and, and_false, false_and, c3lt, c3gt, c3eq, Bool.false_eq_true, isK_wr, inA_wr, inR_wr, q3, q4, i1, w1]
  rw [gl]
  simp only [e13_47, e13_0, e13_1, e13_4, e13_5, e13_6, e13_7, e13_8, e13_8i, e13_9, e13_12, e13_13, e13_14, e13_17, e13_18, e13_20, e13_21, e13_24, e13_27, e13_28, e13_31, e13_32, e13_33, e13_36, e13_37, e13_38, e13_39, e13_40, e13_41, e13_44, e13_47, e13_48, e13_48i, e13_49, e13_52, e13_53, e13_54, e13_55, e13_56, e13_57, e13_58, e13_61, e13_62, psh0, psh1, psh3, true_or, or_true, eq_self, Option.bind_some, List.length_nil, List.length_cons, Nat.reduceAdd, Nat.reduceLeDiff, Nat.zero_le, ↓reduceIte, Int.reduceLT, Int.reduceEq, Int.reduceLE, Int.reduceNeg, Int.reduceAdd, Int.reduceMul, Int.reduceSub, ne_eq, not_true_eq_false, not_false_eq_true, and_true, true_and, and_false, false_and, c3lt, c3gt, c3eq, Bool.false_eq_true, isK_wr, inA_wr, inR_wr, isK_cp, q3, rdc, nAC, rd_wr]
theorem m_loses_loop (hm : CM g) (k0 : 0 ≤ k) (k1 : k < 4) (p0 : 0 ≤ p) (L : Int) (hL : mrd g 240 (76 + k) = L) (L0 : 0 ≤ L) (L12 : L ≤ 12) (n : Nat) : ∀ i : Nat, p + i + n + 1 = L → EV (d + 1) 256 10 [(2, 235), (0, k), (0, p), (0, x), (0, p + i)] [] (mcp g 240 (80 + 12 * k + p + 1) 240 (80 + 12 * k + p) i) = EV (d + 1) 256 52 [(2, 235), (0, k), (0, p), (0, x), (0, L - 1)] [] (mcp g 240 (80 + 12 * k + p + 1) 240 (80 + 12 * k + p) (L - 1 - p)) := by
  have hmm : ∀ n, CM (mcp g 240 (80 + 12 * k + p + 1) 240 (80 + 12 * k + p) n) := fun n => CM_cpA rn_240 hm
  have gl : ∀ d n, EV d 241 0 [(2, 235), (0, k)] [] (mcp g 240 (80 + 12 * k + p + 1) 240 (80 + 12 * k + p) n) = some ((0, L), mcp g 240 (80 + 12 * k + p + 1) 240 (80 + 12 * k + p) n) := fun d n => by
    rw [m_lengthOf (hmm n) k0 k1, rd_cp, if_neg (by omega), hL]
  have wl : w32 (L - 1) = L - 1 := w32_id (by omega) (by omega)
  have w1 : w32 (12 * k) = 12 * k := w32_id (by omega) (by omega)
  have w2 : w32 (80 + 12 * k) = 80 + 12 * k := w32_id (by omega) (by omega)
  have m20 : mrd g 235 20 = 240 := mC hm
  induction n with
  | zero =>
    intro i hi
    have e : p + (i : Int) = L - 1 := by omega
    have e2 : (i : Int) = L - 1 - p := by omega
    rw [e256_10, e, e2]
    simp only [e256_0, e256_1, e256_2, e256_3, e256_6, e256_7, e256_8, e256_12, e256_13, e256_14, e256_17, e256_18, e256_19, e256_22, e256_23, e256_26, e256_28, e256_30, e256_31, e256_32, e256_33, e256_35, e256_36, e256_37, e256_38, e256_40, e256_41, e256_42, e256_45, e256_46, e256_49, e256_53, e256_56, e256_58, e256_59, e256_60, e256_61, e256_62, e256_63, e256_64, e256_65, e256_66, psh0, psh1, psh3, true_or, or_true, eq_self, Option.bind_some, List.length_nil, List.length_cons, Nat.reduceAdd, Nat.reduceLeDiff, Nat.zero_le, ↓reduceIte, Int.reduceLT, Int.reduceEq, Int.reduceLE, Int.reduceNeg, Int.reduceAdd, Int.reduceMul, Int.reduceSub, ne_eq, not_true_eq_false, not_false_eq_true, and_true, true_and, and_false, false_and, c3lt, c3gt, c3eq, Bool.false_eq_true, isK_wr, inA_wr, inR_wr, isK_cp, hm.1, gl, wl, Int.lt_irrefl]
  | succ n ih =>
    intro i hi
    have c : p + (i : Int) < L - 1 := by omega
    have w3 : w32 (80 + 12 * k + (p + i)) = 80 + 12 * k + (p + i) := w32_id (by omega) (by omega)
    have w4 : w32 (p + (i : Int) + 1) = p + i + 1 := w32_id (by omega) (by omega)
    have i2 : inA g 240 16 (80 + 12 * k + (p + i)) := inC hm (by omega) (by omega)
    have g1 := m_lessonOf (d := d) (p := p + i + 1) (hmm i) k0 k1 (by omega) (by omega)
    have e := mcp_f (h := g) (r := 240) (S := 80 + 12 * k + p + 1) (D := 80 + 12 * k + p) (n := i) (by omega) (by omega)
    rw [show 80 + 12 * k + p + 1 + (i : Int) = 80 + 12 * k + (p + i + 1) by omega, show 80 + 12 * k + p + (i : Int) = 80 + 12 * k + (p + i) by omega] at e
    have ih' := ih (i + 1) (by omega)
    rw [show p + ((i + 1 : Nat) : Int) = p + i + 1 by omega, show ((i + 1 : Nat) : Int) = (i : Int) + 1 by omega] at ih'
    rw [e256_10]
    simp only [e256_0, e256_1, e256_2, e256_3, e256_6, e256_7, e256_8, e256_12, e256_13, e256_14, e256_17, e256_18, e256_19, e256_22, e256_23, e256_26, e256_28, e256_30, e256_31, e256_32, e256_33, e256_35, e256_36, e256_37, e256_38, e256_40, e256_41, e256_42, e256_45, e256_46, e256_49, e256_53, e256_56, e256_58, e256_59, e256_60, e256_61, e256_62, e256_63, e256_64, e256_65, e256_66, psh0, psh1, psh3, true_or, or_true, eq_self, Option.bind_some, List.length_nil, List.length_cons, Nat.reduceAdd, Nat.reduceLeDiff, Nat.zero_le, ↓reduceIte, Int.reduceLT, Int.reduceEq, Int.reduceLE, Int.reduceNeg, Int.reduceAdd, Int.reduceMul, Int.reduceSub, ne_eq, not_true_eq_false, not_false_eq_true, and_true, true_and, and_false, false_and, c3lt, c3gt, c3eq, Bool.false_eq_true, isK_wr, inA_wr, inR_wr, isK_cp, inA_cp, hm.1, gl, wl, c, rdc, m20, w1, w2, w3, w4, g1, i2, e]
    exact ih'
theorem m_loses (hm : CM g) (k0 : 0 ≤ k) (k1 : k < 4) (p0 : 0 ≤ p) (p1 : p < mrd g 240 (76 + k)) (n1 : mrd g 240 (76 + k) ≤ 12) : EV (d + 1) 256 0 [(2, 235), (0, k), (0, p), (3, 0), (3, 0)] [] g = some ((0, mrd g 240 (80 + 12 * k + p)), FM g k p) := by
  have gl := m_loses_loop (d := d) (x := mrd g 240 (80 + 12 * k + p)) hm k0 k1 p0 (mrd g 240 (76 + k)) rfl (by omega) n1 (mrd g 240 (76 + k) - 1 - p).toNat 0 (by omega)
  rw [show ((0 : Nat) : Int) = 0 from rfl, mcp_0, Int.add_zero] at gl
  have w4 : w32 (76 + k) = 76 + k := w32_id (by omega) (by omega)
  have w5 : w32 (mrd g 240 (76 + k) - 1) = mrd g 240 (76 + k) - 1 := w32_id (by omega) (by omega)
  have i2 : inA g 240 16 (76 + k) := inC hm (by omega) (by omega)
  have e6 : mrd (mcp g 240 (80 + 12 * k + p + 1) 240 (80 + 12 * k + p) (mrd g 240 (76 + k) - 1 - p)) 240 (76 + k) = mrd g 240 (76 + k) := by rw [rd_cp, if_neg (by omega)]
  have m20 : mrd g 235 20 = 240 := mC hm
  unfold FM
  simp only [e256_0, e256_1, e256_2, e256_3, e256_6, e256_7, e256_8, e256_12, e256_13, e256_14, e256_17, e256_18, e256_19, e256_22, e256_23, e256_26, e256_28, e256_30, e256_31, e256_32, e256_33, e256_35, e256_36, e256_37, e256_38, e256_40, e256_41, e256_42, e256_45, e256_46, e256_49, e256_53, e256_56, e256_58, e256_59, e256_60, e256_61, e256_62, e256_63, e256_64, e256_65, e256_66, psh0, psh1, psh3, true_or, or_true, eq_self, Option.bind_some, List.length_nil, List.length_cons, Nat.reduceAdd, Nat.reduceLeDiff, Nat.zero_le, ↓reduceIte, Int.reduceLT, Int.reduceEq, Int.reduceLE, Int.reduceNeg, Int.reduceAdd, Int.reduceMul, Int.reduceSub, ne_eq, not_true_eq_false, not_false_eq_true, and_true, true_and, and_false, false_and, c3lt, c3gt, c3eq, Bool.false_eq_true, isK_wr, inA_wr, inR_wr, hm.1, m_lessonOf (d := d) hm k0 k1 p0 (show p < 12 by omega)]
  rw [gl]
  simp only [e256_52, e256_0, e256_1, e256_2, e256_3, e256_6, e256_7, e256_8, e256_12, e256_13, e256_14, e256_17, e256_18, e256_19, e256_22, e256_23, e256_26, e256_28, e256_30, e256_31, e256_32, e256_33, e256_35, e256_36, e256_37, e256_38, e256_40, e256_41, e256_42, e256_45, e256_46, e256_49, e256_52, e256_53, e256_56, e256_58, e256_59, e256_60, e256_61, e256_62, e256_63, e256_64, e256_65, e256_66, psh0, psh1, psh3, true_or, or_true, eq_self, Option.bind_some, List.length_nil, List.length_cons, Nat.reduceAdd, Nat.reduceLeDiff, Nat.zero_le, ↓reduceIte, Int.reduceLT, Int.reduceEq, Int.reduceLE, Int.reduceNeg, Int.reduceAdd, Int.reduceMul, Int.reduceSub, ne_eq, not_true_eq_false, not_false_eq_true, and_true, true_and, and_false, false_and, c3lt, c3gt, c3eq, Bool.false_eq_true, isK_wr, inA_wr, inR_wr, isK_cp, inA_cp, hm.1, rdc, m20, w4, i2, e6, w5]
theorem FG_fr (h1 : ¬ (a = s + 25 + 2 * k ∧ 3 ≤ i ∧ i ≤ 6)) (h2 : a ≠ s + 26 + 2 * k) : mrd (FG h s k p) a i = mrd h a i := by
  unfold FG
  rw [rd_wr, if_neg (by omega), rd_cp, if_neg (by omega), rd_wr, if_neg (by omega)]
theorem FM_fr (k0 : 0 ≤ k) (p0 : 0 ≤ p) (n1 : mrd g 240 (76 + k) ≤ 12) (h1 : ¬ (a = 240 ∧ (i = 68 + k ∨ i = 72 + k ∨ i = 76 + k ∨ (80 + 12 * k ≤ i ∧ i < 92 + 12 * k)))) : mrd (FM g k p) a i = mrd g a i := by
  unfold FM
  rw [rd_wr, if_neg (by omega), rd_cp, if_neg (by omega)]
theorem FG_v : mrd (FG h s k p) (s + 25 + 2 * k) 3 = mrd h (s + 25 + 2 * k) 3 ∧ mrd (FG h s k p) (s + 25 + 2 * k) 4 = mrd h (s + 25 + 2 * k) 4 ∧ mrd (FG h s k p) (s + 25 + 2 * k) 5 = i_and (mrd h (s + 25 + 2 * k) 5) (i_xor (i_shl 1 (mrd h (s + 26 + 2 * k) p)) (-1)) ∧ mrd (FG h s k p) (s + 25 + 2 * k) 6 = mrd h (s + 25 + 2 * k) 6 - 1 ∧ ∀ q, 0 ≤ q → mrd (FG h s k p) (s + 26 + 2 * k) q = if p ≤ q ∧ q < mrd h (s + 25 + 2 * k) 6 - 1 then mrd h (s + 26 + 2 * k) (q + 1) else mrd h (s + 26 + 2 * k) q := by
  unfold FG
  refine ⟨?_, ?_, ?_, ?_, fun q q0 => ?_⟩
  · rw [rd_wr, if_neg (by omega), rd_cp, if_neg (by omega), rd_wr, if_neg (by omega)]
  · rw [rd_wr, if_neg (by omega), rd_cp, if_neg (by omega), rd_wr, if_neg (by omega)]
  · rw [rd_wr, if_pos ⟨rfl, rfl⟩]
  · rw [rd_wr, if_neg (by omega), rd_cp, if_neg (by omega), rd_wr, if_pos ⟨rfl, rfl⟩]
  · rw [rd_wr, if_neg (by omega), rd_cp]
    by_cases c : p ≤ q ∧ q < mrd h (s + 25 + 2 * k) 6 - 1
    · rw [if_pos c, if_pos (by omega), rd_wr, if_neg (by omega), show p + 1 + (q - p) = q + 1 by omega]
    · rw [if_neg c, if_neg (by omega), rd_wr, if_neg (by omega)]
theorem FM_v (k0 : 0 ≤ k) (p0 : 0 ≤ p) : mrd (FM g k p) 240 (68 + k) = mrd g 240 (68 + k) ∧ mrd (FM g k p) 240 (72 + k) = mrd g 240 (72 + k) ∧ mrd (FM g k p) 240 (76 + k) = mrd g 240 (76 + k) - 1 ∧ ∀ q, 0 ≤ q → mrd (FM g k p) 240 (80 + 12 * k + q) = if p ≤ q ∧ q < mrd g 240 (76 + k) - 1 then mrd g 240 (80 + 12 * k + (q + 1)) else mrd g 240 (80 + 12 * k + q) := by
  unfold FM
  refine ⟨?_, ?_, ?_, fun q q0 => ?_⟩
  · rw [rd_wr, if_neg (by omega), rd_cp, if_neg (by omega)]
  · rw [rd_wr, if_neg (by omega), rd_cp, if_neg (by omega)]
  · rw [rd_wr, if_pos ⟨rfl, rfl⟩]
  · rw [rd_wr, if_neg (by omega), rd_cp]
    by_cases c : p ≤ q ∧ q < mrd g 240 (76 + k) - 1
    · rw [if_pos c, if_pos (by omega), show 80 + 12 * k + p + 1 + (80 + 12 * k + q - (80 + 12 * k + p)) = 80 + 12 * k + (q + 1) by omega]
    · rw [if_neg c, if_neg (by omega)]
theorem x_earn (hk : isK h (s + 25 + 2 * k) 1) (b0 : 0 ≤ mrd h (s + 25 + 2 * k) 3) (b1 : mrd h (s + 25 + 2 * k) 3 ≤ 9999) (v0 : 1 ≤ v) (v1 : v ≤ 99) : EV d 12 0 [(2, s + 25 + 2 * k), (0, v)] [] h = some (if 9999 < mrd h (s + 25 + 2 * k) 3 + v then ((0, 0), h) else ((0, 1), mwr h (s + 25 + 2 * k) 3 (mrd h (s + 25 + 2 * k) 3 + v))) := by
  have w1 : w32 (mrd h (s + 25 + 2 * k) 3 + v) = mrd h (s + 25 + 2 * k) 3 + v := w32_id (by omega) (by omega)
  by_cases c : 9999 < mrd h (s + 25 + 2 * k) 3 + v
  · simp only [e12_0, e12_1, e12_4, e12_5, e12_6, e12_9, e12_12, e12_13, e12_14, e12_15, e12_15i, e12_16, e12_19, e12_20, e12_21, e12_24, e12_25, psh0, psh1, psh3, true_or, or_true, eq_self, Option.bind_some, List.length_nil, List.length_cons, Nat.reduceAdd, Nat.reduceLeDiff, Nat.zero_le, ↓reduceIte, Int.reduceLT, Int.reduceEq, Int.reduceLE, Int.reduceNeg, Int.reduceAdd, Int.reduceMul, Int.reduceSub, ne_eq, not_true_eq_false, not_false_eq_true, and_true, true_and, and_false, false_and, c3lt, c3gt, c3eq, Bool.false_eq_true, isK_wr, inA_wr, inR_wr, hk, w1, c]
  · simp only [e12_0, e12_1, e12_4, e12_5, e12_6, e12_9, e12_12, e12_13, e12_14, e12_15, e12_15i, e12_16, e12_19, e12_20, e12_21, e12_24, e12_25, psh0, psh1, psh3, true_or, or_true, eq_self, Option.bind_some, List.length_nil, List.length_cons, Nat.reduceAdd, Nat.reduceLeDiff, Nat.zero_le, ↓reduceIte, Int.reduceLT, Int.reduceEq, Int.reduceLE, Int.reduceNeg, Int.reduceAdd, Int.reduceMul, Int.reduceSub, ne_eq, not_true_eq_false, not_false_eq_true, and_true, true_and, and_false, false_and, c3lt, c3gt, c3eq, Bool.false_eq_true, isK_wr, inA_wr, inR_wr, hk, w1, c]
theorem m_pays (hm : CM g) (k0 : 0 ≤ k) (k1 : k < 4) (b0 : 0 ≤ mrd g 240 (68 + k)) (b1 : mrd g 240 (68 + k) ≤ 9999) (v0 : 1 ≤ v) (v1 : v ≤ 99) : EV d 259 0 [(2, 235), (0, k), (0, v)] [] g = some (if 9999 < mrd g 240 (68 + k) + v then ((0, 0), g) else ((0, 1), mwr g 240 (68 + k) (mrd g 240 (68 + k) + v))) := by
  have w1 : w32 (mrd g 240 (68 + k) + v) = mrd g 240 (68 + k) + v := w32_id (by omega) (by omega)
  have w2 : w32 (68 + k) = 68 + k := w32_id (by omega) (by omega)
  have i2 : inA g 240 16 (68 + k) := inC hm (by omega) (by omega)
  by_cases c : 9999 < mrd g 240 (68 + k) + v
  · simp only [e259_0, e259_1, e259_4, e259_6, e259_7, e259_8, e259_9, e259_10, e259_11, e259_14, e259_17, e259_18, e259_19, e259_20, e259_23, e259_25, e259_26, e259_27, e259_28, e259_29, e259_30, e259_31, e259_32, e259_33, psh0, psh1, psh3, true_or, or_true, eq_self, Option.bind_some, List.length_nil, List.length_cons, Nat.reduceAdd, Nat.reduceLeDiff, Nat.zero_le, ↓reduceIte, Int.reduceLT, Int.reduceEq, Int.reduceLE, Int.reduceNeg, Int.reduceAdd, Int.reduceMul, Int.reduceSub, ne_eq, not_true_eq_false, not_false_eq_true, and_true, true_and, and_false, false_and, c3lt, c3gt, c3eq, Bool.false_eq_true, isK_wr, inA_wr, inR_wr, hm.1, mC hm, w1, w2, i2, c]
  · simp only [e259_0, e259_1, e259_4, e259_6, e259_7, e259_8, e259_9, e259_10, e259_11, e259_14, e259_17, e259_18, e259_19, e259_20, e259_23, e259_25, e259_26, e259_27, e259_28, e259_29, e259_30, e259_31, e259_32, e259_33, psh0, psh1, psh3, true_or, or_true, eq_self, Option.bind_some, List.length_nil, List.length_cons, Nat.reduceAdd, Nat.reduceLeDiff, Nat.zero_le, ↓reduceIte, Int.reduceLT, Int.reduceEq, Int.reduceLE, Int.reduceNeg, Int.reduceAdd, Int.reduceMul, Int.reduceSub, ne_eq, not_true_eq_false, not_false_eq_true, and_true, true_and, and_false, false_and, c3lt, c3gt, c3eq, Bool.false_eq_true, isK_wr, inA_wr, inR_wr, hm.1, mC hm, w1, w2, i2, c]
end

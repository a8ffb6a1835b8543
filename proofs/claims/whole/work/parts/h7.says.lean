/-! the reference adds a row on: says -/
theorem m_cellOf {d : Nat} {h : AM} {T v r : Nat} (hT : T < 4096) (hv : v < 2) (hr : r < 12) : EV d 300 0 [(0, (T : Int)), (0, (v : Int)), (0, ((r + 1 : Nat) : Int))] [] h = some ((0, ((18 * T + (9 * v + r) : Nat) : Int)), h) := by
  have w1 : w32 (18 * (T : Int)) = 18 * (T : Int) := w32_id (by omega) (by omega)
  have w2 : w32 (9 * (v : Int)) = 9 * (v : Int) := w32_id (by omega) (by omega)
  have w3 : w32 (18 * (T : Int) + 9 * (v : Int)) = 18 * (T : Int) + 9 * (v : Int) := w32_id (by omega) (by omega)
  have w4 : w32 (18 * (T : Int) + 9 * (v : Int) + ((r + 1 : Nat) : Int)) = 18 * (T : Int) + 9 * (v : Int) + ((r + 1 : Nat) : Int) := w32_id (by omega) (by omega)
  have w5 : w32 (18 * (T : Int) + 9 * (v : Int) + ((r + 1 : Nat) : Int) - 1) = ((18 * T + (9 * v + r) : Nat) : Int) := by rw [w32_id (by omega) (by omega)]; omega
  simp only [e300_0, e300_2, e300_3, e300_4, e300_6, e300_7, e300_8, e300_9, e300_10, e300_11, e300_12, e300_13, psh0, psh1, psh3, true_or, or_true, eq_self, Option.bind_some, List.length_nil, List.length_cons, Nat.reduceAdd, Nat.reduceLeDiff, Nat.zero_le, ↓reduceIte, Int.reduceLT, Int.reduceEq, Int.reduceLE, Int.reduceNeg, Int.reduceAdd, Int.reduceMul, Int.reduceSub, ne_eq, not_true_eq_false, not_false_eq_true, and_true, true_and, and_false, false_and, c3lt, c3gt, c3eq, Bool.false_eq_true, isK_wr, inA_wr, inR_wr, w1, w2, w3, w4, w5]
theorem advR_st {m v c j : Nat} {g : Nat → Int} : advR m v g c (j + 1) = advR m v g c j + ((if c = 9 * v then g (9 * (1 - v) + j) else 0) + (if c = 9 * v + j + 1 ∧ j + 1 < m then g (9 * v + j) else 0)) := rfl
/-- the middle of a round: the first of its two sums is done -/
theorem m_says_loop {d : Nat} {g0 : AM} {U t v m l : Nat} (hm : CM g0) (ut : U < t) (t4 : t < 4096) (hv : v < 2) (m1 : 1 ≤ m) (m9 : m ≤ 9) (hs : mrd g0 240 3 = m) (hB : ∀ c j : Nat, c < 18 → j ≤ m → 0 ≤ mrd g0 250 ((18 * t + c : Nat) : Int) + advR m v (fun c => mrd g0 250 ((18 * U + c : Nat) : Int)) c j ∧ mrd g0 250 ((18 * t + c : Nat) : Int) + advR m v (fun c => mrd g0 250 ((18 * U + c : Nat) : Int)) c j < 9223372036854775808) (n : Nat) : ∀ (j : Nat) (g : AM), j + n = m → g.2 = g0.2 → (∀ a i, a ≠ 250 → mrd g a i = mrd g0 a i) → (∀ i : Int, i < ((18 * t : Nat) : Int) ∨ ((18 * t + 18 : Nat) : Int) ≤ i → mrd g 250 i = mrd g0 250 i) → (∀ c : Nat, c < 18 → mrd g 250 ((18 * t + c : Nat) : Int) = mrd g0 250 ((18 * t + c : Nat) : Int) + advR m v (fun c => mrd g0 250 ((18 * U + c : Nat) : Int)) c j) → ∃ g', EV (d + 1) 301 51 [(2, 235), (0, (U : Int)), (0, (l : Int)), (0, (t : Int)), (0, (v : Int)), (0, ((j + 1 : Nat) : Int))] [] g = some ((3, 0), g') ∧ g'.2 = g0.2 ∧ (∀ a i, a ≠ 250 → mrd g' a i = mrd g0 a i) ∧ (∀ i : Int, i < ((18 * t : Nat) : Int) ∨ ((18 * t + 18 : Nat) : Int) ≤ i → mrd g' 250 i = mrd g0 250 i) ∧ (∀ c : Nat, c < 18 → mrd g' 250 ((18 * t + c : Nat) : Int) = mrd g0 250 ((18 * t + c : Nat) : Int) + advR m v (fun c => mrd g0 250 ((18 * U + c : Nat) : Int)) c m) := by
  have k250 := kn_250 hm.2.1
  have l250 := ln_250 hm.2.1
  have i3 : inA g0 240 16 3 := ⟨kn_240 hm.2.1, by decide, by rw [ln_240 hm.2.1]; decide⟩
  have wv : w32 (1 - (v : Int)) = ((1 - v : Nat) : Int) := by rw [w32_id (by omega) (by omega)]; omega
  induction n with
  | zero =>
    intro j g hj h2 hf hi hc
    have e : j = m := by omega
    subst e
    have kg : isK g 235 11 := (isK_eq h2).mpr hm.1
    have e20 : mrd g 235 20 = 240 := by rw [hf _ _ (by decide)]; exact rf_235_20 hm.2.2
    have e3 : mrd g 240 3 = j := by rw [hf _ _ (by decide)]; exact hs
    have ig : inA g 240 16 3 := by unfold inA mln; rw [isK_eq h2, h2]; exact i3
    have c1 : (j : Int) < ((j + 1 : Nat) : Int) := by omega
    refine ⟨g, ?_, h2, hf, hi, hc⟩
    rw [e301_51]
    simp only [e301_0, e301_1, e301_2, e301_3, e301_4, e301_5, e301_6, e301_7, e301_10, e301_11, e301_12, e301_13, e301_14, e301_17, e301_20, e301_21, e301_24, e301_25, e301_27, e301_28, e301_31, e301_32, e301_35, e301_36, e301_38, e301_39, e301_42, e301_43, e301_44, e301_45, e301_46, e301_47, e301_48, e301_49, e301_53, e301_54, e301_57, e301_58, e301_59, e301_62, e301_63, e301_66, e301_67, e301_69, e301_70, e301_73, e301_74, e301_75, e301_76, e301_79, e301_80, e301_81, e301_83, e301_84, e301_86, e301_89, e301_90, e301_91, e301_92, e301_94, e301_95, e301_98, e301_99, e301_100, e301_103, e301_104, e301_107, e301_108, e301_110, e301_112, e301_113, e301_114, e301_117, e301_118, e301_119, e301_120, e301_123, e301_124, e301_126, e301_128, e301_131, e301_132, e301_133, e301_134, e301_137, e301_140, psh0, psh1, psh3, true_or, or_true, eq_self, Option.bind_some, List.length_nil, List.length_cons, Nat.reduceAdd, Nat.reduceLeDiff, Nat.zero_le, ↓reduceIte, Int.reduceLT, Int.reduceEq, Int.reduceLE, Int.reduceNeg, Int.reduceAdd, Int.reduceMul, Int.reduceSub, ne_eq, not_true_eq_false, not_false_eq_true, and_true, true_and, and_false, false_and, c3lt, c3gt, c3eq, Bool.false_eq_true, isK_wr, inA_wr, inR_wr, kg, e20, e3, ig, c1]
  | succ n ih =>
    intro j g hj h2 hf hi hc
    have kg : isK g 235 11 := (isK_eq h2).mpr hm.1
    have e20 : mrd g 235 20 = 240 := by rw [hf _ _ (by decide)]; exact rf_235_20 hm.2.2
    have e35 : mrd g 235 35 = 250 := by rw [hf _ _ (by decide)]; exact rf_235_35 hm.2.2
    have e3 : mrd g 240 3 = m := by rw [hf _ _ (by decide)]; exact hs
    have ig : inA g 240 16 3 := by unfold inA mln; rw [isK_eq h2, h2]; exact i3
    have kk : isK g 250 19 := (isK_eq h2).mpr k250
    have lg : mln g 250 = 73728 := by rw [show mln g 250 = mln g0 250 by unfold mln; rw [h2]]; exact l250
    have inn : ∀ p : Nat, p < 73728 → inA g 250 19 (p : Int) := fun p hp => ⟨kk, by omega, by rw [lg]; omega⟩
    have c1 : ¬ ((m : Int) < ((j + 1 : Nat) : Int)) := by omega
    have wj : w32 (((j + 1 : Nat) : Int) + 1) = ((j + 1 + 1 : Nat) : Int) := by rw [w32_id (by omega) (by omega)]; omega
    have ce : ∀ (g : AM), EV d 300 0 [(0, (t : Int)), (0, (v : Int)), (0, 1)] [] g = some ((0, ((18 * t + 9 * v : Nat) : Int)), g) := fun g => m_cellOf (r := 0) t4 hv (by omega)
    have cu : ∀ (g : AM), EV d 300 0 [(0, (U : Int)), (0, ((1 - v : Nat) : Int)), (0, ((j + 1 : Nat) : Int))] [] g = some ((0, ((18 * U + (9 * (1 - v) + j) : Nat) : Int)), g) := fun g => m_cellOf (by omega) (by omega) (by omega)
    have cv : ∀ (g : AM), EV d 300 0 [(0, (U : Int)), (0, (v : Int)), (0, ((j + 1 : Nat) : Int))] [] g = some ((0, ((18 * U + (9 * v + j) : Nat) : Int)), g) := fun g => m_cellOf (by omega) hv (by omega)
    have ct : ∀ (g : AM), EV d 300 0 [(0, (t : Int)), (0, (v : Int)), (0, ((j + 1 + 1 : Nat) : Int))] [] g = some ((0, ((18 * t + (9 * v + (j + 1)) : Nat) : Int)), g) := fun g => m_cellOf t4 hv (by omega)
    have f1 : mrd g 250 ((18 * U + (9 * (1 - v) + j) : Nat) : Int) = mrd g0 250 ((18 * U + (9 * (1 - v) + j) : Nat) : Int) := hi _ (Or.inl (by omega))
    have f2 : mrd g 250 ((18 * U + (9 * v + j) : Nat) : Int) = mrd g0 250 ((18 * U + (9 * v + j) : Nat) : Int) := hi _ (Or.inl (by omega))
    have b1 := hB (9 * v) (j + 1) (by omega) (by omega)
    have a1 : advR m v (fun c => mrd g0 250 ((18 * U + c : Nat) : Int)) (9 * v) (j + 1) = advR m v (fun c => mrd g0 250 ((18 * U + c : Nat) : Int)) (9 * v) j + mrd g0 250 ((18 * U + (9 * (1 - v) + j) : Nat) : Int) := by rw [advR_st, if_pos rfl, if_neg (by omega), Int.add_zero]
    have s1 : w64 (mrd g 250 ((18 * t + 9 * v : Nat) : Int) + mrd g 250 ((18 * U + (9 * (1 - v) + j) : Nat) : Int)) = mrd g0 250 ((18 * t + 9 * v : Nat) : Int) + advR m v (fun c => mrd g0 250 ((18 * U + c : Nat) : Int)) (9 * v) (j + 1) := by
      rw [hc (9 * v) (by omega), f1, a1, Int.add_assoc]
      rw [a1] at b1
      exact w64_id (by omega) (by omega)
    obtain ⟨g1, hg1⟩ : ∃ g1, g1 = mwr g 250 ((18 * t + 9 * v : Nat) : Int) (mrd g0 250 ((18 * t + 9 * v : Nat) : Int) + advR m v (fun c => mrd g0 250 ((18 * U + c : Nat) : Int)) (9 * v) (j + 1)) := ⟨_, rfl⟩
    have h21 : g1.2 = g0.2 := by rw [hg1]; exact h2
    have kg1 : isK g1 235 11 := (isK_eq h21).mpr hm.1
    have hf1 : ∀ a i, a ≠ 250 → mrd g1 a i = mrd g0 a i := fun a i ha => by rw [hg1, rdn1 ha]; exact hf a i ha
    have hi1 : ∀ i : Int, i < ((18 * t : Nat) : Int) ∨ ((18 * t + 18 : Nat) : Int) ≤ i → mrd g1 250 i = mrd g0 250 i := fun i hi' => by rw [hg1, rdn2 (by omega)]; exact hi i hi'
    have e201 : mrd g1 235 20 = 240 := by rw [hf1 _ _ (by decide)]; exact rf_235_20 hm.2.2
    have e351 : mrd g1 235 35 = 250 := by rw [hf1 _ _ (by decide)]; exact rf_235_35 hm.2.2
    have e31 : mrd g1 240 3 = m := by rw [hf1 _ _ (by decide)]; exact hs
    have ig1 : inA g1 240 16 3 := by rw [hg1]; exact ig
    have inn1 : ∀ p : Nat, p < 73728 → inA g1 250 19 (p : Int) := fun p hp => by rw [hg1]; exact inn p hp
    have first : EV (d + 1) 301 51 [(2, 235), (0, (U : Int)), (0, (l : Int)), (0, (t : Int)), (0, (v : Int)), (0, ((j + 1 : Nat) : Int))] [] g = EV (d + 1) 301 92 [(2, 235), (0, (U : Int)), (0, (l : Int)), (0, (t : Int)), (0, (v : Int)), (0, ((j + 1 : Nat) : Int))] [] g1 := by
      rw [hg1, ← s1, e301_51]
      simp only [e301_0, e301_1, e301_2, e301_3, e301_4, e301_5, e301_6, e301_7, e301_10, e301_11, e301_12, e301_13, e301_14, e301_17, e301_20, e301_21, e301_24, e301_25, e301_27, e301_28, e301_31, e301_32, e301_35, e301_36, e301_38, e301_39, e301_42, e301_43, e301_44, e301_45, e301_46, e301_47, e301_48, e301_49, e301_53, e301_54, e301_57, e301_58, e301_59, e301_62, e301_63, e301_66, e301_67, e301_69, e301_70, e301_73, e301_74, e301_75, e301_76, e301_79, e301_80, e301_81, e301_83, e301_84, e301_86, e301_89, e301_90, e301_91, e301_94, e301_95, e301_98, e301_99, e301_100, e301_103, e301_104, e301_107, e301_108, e301_110, e301_112, e301_113, e301_114, e301_117, e301_118, e301_119, e301_120, e301_123, e301_124, e301_126, e301_128, e301_131, e301_132, e301_133, e301_134, e301_137, e301_140, psh0, psh1, psh3, true_or, or_true, eq_self, Option.bind_some, List.length_nil, List.length_cons, Nat.reduceAdd, Nat.reduceLeDiff, Nat.zero_le, ↓reduceIte, Int.reduceLT, Int.reduceEq, Int.reduceLE, Int.reduceNeg, Int.reduceAdd, Int.reduceMul, Int.reduceSub, ne_eq, not_true_eq_false, not_false_eq_true, and_true, true_and, and_false, false_and, c3lt, c3gt, c3eq, Bool.false_eq_true, isK_wr, inA_wr, inR_wr, kg, e20, e3, ig, c1, e35, ce, cu, wv, inn (18 * t + 9 * v) (by omega), inn (18 * U + (9 * (1 - v) + j)) (by omega)]
    by_cases c2 : ((j + 1 : Nat) : Int) < (m : Int)
    · have f21 : mrd g1 250 ((18 * U + (9 * v + j) : Nat) : Int) = mrd g0 250 ((18 * U + (9 * v + j) : Nat) : Int) := by rw [hg1, rdn2 (by omega)]; exact f2
      have b2 := hB (9 * v + (j + 1)) (j + 1) (by omega) (by omega)
      have a2 : advR m v (fun c => mrd g0 250 ((18 * U + c : Nat) : Int)) (9 * v + (j + 1)) (j + 1) = advR m v (fun c => mrd g0 250 ((18 * U + c : Nat) : Int)) (9 * v + (j + 1)) j + mrd g0 250 ((18 * U + (9 * v + j) : Nat) : Int) := by rw [advR_st, if_neg (by omega), if_pos (by omega), Int.zero_add]
      have s2 : w64 (mrd g1 250 ((18 * t + (9 * v + (j + 1)) : Nat) : Int) + mrd g1 250 ((18 * U + (9 * v + j) : Nat) : Int)) = mrd g0 250 ((18 * t + (9 * v + (j + 1)) : Nat) : Int) + advR m v (fun c => mrd g0 250 ((18 * U + c : Nat) : Int)) (9 * v + (j + 1)) (j + 1) := by
        rw [f21, hg1, rdn2 (by omega), hc (9 * v + (j + 1)) (by omega), a2, Int.add_assoc]
        rw [a2] at b2
        exact w64_id (by omega) (by omega)
      obtain ⟨g', z1, z2⟩ := ih (j + 1) (mwr g1 250 ((18 * t + (9 * v + (j + 1)) : Nat) : Int) (mrd g0 250 ((18 * t + (9 * v + (j + 1)) : Nat) : Int) + advR m v (fun c => mrd g0 250 ((18 * U + c : Nat) : Int)) (9 * v + (j + 1)) (j + 1))) (by omega) h21 (fun a i ha => by rw [rdn1 ha]; exact hf1 a i ha) (fun i hi' => by rw [rdn2 (by omega)]; exact hi1 i hi') (fun c hc' => by
        by_cases q2 : c = 9 * v + (j + 1)
        · rw [q2, rde]
        · rw [rdn2 (by omega), hg1]
          by_cases q1 : c = 9 * v
          · rw [q1, rde]
          · rw [rdn2 (by omega), hc c hc', advR_st, if_neg q1, if_neg (by omega), Int.add_zero, Int.add_zero])
      refine ⟨g', ?_, z2⟩
      rw [first, ← z1, ← s2, e301_92]
      simp only [e301_0, e301_1, e301_2, e301_3, e301_4, e301_5, e301_6, e301_7, e301_10, e301_11, e301_12, e301_13, e301_14, e301_17, e301_20, e301_21, e301_24, e301_25, e301_27, e301_28, e301_31, e301_32, e301_35, e301_36, e301_38, e301_39, e301_42, e301_43, e301_44, e301_45, e301_46, e301_47, e301_48, e301_49, e301_53, e301_54, e301_57, e301_58, e301_59, e301_62, e301_63, e301_66, e301_67, e301_69, e301_70, e301_73, e301_74, e301_75, e301_76, e301_79, e301_80, e301_81, e301_83, e301_84, e301_86, e301_89, e301_90, e301_91, e301_94, e301_95, e301_98, e301_99, e301_100, e301_103, e301_104, e301_107, e301_108, e301_110, e301_112, e301_113, e301_114, e301_117, e301_118, e301_119, e301_120, e301_123, e301_124, e301_126, e301_128, e301_131, e301_132, e301_133, e301_134, e301_137, e301_140, psh0, psh1, psh3, true_or, or_true, eq_self, Option.bind_some, List.length_nil, List.length_cons, Nat.reduceAdd, Nat.reduceLeDiff, Nat.zero_le, ↓reduceIte, Int.reduceLT, Int.reduceEq, Int.reduceLE, Int.reduceNeg, Int.reduceAdd, Int.reduceMul, Int.reduceSub, ne_eq, not_true_eq_false, not_false_eq_true, and_true, true_and, and_false, false_and, c3lt, c3gt, c3eq, Bool.false_eq_true, isK_wr, inA_wr, inR_wr, kg1, e201, e31, ig1, c2, e351, ct, cv, wj, inn1 (18 * t + (9 * v + (j + 1))) (by omega), inn1 (18 * U + (9 * v + j)) (by omega)]
    · obtain ⟨g', z1, z2⟩ := ih (j + 1) g1 (by omega) h21 hf1 hi1 (fun c hc' => by
        rw [hg1]
        by_cases q1 : c = 9 * v
        · rw [q1, rde]
        · rw [rdn2 (by omega), hc c hc', advR_st, if_neg q1, if_neg (by omega), Int.add_zero, Int.add_zero])
      refine ⟨g', ?_, z2⟩
      rw [first, ← z1, e301_92]
      simp only [e301_0, e301_1, e301_2, e301_3, e301_4, e301_5, e301_6, e301_7, e301_10, e301_11, e301_12, e301_13, e301_14, e301_17, e301_20, e301_21, e301_24, e301_25, e301_27, e301_28, e301_31, e301_32, e301_35, e301_36, e301_38, e301_39, e301_42, e301_43, e301_44, e301_45, e301_46, e301_47, e301_48, e301_49, e301_53, e301_54, e301_57, e301_58, e301_59, e301_62, e301_63, e301_66, e301_67, e301_69, e301_70, e301_73, e301_74, e301_75, e301_76, e301_79, e301_80, e301_81, e301_83, e301_84, e301_86, e301_89, e301_90, e301_91, e301_94, e301_95, e301_98, e301_99, e301_100, e301_103, e301_104, e301_107, e301_108, e301_110, e301_112, e301_113, e301_114, e301_117, e301_118, e301_119, e301_120, e301_123, e301_124, e301_126, e301_128, e301_131, e301_132, e301_133, e301_134, e301_137, e301_140, psh0, psh1, psh3, true_or, or_true, eq_self, Option.bind_some, List.length_nil, List.length_cons, Nat.reduceAdd, Nat.reduceLeDiff, Nat.zero_le, ↓reduceIte, Int.reduceLT, Int.reduceEq, Int.reduceLE, Int.reduceNeg, Int.reduceAdd, Int.reduceMul, Int.reduceSub, ne_eq, not_true_eq_false, not_false_eq_true, and_true, true_and, and_false, false_and, c3lt, c3gt, c3eq, Bool.false_eq_true, isK_wr, inA_wr, inR_wr, kg1, e201, e31, ig1, c2, wj]

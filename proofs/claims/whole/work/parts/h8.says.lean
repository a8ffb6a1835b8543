/-! says, and the inner loop of the reference's sayable -/
def vwM (g : AM) : Nat → Bool := fun l => decide (vow (mrd g 240 (4 + l)) ≠ 0)
theorem vow_vn {g : AM} {l : Nat} : vow (mrd g 240 (4 + l)) = ((vn (vwM g l) : Nat) : Int) := by
  unfold vn vwM vow
  split <;> simp
theorem m_says {d : Nat} {g : AM} {U l m : Nat} (hm : CM g) (hU : U + 2 ^ l < 4096) (hl : l < 12) (hb : U.testBit l = false) (m1 : 1 ≤ m) (m9 : m ≤ 9) (hs : mrd g 240 3 = m) (hz : U = 0 → ∀ c : Nat, c < 18 → 0 ≤ mrd g 250 ((18 * (U + 2 ^ l) + c : Nat) : Int) ∧ mrd g 250 ((18 * (U + 2 ^ l) + c : Nat) : Int) < 8916100448256000) (hB : U ≠ 0 → ∀ c j : Nat, c < 18 → j ≤ m → 0 ≤ mrd g 250 ((18 * (U + 2 ^ l) + c : Nat) : Int) + advR m (vn (vwM g l)) (fun c => mrd g 250 ((18 * U + c : Nat) : Int)) c j ∧ mrd g 250 ((18 * (U + 2 ^ l) + c : Nat) : Int) + advR m (vn (vwM g l)) (fun c => mrd g 250 ((18 * U + c : Nat) : Int)) c j < 9223372036854775808) : ∃ g', EV (d + 1) 301 0 [(2, 235), (0, (U : Int)), (0, (l : Int)), (3, 0), (3, 0), (3, 0)] [] g = some ((3, 0), g') ∧ g'.2 = g.2 ∧ (∀ a i, a ≠ 250 → mrd g' a i = mrd g a i) ∧ (∀ i : Int, i < ((18 * (U + 2 ^ l) : Nat) : Int) ∨ ((18 * (U + 2 ^ l) + 18 : Nat) : Int) ≤ i → mrd g' 250 i = mrd g 250 i) ∧ (∀ c : Nat, c < 18 → mrd g' 250 ((18 * (U + 2 ^ l) + c : Nat) : Int) = mrd g 250 ((18 * (U + 2 ^ l) + c : Nat) : Int) + (if U = 0 then (if c = 9 * vn (vwM g l) then 1 else 0) else advR m (vn (vwM g l)) (fun c => mrd g 250 ((18 * U + c : Nat) : Int)) c m)) := by
  have p0 := Nat.two_pow_pos l
  have eU := i_ins (x := U) (l := l) (by omega) hl hb
  obtain ⟨t, ht⟩ : ∃ t, t = U + 2 ^ l := ⟨_, rfl⟩
  rw [← ht] at eU hz hB ⊢
  have hv := vn_lt (b := vwM g l)
  have ev : vow (mrd g 240 (4 + (l : Int))) = ((vn (vwM g l) : Nat) : Int) := vow_vn
  generalize vn (vwM g l) = v at hv ev hB ⊢
  have e20 : mrd g 235 20 = 240 := rf_235_20 hm.2.2
  have e35 : mrd g 235 35 = 250 := rf_235_35 hm.2.2
  have w1 : w32 (4 + (l : Int)) = 4 + (l : Int) := w32_id (by omega) (by omega)
  have i4 : inA g 240 16 (4 + (l : Int)) := ⟨kn_240 hm.2.1, by omega, by rw [ln_240 hm.2.1]; omega⟩
  have pre : EV (d + 1) 301 0 [(2, 235), (0, (U : Int)), (0, (l : Int)), (3, 0), (3, 0), (3, 0)] [] g = EV (d + 1) 301 27 [(2, 235), (0, (U : Int)), (0, (l : Int)), (0, (t : Int)), (0, (v : Int)), (3, 0)] [] g := by
    rcases (show v = 0 ∨ v = 1 by omega) with rfl | rfl
    · have ev : vow (mrd g 240 (4 + (l : Int))) = 0 := ev
      simp only [e301_0, e301_1, e301_2, e301_3, e301_4, e301_5, e301_6, e301_7, e301_10, e301_11, e301_12, e301_13, e301_14, e301_17, e301_20, e301_21, e301_24, e301_25, e301_28, e301_31, e301_32, e301_35, e301_36, e301_38, e301_39, e301_42, e301_43, e301_44, e301_45, e301_46, e301_47, e301_48, e301_49, e301_53, e301_54, e301_57, e301_58, e301_59, e301_62, e301_63, e301_66, e301_67, e301_69, e301_70, e301_73, e301_74, e301_75, e301_76, e301_79, e301_80, e301_81, e301_83, e301_84, e301_86, e301_89, e301_90, e301_91, e301_92, e301_94, e301_95, e301_98, e301_99, e301_100, e301_103, e301_104, e301_107, e301_108, e301_110, e301_112, e301_113, e301_114, e301_117, e301_118, e301_119, e301_120, e301_123, e301_124, e301_126, e301_128, e301_131, e301_132, e301_133, e301_134, e301_137, e301_140, psh0, psh1, psh3, true_or, or_true, eq_self, Option.bind_some, List.length_nil, List.length_cons, Nat.reduceAdd, Nat.reduceLeDiff, Nat.zero_le, ↓reduceIte, Int.reduceLT, Int.reduceEq, Int.reduceLE, Int.reduceNeg, Int.reduceAdd, Int.reduceMul, Int.reduceSub, ne_eq, not_true_eq_false, not_false_eq_true, and_true, true_and, and_false, false_and, c3lt, c3gt, c3eq, Bool.false_eq_true, isK_wr, inA_wr, inR_wr, hm.1, e20, w1, i4, eU, m_isVowel, ev]
      rfl
    · have ev : vow (mrd g 240 (4 + (l : Int))) = 1 := ev
      simp only [e301_0, e301_1, e301_2, e301_3, e301_4, e301_5, e301_6, e301_7, e301_10, e301_11, e301_12, e301_13, e301_14, e301_17, e301_20, e301_21, e301_24, e301_25, e301_28, e301_31, e301_32, e301_35, e301_36, e301_38, e301_39, e301_42, e301_43, e301_44, e301_45, e301_46, e301_47, e301_48, e301_49, e301_53, e301_54, e301_57, e301_58, e301_59, e301_62, e301_63, e301_66, e301_67, e301_69, e301_70, e301_73, e301_74, e301_75, e301_76, e301_79, e301_80, e301_81, e301_83, e301_84, e301_86, e301_89, e301_90, e301_91, e301_92, e301_94, e301_95, e301_98, e301_99, e301_100, e301_103, e301_104, e301_107, e301_108, e301_110, e301_112, e301_113, e301_114, e301_117, e301_118, e301_119, e301_120, e301_123, e301_124, e301_126, e301_128, e301_131, e301_132, e301_133, e301_134, e301_137, e301_140, psh0, psh1, psh3, true_or, or_true, eq_self, Option.bind_some, List.length_nil, List.length_cons, Nat.reduceAdd, Nat.reduceLeDiff, Nat.zero_le, ↓reduceIte, Int.reduceLT, Int.reduceEq, Int.reduceLE, Int.reduceNeg, Int.reduceAdd, Int.reduceMul, Int.reduceSub, ne_eq, not_true_eq_false, not_false_eq_true, and_true, true_and, and_false, false_and, c3lt, c3gt, c3eq, Bool.false_eq_true, isK_wr, inA_wr, inR_wr, hm.1, e20, w1, i4, eU, m_isVowel, ev]
      rfl
  by_cases c : U = 0
  · have ce : ∀ (g : AM), EV d 300 0 [(0, (t : Int)), (0, (v : Int)), (0, 1)] [] g = some ((0, ((18 * t + 9 * v : Nat) : Int)), g) := fun g => m_cellOf (r := 0) (by omega) hv (by omega)
    have i1 : inA g 250 19 ((18 * t + 9 * v : Nat) : Int) := ⟨kn_250 hm.2.1, by omega, by rw [ln_250 hm.2.1]; omega⟩
    have b := hz c (9 * v) (by omega)
    have w2 : w64 (mrd g 250 ((18 * t + 9 * v : Nat) : Int) + 1) = mrd g 250 ((18 * t + 9 * v : Nat) : Int) + 1 := w64_id (by omega) (by omega)
    refine ⟨mwr g 250 ((18 * t + 9 * v : Nat) : Int) (mrd g 250 ((18 * t + 9 * v : Nat) : Int) + 1), ?_, rfl, fun a i ha => rdn1 ha, fun i hi => rdn2 (by omega), fun q hq => ?_⟩
    · have cU : (U : Int) = 0 := by omega
      rw [pre, e301_27]
      simp only [e301_0, e301_1, e301_2, e301_3, e301_4, e301_5, e301_6, e301_7, e301_10, e301_11, e301_12, e301_13, e301_14, e301_17, e301_20, e301_21, e301_24, e301_25, e301_28, e301_31, e301_32, e301_35, e301_36, e301_38, e301_39, e301_42, e301_43, e301_44, e301_45, e301_46, e301_47, e301_48, e301_49, e301_53, e301_54, e301_57, e301_58, e301_59, e301_62, e301_63, e301_66, e301_67, e301_69, e301_70, e301_73, e301_74, e301_75, e301_76, e301_79, e301_80, e301_81, e301_83, e301_84, e301_86, e301_89, e301_90, e301_91, e301_92, e301_94, e301_95, e301_98, e301_99, e301_100, e301_103, e301_104, e301_107, e301_108, e301_110, e301_112, e301_113, e301_114, e301_117, e301_118, e301_119, e301_120, e301_123, e301_124, e301_126, e301_128, e301_131, e301_132, e301_133, e301_134, e301_137, e301_140, psh0, psh1, psh3, true_or, or_true, eq_self, Option.bind_some, List.length_nil, List.length_cons, Nat.reduceAdd, Nat.reduceLeDiff, Nat.zero_le, ↓reduceIte, Int.reduceLT, Int.reduceEq, Int.reduceLE, Int.reduceNeg, Int.reduceAdd, Int.reduceMul, Int.reduceSub, ne_eq, not_true_eq_false, not_false_eq_true, and_true, true_and, and_false, false_and, c3lt, c3gt, c3eq, Bool.false_eq_true, isK_wr, inA_wr, inR_wr, cU, hm.1, e35, ce, i1, w2]
    · rw [if_pos c]
      by_cases e : q = 9 * v
      · rw [e, rde, if_pos rfl]
      · rw [rdn2 (by omega), if_neg e, Int.add_zero]
  · obtain ⟨g', z1, z2, z3, z4, z5⟩ := m_says_loop (d := d) (l := l) hm (show U < t by omega) (by omega) hv m1 m9 hs (hB c) m 0 g (by omega) rfl (fun _ _ _ => rfl) (fun _ _ => rfl) (fun c _ => by
      rw [show advR m v (fun c => mrd g 250 ((18 * U + c : Nat) : Int)) c 0 = 0 from rfl, Int.add_zero])
    refine ⟨g', ?_, z2, z3, z4, fun q hq => by rw [if_neg c]; exact z5 q hq⟩
    have cU : ¬ (U : Int) = 0 := by omega
    rw [← z1, pre, e301_27]
    simp only [e301_0, e301_1, e301_2, e301_3, e301_4, e301_5, e301_6, e301_7, e301_10, e301_11, e301_12, e301_13, e301_14, e301_17, e301_20, e301_21, e301_24, e301_25, e301_28, e301_31, e301_32, e301_35, e301_36, e301_38, e301_39, e301_42, e301_43, e301_44, e301_45, e301_46, e301_47, e301_48, e301_49, e301_53, e301_54, e301_57, e301_58, e301_59, e301_62, e301_63, e301_66, e301_67, e301_69, e301_70, e301_73, e301_74, e301_75, e301_76, e301_79, e301_80, e301_81, e301_83, e301_84, e301_86, e301_89, e301_90, e301_91, e301_92, e301_94, e301_95, e301_98, e301_99, e301_100, e301_103, e301_104, e301_107, e301_108, e301_110, e301_112, e301_113, e301_114, e301_117, e301_118, e301_119, e301_120, e301_123, e301_124, e301_126, e301_128, e301_131, e301_132, e301_133, e301_134, e301_137, e301_140, psh0, psh1, psh3, true_or, or_true, eq_self, Option.bind_some, List.length_nil, List.length_cons, Nat.reduceAdd, Nat.reduceLeDiff, Nat.zero_le, ↓reduceIte, Int.reduceLT, Int.reduceEq, Int.reduceLE, Int.reduceNeg, Int.reduceAdd, Int.reduceMul, Int.reduceSub, ne_eq, not_true_eq_false, not_false_eq_true, and_true, true_and, and_false, false_and, c3lt, c3gt, c3eq, Bool.false_eq_true, isK_wr, inA_wr, inR_wr, cU, show ((0 + 1 : Nat) : Int) = 1 from rfl]

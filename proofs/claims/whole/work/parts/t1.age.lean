/-! age: the runs of the call -/
section
variable {d d' N : Nat} {a a' a1 a2 b b' b1 b2 : AM} {s G g nc nl n : Int} {l1 l2 : AV}
theorem m_g0 (hm : CM b) (h : mrd b 235 12 ≠ 0 ∨ mrd b 235 14 = 0) : EV d 238 28 [(2, 235), l1, l2] [] b = EV d 238 50 [(2, 235), l1, l2] [] b := by
  have kM := hm.1
  rw [e238_28]
  by_cases c : mrd b 235 12 = 0
  · have c2 : mrd b 235 14 = 0 := by omega
    simp only [e238_0, e238_1, e238_2, e238_5, e238_6, e238_7, e238_10, e238_11, e238_12, e238_15, e238_18, e238_21, e238_22, e238_23, e238_24, e238_25, e238_29, e238_32, e238_35, e238_36, e238_39, e238_42, e238_43, e238_44, e238_47, e238_51, e238_54, e238_57, e238_58, e238_59, e238_60, e238_63, e238_66, e238_67, e238_68, e238_69, e238_72, e238_75, e238_76, e238_79, e238_80, e238_81, e238_82, e238_83, e238_85, e238_86, e238_89, e238_90, e238_93, e238_94, e238_97, e238_100, e238_101, e238_102, e238_103, e238_106, e238_109, e238_110, e238_111, e238_112, e238_113, e238_116, e238_119, e238_120, e238_123, psh0, psh1, psh3, true_or, or_true, eq_self, Option.bind_some, List.length_nil, List.length_cons, Nat.reduceAdd, Nat.reduceLeDiff, Nat.zero_le, ↓reduceIte, Int.reduceLT, Int.reduceEq, Int.reduceLE, Int.reduceNeg, Int.reduceAdd, Int.reduceMul, Int.reduceSub, ne_eq, not_true_eq_false, not_false_eq_true, and_true, true_and, and_false, false_and, c3lt, c3gt, c3eq, Bool.false_eq_true, isK_wr, inA_wr, inR_wr, kM, c, c2]
  · simp only [e238_0, e238_1, e238_2, e238_5, e238_6, e238_7, e238_10, e238_11, e238_12, e238_15, e238_18, e238_21, e238_22, e238_23, e238_24, e238_25, e238_29, e238_32, e238_35, e238_36, e238_39, e238_42, e238_43, e238_44, e238_47, e238_51, e238_54, e238_57, e238_58, e238_59, e238_60, e238_63, e238_66, e238_67, e238_68, e238_69, e238_72, e238_75, e238_76, e238_79, e238_80, e238_81, e238_82, e238_83, e238_85, e238_86, e238_89, e238_90, e238_93, e238_94, e238_97, e238_100, e238_101, e238_102, e238_103, e238_106, e238_109, e238_110, e238_111, e238_112, e238_113, e238_116, e238_119, e238_120, e238_123, psh0, psh1, psh3, true_or, or_true, eq_self, Option.bind_some, List.length_nil, List.length_cons, Nat.reduceAdd, Nat.reduceLeDiff, Nat.zero_le, ↓reduceIte, Int.reduceLT, Int.reduceEq, Int.reduceLE, Int.reduceNeg, Int.reduceAdd, Int.reduceMul, Int.reduceSub, ne_eq, not_true_eq_false, not_false_eq_true, and_true, true_and, and_false, false_and, c3lt, c3gt, c3eq, Bool.false_eq_true, isK_wr, inA_wr, inR_wr, kM, c]
theorem m_g1 (hm : CM b) (h : mrd b 235 12 = 0) (h2 : mrd b 235 14 ≠ 0) (gs : EV d 237 0 [(2, 235), (0, 0), (3, 0), (3, 0), (3, 0)] [] b = some ((3, 0), b1)) : EV (d + 1) 238 28 [(2, 235), l1, l2] [] b = EV (d + 1) 238 28 [(2, 235), l1, l2] [] b1 := by
  have kM := hm.1
  rw [e238_28]
  simp only [e238_0, e238_1, e238_2, e238_5, e238_6, e238_7, e238_10, e238_11, e238_12, e238_15, e238_18, e238_21, e238_22, e238_23, e238_24, e238_25, e238_29, e238_32, e238_35, e238_36, e238_39, e238_42, e238_43, e238_44, e238_47, e238_51, e238_54, e238_57, e238_58, e238_59, e238_60, e238_63, e238_66, e238_67, e238_68, e238_69, e238_72, e238_75, e238_76, e238_79, e238_80, e238_81, e238_82, e238_83, e238_85, e238_86, e238_89, e238_90, e238_93, e238_94, e238_97, e238_100, e238_101, e238_102, e238_103, e238_106, e238_109, e238_110, e238_111, e238_112, e238_113, e238_116, e238_119, e238_120, e238_123, psh0, psh1, psh3, true_or, or_true, eq_self, Option.bind_some, List.length_nil, List.length_cons, Nat.reduceAdd, Nat.reduceLeDiff, Nat.zero_le, ↓reduceIte, Int.reduceLT, Int.reduceEq, Int.reduceLE, Int.reduceNeg, Int.reduceAdd, Int.reduceMul, Int.reduceSub, ne_eq, not_true_eq_false, not_false_eq_true, and_true, true_and, and_false, false_and, c3lt, c3gt, c3eq, Bool.false_eq_true, isK_wr, inA_wr, inR_wr, kM, h, h2, gs]
/-- both loops -/
theorem ag_loop (hs : HD s) (hG : HG G) (hN : N ≤ 300) : ∀ (n S i : Nat) (a b : AM), AI N G s nc nl 0 S i a b → (N : Int) - mrd b 235 15 < n → SG G nc nl 0 S 3 a b → ∃ a' b', EV (d + 5) 2 17 [(2, G), (2, 110), (2, s), (0, (i : Int))] [] a = some ((3, 0), a') ∧ EV (d' + 12) 238 28 [(2, 235), l1, l2] [] b = EV (d' + 12) 238 50 [(2, 235), l1, l2] [] b' ∧ GX G 0 0 a a' ∧ GM 0 b b' ∧ QQ N a' b' ∧ KD G a' ∧ (mrd a' 110 9 = 0 → ∃ S' : Nat, (mrd a' G 7 = S' ∧ mrd b' 235 25 = S' ∧ S' ≤ 30) ∧ SG G nc nl 0 S' 3 a' b') := by
  intro n
  induction n with
  | zero =>
    intro S i a b h hn
    have := (h.1.tg h.2.1).2.1.2.2
    omega
  | succ n ih =>
    intro S i a b h hn sg
    have q := h.1
    have h9 := h.2.1
    have e12 := q.e12
    have ac := q.1.ac hG hs
    have t1 := (q.tg h9).1.1
    by_cases c : mrd b 235 14 = 0
    · refine ⟨a, b, (x_aQ (d := d + 4) q.k ac.1 (Or.inr (by omega))).trans (x_aT (d := d + 4) ac.1 (by rw [h.2.2.2.2.2.2.1]; decide)), m_g0 q.2.1.1 (Or.inr c), GX.rf, GM.rf, q, h.2.2.2.2.1, fun _ => ⟨S, h.2.2.2.2.2.1, sg⟩⟩
    · obtain ⟨a1, b1, y1, y2, y3, y4, y5, y6⟩ := st_all (d := d) (nc := nc) (nl := nl) hs hG hN 3 0 S i (d' + 11) a b rfl (by omega) h (fun _ => c) (fun z => by omega)
      have M1 := m_g1 (d := d' + 11) (l1 := l1) (l2 := l2) q.2.1.1 (by omega) c y1
      have f2 : GX G 0 0 a a1 := y2.up (by omega) (by omega)
      have g2 : GM 0 b b1 := y3.up (by omega)
      rcases y6 with ⟨f, X⟩ | ⟨f, i', S2, X, x1, x2, x3, x4, x5, x6⟩
      · have e12' := y4.e12
        exact ⟨a1, b1, X, M1.trans (m_g0 y4.2.1.1 (Or.inl (by omega))), f2, g2, y4, y5, fun z => absurd z f⟩
      · have h' : AI N G s nc nl 0 S2 i' a1 b1 := h.go hs hG y2 y3 y4 f y5 x2 x3 x5
        have e7 : mrd a G 7 ≤ mrd a1 G 7 := by rw [h.2.2.2.2.2.1.1, x2.1]; omega
        have sg' : SG G nc nl 0 S2 3 a1 b1 := (sg.go hG y2 y3 e7).cat x4 (by omega) (by omega)
        obtain ⟨a2, b2, X2, M2, z1, z2, z3, z4, z5⟩ := ih S2 i' a1 b1 h' (by omega) sg'
        exact ⟨a2, b2, X.trans X2, M1.trans M2, f2.tr z1, g2.tr z2, z3, z4, z5⟩
theorem x_g0 (kG : isK a G 0) : EV d 2 0 [(2, G), (2, 110), (2, s), (3, 0)] [] a = EV d 2 17 [(2, G), (2, 110), (2, s), (0, 0)] [] (mwr (mwr (mwr a G 6 1) G 7 0) G 8 0) := by
  simp only [e2_0, e2_1, e2_2, e2_5, e2_6, e2_7, e2_10, e2_11, e2_12, e2_15, e2_16, e2_18, e2_21, e2_24, e2_25, e2_28, e2_31, e2_32, e2_34, e2_37, e2_40, e2_41, e2_42, e2_45, e2_48, e2_49, e2_50, e2_51, e2_54, e2_55, e2_57, e2_60, e2_63, e2_66, e2_67, e2_70, e2_73, e2_74, e2_77, psh0, psh1, psh3, true_or, or_true, eq_self, Option.bind_some, List.length_nil, List.length_cons, Nat.reduceAdd, Nat.reduceLeDiff, Nat.zero_le, ↓reduceIte, Int.reduceLT, Int.reduceEq, Int.reduceLE, Int.reduceNeg, Int.reduceAdd, Int.reduceMul, Int.reduceSub, ne_eq, not_true_eq_false, not_false_eq_true, and_true, true_and, and_false, false_and, c3lt, c3gt, c3eq, Bool.false_eq_true, isK_wr, inA_wr, inR_wr, kG]
theorem x_agP (k0 : isK a 0 10) (r1 : mrd a 0 1 = 110) (kk : isK a 110 5) (n0 : ¬ n < 0) (n1 : ¬ mrd a 110 2 < n) (n3 : ¬ 300 < n) (g1 : EV d 34 0 [(2, 110), (0, n)] [] a = some ((3, 0), a1)) (k1 : isK a1 0 10) (r10 : mrd a1 0 10 = G) (r8 : mrd a1 0 8 = s) (r11 : mrd a1 0 1 = 110) (kG : isK a1 G 0) (g2 : EV d 2 0 [(2, G), (2, 110), (2, s), (3, 0)] [] a1 = some ((3, 0), a2)) (k2 : isK a2 0 10) (r2 : mrd a2 0 1 = 110) (kk2 : isK a2 110 5) : EV (d + 1) 113 0 [(2, 0), (0, n), (3, 0)] [] a = EV (d + 1) 113 55 [(2, 0), (0, n), (3, 0)] [] (KF a2 (if mrd a2 110 9 = 0 then -1 else mrd a2 110 10)) := by
  have gk := x_keep (d := d) k2 r2 kk2
  simp only [e113_0, e113_1, e113_4, e113_5, e113_6, e113_9, e113_12, e113_15, e113_16, e113_19, e113_22, e113_23, e113_24, e113_27, e113_28, e113_29, e113_32, e113_33, e113_36, e113_37, e113_40, e113_41, e113_44, e113_45, e113_48, e113_51, e113_52, e113_56, e113_59, e113_62, e113_63, e113_65, e113_68, e113_69, e113_70, e113_73, e113_76, e113_77, e113_78, e113_81, e113_82, e113_85, e113_88, e113_89, e113_90, e113_93, e113_94, e113_95, e113_98, e113_101, e113_104, e113_107, psh0, psh1, psh3, true_or, or_true, eq_self, Option.bind_some, List.length_nil, List.length_cons, Nat.reduceAdd, Nat.reduceLeDiff, Nat.zero_le, ↓reduceIte, Int.reduceLT, Int.reduceEq, Int.reduceLE, Int.reduceNeg, Int.reduceAdd, Int.reduceMul, Int.reduceSub, ne_eq, not_true_eq_false, not_false_eq_true, and_true, true_and, and_false, false_and, c3lt, c3gt, c3eq, Bool.false_eq_true, isK_wr, inA_wr, inR_wr, k0, r1, kk, n0, n1, n3, g1, k1, r10, r8, r11, kG, g2, k2, gk, KF]
theorem x_agF {v : Int} (k2 : isK a 0 10) (h9 : mrd a 110 9 ≠ 0) : EV (d + 1) 113 55 [(2, 0), (0, n), (3, 0)] [] (KF a v) = some ((0, -1), mwr (KF a v) 0 11 10) := by
  have e14 : mrd (KF a v) 0 14 = mrd a 110 9 := by unfold KF; rw [rdn2 (by decide), rde]
  have kF : isK (KF a v) 0 10 := k2
  simp only [e113_0, e113_1, e113_4, e113_5, e113_6, e113_9, e113_12, e113_15, e113_16, e113_19, e113_22, e113_23, e113_24, e113_27, e113_28, e113_29, e113_32, e113_33, e113_36, e113_37, e113_40, e113_41, e113_44, e113_45, e113_48, e113_51, e113_52, e113_55, e113_56, e113_59, e113_62, e113_63, e113_65, e113_68, e113_69, e113_70, e113_73, e113_76, e113_77, e113_78, e113_81, e113_82, e113_85, e113_88, e113_89, e113_90, e113_93, e113_94, e113_95, e113_98, e113_101, e113_104, e113_107, psh0, psh1, psh3, true_or, or_true, eq_self, Option.bind_some, List.length_nil, List.length_cons, Nat.reduceAdd, Nat.reduceLeDiff, Nat.zero_le, ↓reduceIte, Int.reduceLT, Int.reduceEq, Int.reduceLE, Int.reduceNeg, Int.reduceAdd, Int.reduceMul, Int.reduceSub, ne_eq, not_true_eq_false, not_false_eq_true, and_true, true_and, and_false, false_and, c3lt, c3gt, c3eq, Bool.false_eq_true, isK_wr, inA_wr, inR_wr, kF, e14, h9, x_refuse]
theorem x_agS {v : Int} (k2 : isK a 0 10) (h9 : mrd a 110 9 = 0) (r8 : mrd a 0 8 = s) (r4 : mrd a s 4 = g) (r10 : mrd a 0 10 = G) (ks : isK a s 6) (kG : isK a G 0) (hs : s ≠ 0) (hs2 : s ≠ 110) (hG : G ≠ 0) (hG2 : G ≠ 110) (hG3 : G ≠ s) : EV (d + 1) 113 55 [(2, 0), (0, n), (3, 0)] [] (KF a v) = some ((0, mrd a G 7), mwr (mwr (mwr (KF a v) s 4 G) 0 10 g) 0 11 0) := by
  obtain ⟨c, hc⟩ : ∃ c, c = KF a v := ⟨_, rfl⟩
  have e14 : mrd c 0 14 = 0 := by rw [hc]; unfold KF; rw [rdn2 (by decide), rde, h9]
  have e8 : mrd c 0 8 = s := by rw [hc]; unfold KF; rw [rdn2 (by decide), rdn2 (by decide), rdn1 (by decide)]; exact r8
  have e10 : mrd c 0 10 = G := by rw [hc]; unfold KF; rw [rdn2 (by decide), rdn2 (by decide), rdn1 (by decide)]; exact r10
  have e4 : mrd c s 4 = g := by rw [hc]; unfold KF; rw [rdn1 hs, rdn1 hs, rdn1 hs2]; exact r4
  have e7 : mrd c G 7 = mrd a G 7 := by rw [hc]; unfold KF; rw [rdn1 hG, rdn1 hG, rdn1 hG2]
  have kF : isK c 0 10 := by rw [hc]; exact k2
  have kS : isK c s 6 := by rw [hc]; exact ks
  have kA : isK c G 0 := by rw [hc]; exact kG
  rw [← hc]
  have f8 : mrd (mwr (mwr c s 4 G) 0 10 g) 0 8 = s := by rw [rdn2 (by decide), rdn1 hs.symm]; exact e8
  have f4 : mrd (mwr (mwr c s 4 G) 0 10 g) s 4 = G := by rw [rdn1 hs, rde]
  have f7 : mrd (mwr (mwr c s 4 G) 0 10 g) G 7 = mrd a G 7 := by rw [rdn1 hG, rdn1 hG3]; exact e7
  simp only [e113_0, e113_1, e113_4, e113_5, e113_6, e113_9, e113_12, e113_15, e113_16, e113_19, e113_22, e113_23, e113_24, e113_27, e113_28, e113_29, e113_32, e113_33, e113_36, e113_37, e113_40, e113_41, e113_44, e113_45, e113_48, e113_51, e113_52, e113_55, e113_56, e113_59, e113_62, e113_63, e113_65, e113_68, e113_69, e113_70, e113_73, e113_76, e113_77, e113_78, e113_81, e113_82, e113_85, e113_88, e113_89, e113_90, e113_93, e113_94, e113_95, e113_98, e113_101, e113_104, e113_107, psh0, psh1, psh3, true_or, or_true, eq_self, Option.bind_some, List.length_nil, List.length_cons, Nat.reduceAdd, Nat.reduceLeDiff, Nat.zero_le, ↓reduceIte, Int.reduceLT, Int.reduceEq, Int.reduceLE, Int.reduceNeg, Int.reduceAdd, Int.reduceMul, Int.reduceSub, ne_eq, not_true_eq_false, not_false_eq_true, and_true, true_and, and_false, false_and, c3lt, c3gt, c3eq, Bool.false_eq_true, isK_wr, inA_wr, inR_wr, kF, kS, kA, e14, e8, e10, e4, f8, f4, f7, x_answer]
theorem m_agP (kM : isK b 235 11) (g1 : EV d 219 0 [(2, 235), (0, n), (0, 300)] [] (mwr (mwr b 235 1 0) 235 0 0) = some ((0, 1), b1)) (hm : CM b1) : EV (d + 1) 238 0 [(2, 235), (0, n), (3, 0)] [] b = EV (d + 1) 238 28 [(2, 235), (0, n), (3, 0)] [] (mwr b1 235 25 0) := by
  have k1 := hm.1
  simp only [e238_0, e238_1, e238_2, e238_5, e238_6, e238_7, e238_10, e238_11, e238_12, e238_15, e238_18, e238_21, e238_22, e238_23, e238_24, e238_25, e238_29, e238_32, e238_35, e238_36, e238_39, e238_42, e238_43, e238_44, e238_47, e238_51, e238_54, e238_57, e238_58, e238_59, e238_60, e238_63, e238_66, e238_67, e238_68, e238_69, e238_72, e238_75, e238_76, e238_79, e238_80, e238_81, e238_83, e238_85, e238_86, e238_89, e238_90, e238_93, e238_94, e238_97, e238_100, e238_101, e238_102, e238_103, e238_106, e238_109, e238_110, e238_111, e238_112, e238_113, e238_116, e238_119, e238_120, e238_123, psh0, psh1, psh3, true_or, or_true, eq_self, Option.bind_some, List.length_nil, List.length_cons, Nat.reduceAdd, Nat.reduceLeDiff, Nat.zero_le, ↓reduceIte, Int.reduceLT, Int.reduceEq, Int.reduceLE, Int.reduceNeg, Int.reduceAdd, Int.reduceMul, Int.reduceSub, ne_eq, not_true_eq_false, not_false_eq_true, and_true, true_and, and_false, false_and, c3lt, c3gt, c3eq, Bool.false_eq_true, isK_wr, inA_wr, inR_wr, kM, g1, k1]
theorem m_agF (kM : isK b 235 11) (h : mrd b 235 12 ≠ 0) : EV (d + 2) 238 50 [(2, 235), (0, n), (3, 0)] [] b = some ((0, -1), mwr (mwr (mwr b 235 10 (mrd b 235 12)) 235 11 (mrd b 235 13)) 235 0 10) := by
  have gw := m_well0 (d := d) kM h
  simp only [e238_0, e238_1, e238_2, e238_5, e238_6, e238_7, e238_10, e238_11, e238_12, e238_15, e238_18, e238_21, e238_22, e238_23, e238_24, e238_25, e238_28, e238_29, e238_32, e238_35, e238_36, e238_39, e238_42, e238_43, e238_44, e238_47, e238_50, e238_51, e238_54, e238_57, e238_58, e238_59, e238_60, e238_63, e238_66, e238_67, e238_68, e238_69, e238_72, e238_75, e238_76, e238_79, e238_80, e238_81, e238_83, e238_85, e238_86, e238_89, e238_90, e238_93, e238_94, e238_97, e238_100, e238_101, e238_102, e238_103, e238_106, e238_109, e238_110, e238_111, e238_112, e238_113, e238_116, e238_119, e238_120, e238_123, psh0, psh1, psh3, true_or, or_true, eq_self, Option.bind_some, List.length_nil, List.length_cons, Nat.reduceAdd, Nat.reduceLeDiff, Nat.zero_le, ↓reduceIte, Int.reduceLT, Int.reduceEq, Int.reduceLE, Int.reduceNeg, Int.reduceAdd, Int.reduceMul, Int.reduceSub, ne_eq, not_true_eq_false, not_false_eq_true, and_true, true_and, and_false, false_and, c3lt, c3gt, c3eq, Bool.false_eq_true, isK_wr, inA_wr, inR_wr, kM, gw]
theorem m_gC (hm : CM b) {S : Nat} (h25 : mrd b 235 25 = S) (S30 : S ≤ 30) (n : Nat) : ∀ i : Nat, i + n = 9 * S → EV d 238 82 [(2, 235), l1, (0, (i : Int))] [] (mff b 240 130 i (fun i => mrd b 240 (1770 + i))) = some ((0, (S : Int)), mff b 240 130 (9 * (S : Int)) (fun i => mrd b 240 (1770 + i))) := by
  have e20 : ∀ n, mrd (mff b 240 130 n (fun i => mrd b 240 (1770 + i))) 235 20 = 240 := fun n => by
    rw [rdff (by decide)]; exact rf_235_20 hm.2.2
  have e25 : ∀ n, mrd (mff b 240 130 n (fun i => mrd b 240 (1770 + i))) 235 25 = S := fun n => by
    rw [rdff (by decide)]; exact h25
  have w9 : w32 (9 * (S : Int)) = 9 * (S : Int) := w32_id (by omega) (by omega)
  induction n with
  | zero =>
    intro i hi
    have e : (i : Int) = 9 * (S : Int) := by omega
    rw [e238_82, e]
    simp only [e238_0, e238_1, e238_2, e238_5, e238_6, e238_7, e238_10, e238_11, e238_12, e238_15, e238_18, e238_21, e238_22, e238_23, e238_24, e238_25, e238_28, e238_29, e238_32, e238_35, e238_36, e238_39, e238_42, e238_43, e238_44, e238_47, e238_50, e238_51, e238_54, e238_57, e238_58, e238_59, e238_60, e238_63, e238_66, e238_67, e238_68, e238_69, e238_72, e238_75, e238_76, e238_79, e238_80, e238_81, e238_83, e238_85, e238_86, e238_89, e238_90, e238_93, e238_94, e238_97, e238_100, e238_101, e238_102, e238_103, e238_106, e238_109, e238_110, e238_111, e238_112, e238_113, e238_116, e238_119, e238_120, e238_123, psh0, psh1, psh3, true_or, or_true, eq_self, Option.bind_some, List.length_nil, List.length_cons, Nat.reduceAdd, Nat.reduceLeDiff, Nat.zero_le, ↓reduceIte, Int.reduceLT, Int.reduceEq, Int.reduceLE, Int.reduceNeg, Int.reduceAdd, Int.reduceMul, Int.reduceSub, ne_eq, not_true_eq_false, not_false_eq_true, and_true, true_and, and_false, false_and, c3lt, c3gt, c3eq, Bool.false_eq_true, isK_wr, inA_wr, inR_wr, isK_ff, hm.1, e25, w9, Int.lt_irrefl]
  | succ n ih =>
    intro i hi
    have c : (i : Int) < 9 * (S : Int) := by omega
    have w1 : w32 ((i : Int) + 1) = ((i + 1 : Nat) : Int) := by rw [w32_id (by omega) (by omega)]; omega
    have w4 : w32 (1770 + (i : Int)) = 1770 + i := w32_id (by omega) (by omega)
    have w5 : w32 (130 + (i : Int)) = 130 + i := w32_id (by omega) (by omega)
    have i1 : inA b 240 16 (1770 + i) := ⟨kn_240 hm.2.1, by omega, by rw [ln_240 hm.2.1]; omega⟩
    have i2 : inA b 240 16 (130 + i) := ⟨kn_240 hm.2.1, by omega, by rw [ln_240 hm.2.1]; omega⟩
    have er : mrd (mff b 240 130 i (fun i => mrd b 240 (1770 + i))) 240 (1770 + i) = mrd b 240 (1770 + i) := by
      rw [rd_ff, if_neg (by omega)]
    have e := mff_s (h := b) (a := 240) (i := 130) (n := i) (f := fun i => mrd b 240 (1770 + i)) (by omega)
    rw [e238_82]
    simp only [e238_0, e238_1, e238_2, e238_5, e238_6, e238_7, e238_10, e238_11, e238_12, e238_15, e238_18, e238_21, e238_22, e238_23, e238_24, e238_25, e238_28, e238_29, e238_32, e238_35, e238_36, e238_39, e238_42, e238_43, e238_44, e238_47, e238_50, e238_51, e238_54, e238_57, e238_58, e238_59, e238_60, e238_63, e238_66, e238_67, e238_68, e238_69, e238_72, e238_75, e238_76, e238_79, e238_80, e238_81, e238_83, e238_85, e238_86, e238_89, e238_90, e238_93, e238_94, e238_97, e238_100, e238_101, e238_102, e238_103, e238_106, e238_109, e238_110, e238_111, e238_112, e238_113, e238_116, e238_119, e238_120, e238_123, psh0, psh1, psh3, true_or, or_true, eq_self, Option.bind_some, List.length_nil, List.length_cons, Nat.reduceAdd, Nat.reduceLeDiff, Nat.zero_le, ↓reduceIte, Int.reduceLT, Int.reduceEq, Int.reduceLE, Int.reduceNeg, Int.reduceAdd, Int.reduceMul, Int.reduceSub, ne_eq, not_true_eq_false, not_false_eq_true, and_true, true_and, and_false, false_and, c3lt, c3gt, c3eq, Bool.false_eq_true, isK_wr, inA_wr, inR_wr, isK_ff, inA_ff, hm.1, c, e20, e25, w9, w1, w4, w5, i1, i2, er]
    rw [show mwr (mff b 240 130 (↑i) (fun i => mrd b 240 (1770 + i))) 240 (130 + ↑i) (mrd b 240 (1770 + ↑i)) = _ from e]
    exact ih (i + 1) (by omega)
def agM (b : AM) (S : Int) : AM := mwr (mwr (mwr (mwr b 235 10 0) 235 11 (-1)) 240 128 1) 240 129 S
theorem m_agE (hm : CM b) {S : Nat} (h : mrd b 235 12 = 0) (h25 : mrd b 235 25 = S) (S30 : S ≤ 30) : EV (d + 2) 238 50 [(2, 235), (0, n), (3, 0)] [] b = some ((0, (S : Int)), mff (agM b S) 240 130 (9 * (S : Int)) (fun i => mrd (agM b S) 240 (1770 + i))) := by
  have kM := hm.1
  have gw := m_well1 (d := d) kM h
  obtain ⟨c, hc⟩ : ∃ c, c = mwr (mwr b 235 10 0) 235 11 (-1) := ⟨_, rfl⟩
  have hmc : CM c := by rw [hc]; exact CM_wr (by decide +kernel) (CM_wr (by decide +kernel) hm)
  have r0 := mC hmc
  have kc := hmc.1
  have c25 : mrd c 235 25 = S := by rw [hc, rdn2 (by decide), rdn2 (by decide)]; exact h25
  have i1 := inB hmc (j := 128) (by decide) (by decide)
  have i2 := inB hmc (j := 129) (by decide) (by decide)
  have r0' : mrd (mwr c 240 128 1) 235 20 = 240 := by rw [rdn1 (by decide)]; exact r0
  have c25' : mrd (mwr c 240 128 1) 235 25 = S := by rw [rdn1 (by decide)]; exact c25
  have hmA : CM (agM b S) := by unfold agM; rw [← hc]; exact CM_wrA (by decide +kernel) (CM_wrA (by decide +kernel) hmc)
  have a25 : mrd (agM b S) 235 25 = S := by unfold agM; rw [← hc, rdn1 (by decide), rdn1 (by decide)]; exact c25
  have L := m_gC (d := d + 2) (l1 := (0, n)) hmA a25 S30 (9 * S) 0 (by omega)
  rw [show ((0 : Nat) : Int) = 0 from rfl, mff_0] at L
  rw [← L]
  rw [← hc] at gw
  unfold agM
  rw [← hc]
  simp only [e238_0, e238_1, e238_2, e238_5, e238_6, e238_7, e238_10, e238_11, e238_12, e238_15, e238_18, e238_21, e238_22, e238_23, e238_24, e238_25, e238_28, e238_29, e238_32, e238_35, e238_36, e238_39, e238_42, e238_43, e238_44, e238_47, e238_50, e238_51, e238_54, e238_57, e238_58, e238_59, e238_60, e238_63, e238_66, e238_67, e238_68, e238_69, e238_72, e238_75, e238_76, e238_79, e238_80, e238_81, e238_83, e238_85, e238_86, e238_89, e238_90, e238_93, e238_94, e238_97, e238_100, e238_101, e238_102, e238_103, e238_106, e238_109, e238_110, e238_111, e238_112, e238_113, e238_116, e238_119, e238_120, e238_123, psh0, psh1, psh3, true_or, or_true, eq_self, Option.bind_some, List.length_nil, List.length_cons, Nat.reduceAdd, Nat.reduceLeDiff, Nat.zero_le, ↓reduceIte, Int.reduceLT, Int.reduceEq, Int.reduceLE, Int.reduceNeg, Int.reduceAdd, Int.reduceMul, Int.reduceSub, ne_eq, not_true_eq_false, not_false_eq_true, and_true, true_and, and_false, false_and, c3lt, c3gt, c3eq, Bool.false_eq_true, isK_wr, inA_wr, inR_wr, kM, gw, kc, r0, i1, r0', c25', i2]
end

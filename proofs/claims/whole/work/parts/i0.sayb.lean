/-! the reference's sayable: its other loops -/
theorem m_sb_zero {d : Nat} {g : AM} {st : Nat} {x A B : Int} (hm : CM g) (hst : st < 4096) (n : Nat) : ∀ c : Nat, c + n = 18 → EV d 302 56 [(2, 235), (0, x), (1, A), (3, 1), (1, B), (3, 1), (0, (st : Int)), (0, (c : Int))] [] (mff g 250 (18 * (st : Int)) c (fun _ => 0)) = EV d 302 86 [(2, 235), (0, x), (1, A), (3, 1), (1, B), (3, 1), (0, (st : Int)), (0, 0)] [] (mff g 250 (18 * (st : Int)) 18 (fun _ => 0)) := by
  have w1 : w32 (18 * (st : Int)) = 18 * (st : Int) := w32_id (by omega) (by omega)
  have e35 : ∀ c, mrd (mff g 250 (18 * (st : Int)) c (fun _ => 0)) 235 35 = 250 := fun c => by rw [rdff (by decide)]; exact rf_235_35 hm.2.2
  induction n with
  | zero =>
    intro c hc
    have e : c = 18 := by omega
    subst e
    rw [e302_56]
    simp only [e302_0, e302_1, e302_2, e302_5, e302_6, e302_7, e302_10, e302_11, e302_12, e302_13, e302_16, e302_19, e302_22, e302_23, e302_24, e302_27, e302_28, e302_29, e302_32, e302_33, e302_34, e302_35, e302_37, e302_38, e302_42, e302_43, e302_44, e302_47, e302_48, e302_49, e302_50, e302_53, e302_54, e302_58, e302_60, e302_63, e302_64, e302_67, e302_69, e302_71, e302_72, e302_74, e302_75, e302_76, e302_77, e302_80, e302_83, e302_84, e302_88, e302_89, e302_92, e302_93, e302_94, e302_97, e302_99, e302_101, e302_104, e302_107, e302_108, e302_110, e302_111, e302_113, e302_114, e302_115, e302_116, e302_117, e302_119, e302_122, e302_125, e302_126, e302_128, e302_129, e302_131, e302_132, e302_133, e302_134, e302_135, e302_137, e302_140, e302_143, e302_148, e302_151, e302_152, e302_155, e302_158, e302_159, e302_160, e302_163, e302_165, e302_166, e302_167, e302_168, e302_169, e302_173, e302_175, e302_178, e302_180, e302_181, e302_184, e302_186, e302_188, e302_189, e302_191, e302_192, e302_193, e302_194, e302_196, e302_199, e302_202, e302_205, e302_208, e302_209, e302_210, e302_211, e302_214, e302_215, e302_217, e302_220, e302_223, e302_224, e302_226, e302_227, e302_230, psh0, psh1, psh3, true_or, or_true, eq_self, Option.bind_some, List.length_nil, List.length_cons, Nat.reduceAdd, Nat.reduceLeDiff, Nat.zero_le, ↓reduceIte, Int.reduceLT, Int.reduceEq, Int.reduceLE, Int.reduceNeg, Int.reduceAdd, Int.reduceMul, Int.reduceSub, ne_eq, not_true_eq_false, not_false_eq_true, and_true, true_and, and_false, false_and, c3lt, c3gt, c3eq, Bool.false_eq_true, isK_wr, inA_wr, inR_wr, show ¬ (((18 : Nat) : Int) < 18) by decide]
    rfl
  | succ n ih =>
    intro c hc
    have c1 : (c : Int) < 18 := by omega
    have wc : w32 ((c : Int) + 1) = ((c + 1 : Nat) : Int) := by rw [w32_id (by omega) (by omega)]; omega
    have w2 : w32 (18 * (st : Int) + c) = 18 * (st : Int) + c := w32_id (by omega) (by omega)
    have i1 : inA g 250 19 (18 * (st : Int) + c) := ⟨kn_250 hm.2.1, by omega, by rw [ln_250 hm.2.1]; omega⟩
    have e := mff_s (h := g) (a := 250) (i := 18 * (st : Int)) (n := c) (f := fun _ => 0) (by omega)
    rw [← ih (c + 1) (by omega), e302_56]
    simp only [e302_0, e302_1, e302_2, e302_5, e302_6, e302_7, e302_10, e302_11, e302_12, e302_13, e302_16, e302_19, e302_22, e302_23, e302_24, e302_27, e302_28, e302_29, e302_32, e302_33, e302_34, e302_35, e302_37, e302_38, e302_42, e302_43, e302_44, e302_47, e302_48, e302_49, e302_50, e302_53, e302_54, e302_58, e302_60, e302_63, e302_64, e302_67, e302_69, e302_71, e302_72, e302_74, e302_75, e302_76, e302_77, e302_80, e302_83, e302_84, e302_88, e302_89, e302_92, e302_93, e302_94, e302_97, e302_99, e302_101, e302_104, e302_107, e302_108, e302_110, e302_111, e302_113, e302_114, e302_115, e302_116, e302_117, e302_119, e302_122, e302_125, e302_126, e302_128, e302_129, e302_131, e302_132, e302_133, e302_134, e302_135, e302_137, e302_140, e302_143, e302_148, e302_151, e302_152, e302_155, e302_158, e302_159, e302_160, e302_163, e302_165, e302_166, e302_167, e302_168, e302_169, e302_173, e302_175, e302_178, e302_180, e302_181, e302_184, e302_186, e302_188, e302_189, e302_191, e302_192, e302_193, e302_194, e302_196, e302_199, e302_202, e302_205, e302_208, e302_209, e302_210, e302_211, e302_214, e302_215, e302_217, e302_220, e302_223, e302_224, e302_226, e302_227, e302_230, psh0, psh1, psh3, true_or, or_true, eq_self, Option.bind_some, List.length_nil, List.length_cons, Nat.reduceAdd, Nat.reduceLeDiff, Nat.zero_le, ↓reduceIte, Int.reduceLT, Int.reduceEq, Int.reduceLE, Int.reduceNeg, Int.reduceAdd, Int.reduceMul, Int.reduceSub, ne_eq, not_true_eq_false, not_false_eq_true, and_true, true_and, and_false, false_and, c3lt, c3gt, c3eq, Bool.false_eq_true, isK_wr, inA_wr, inR_wr, isK_ff, inA_ff, hm.1, c1, e35, w1, w2, i1, wc]
    rw [e]
    rfl
theorem m_sb_sum {d : Nat} {g : AM} {st : Nat} {x A B : Int} {f : Nat → Int} (hm : CM g) (hst : st < 4096) (hf : ∀ c : Nat, c < 18 → mrd g 250 ((18 * st + c : Nat) : Int) = f c) (hB : ∀ c, c ≤ 18 → 0 ≤ B + sm f c ∧ B + sm f c < 9223372036854775808) (n : Nat) : ∀ c : Nat, c + n = 18 → EV d 302 171 [(2, 235), (0, x), (1, A), (3, 1), (1, B + sm f c), (3, 1), (0, (st : Int)), (0, (c : Int))] [] g = EV d 302 202 [(2, 235), (0, x), (1, A), (3, 1), (1, B + sm f 18), (3, 1), (0, (st : Int)), (0, 18)] [] g := by
  have w1 : w32 (18 * (st : Int)) = 18 * (st : Int) := w32_id (by omega) (by omega)
  have e35 : mrd g 235 35 = 250 := rf_235_35 hm.2.2
  induction n with
  | zero =>
    intro c hc
    have e : c = 18 := by omega
    subst e
    rw [e302_171]
    simp only [e302_0, e302_1, e302_2, e302_5, e302_6, e302_7, e302_10, e302_11, e302_12, e302_13, e302_16, e302_19, e302_22, e302_23, e302_24, e302_27, e302_28, e302_29, e302_32, e302_33, e302_34, e302_35, e302_37, e302_38, e302_42, e302_43, e302_44, e302_47, e302_48, e302_49, e302_50, e302_53, e302_54, e302_58, e302_60, e302_63, e302_64, e302_67, e302_69, e302_71, e302_72, e302_74, e302_75, e302_76, e302_77, e302_80, e302_83, e302_84, e302_88, e302_89, e302_92, e302_93, e302_94, e302_97, e302_99, e302_101, e302_104, e302_107, e302_108, e302_110, e302_111, e302_113, e302_114, e302_115, e302_116, e302_117, e302_119, e302_122, e302_125, e302_126, e302_128, e302_129, e302_131, e302_132, e302_133, e302_134, e302_135, e302_137, e302_140, e302_143, e302_148, e302_151, e302_152, e302_155, e302_158, e302_159, e302_160, e302_163, e302_165, e302_166, e302_167, e302_168, e302_169, e302_173, e302_175, e302_178, e302_180, e302_181, e302_184, e302_186, e302_188, e302_189, e302_191, e302_192, e302_193, e302_194, e302_196, e302_199, e302_205, e302_208, e302_209, e302_210, e302_211, e302_214, e302_215, e302_217, e302_220, e302_223, e302_224, e302_226, e302_227, e302_230, psh0, psh1, psh3, true_or, or_true, eq_self, Option.bind_some, List.length_nil, List.length_cons, Nat.reduceAdd, Nat.reduceLeDiff, Nat.zero_le, ↓reduceIte, Int.reduceLT, Int.reduceEq, Int.reduceLE, Int.reduceNeg, Int.reduceAdd, Int.reduceMul, Int.reduceSub, ne_eq, not_true_eq_false, not_false_eq_true, and_true, true_and, and_false, false_and, c3lt, c3gt, c3eq, Bool.false_eq_true, isK_wr, inA_wr, inR_wr, show ¬ (((18 : Nat) : Int) < 18) by decide]
    rfl
  | succ n ih =>
    intro c hc
    have c1 : (c : Int) < 18 := by omega
    have wc : w32 ((c : Int) + 1) = ((c + 1 : Nat) : Int) := by rw [w32_id (by omega) (by omega)]; omega
    have w2 : w32 (18 * (st : Int) + c) = ((18 * st + c : Nat) : Int) := by rw [w32_id (by omega) (by omega)]; omega
    have i1 : inA g 250 19 ((18 * st + c : Nat) : Int) := ⟨kn_250 hm.2.1, by omega, by rw [ln_250 hm.2.1]; omega⟩
    have b := hB (c + 1) (by omega)
    have w4 : w64 (B + sm f c + f c) = B + sm f (c + 1) := by
      rw [show B + sm f c + f c = B + sm f (c + 1) by rw [sm]; omega]
      exact w64_id (by omega) (by omega)
    rw [← ih (c + 1) (by omega), e302_171]
    simp only [e302_0, e302_1, e302_2, e302_5, e302_6, e302_7, e302_10, e302_11, e302_12, e302_13, e302_16, e302_19, e302_22, e302_23, e302_24, e302_27, e302_28, e302_29, e302_32, e302_33, e302_34, e302_35, e302_37, e302_38, e302_42, e302_43, e302_44, e302_47, e302_48, e302_49, e302_50, e302_53, e302_54, e302_58, e302_60, e302_63, e302_64, e302_67, e302_69, e302_71, e302_72, e302_74, e302_75, e302_76, e302_77, e302_80, e302_83, e302_84, e302_88, e302_89, e302_92, e302_93, e302_94, e302_97, e302_99, e302_101, e302_104, e302_107, e302_108, e302_110, e302_111, e302_113, e302_114, e302_115, e302_116, e302_117, e302_119, e302_122, e302_125, e302_126, e302_128, e302_129, e302_131, e302_132, e302_133, e302_134, e302_135, e302_137, e302_140, e302_143, e302_148, e302_151, e302_152, e302_155, e302_158, e302_159, e302_160, e302_163, e302_165, e302_166, e302_167, e302_168, e302_169, e302_173, e302_175, e302_178, e302_180, e302_181, e302_184, e302_186, e302_188, e302_189, e302_191, e302_192, e302_193, e302_194, e302_196, e302_199, e302_205, e302_208, e302_209, e302_210, e302_211, e302_214, e302_215, e302_217, e302_220, e302_223, e302_224, e302_226, e302_227, e302_230, psh0, psh1, psh3, true_or, or_true, eq_self, Option.bind_some, List.length_nil, List.length_cons, Nat.reduceAdd, Nat.reduceLeDiff, Nat.zero_le, ↓reduceIte, Int.reduceLT, Int.reduceEq, Int.reduceLE, Int.reduceNeg, Int.reduceAdd, Int.reduceMul, Int.reduceSub, ne_eq, not_true_eq_false, not_false_eq_true, and_true, true_and, and_false, false_and, c3lt, c3gt, c3eq, Bool.false_eq_true, isK_wr, inA_wr, inR_wr, hm.1, c1, e35, w1, w2, i1, hf c (by omega), w4, wc]
/-- what the reference adds for a set -/
def rR (g0 : AM) (m N T : Nat) : Int := sm (RV (okO g0) (vwM g0) m N T) 18
set_option maxHeartbeats 1000000 in
theorem m_sb_out {d : Nat} {g0 : AM} {N m : Nat} {x : Int} (hm0 : CM g0) (hN : mrd g0 240 1 = N) (N12 : N ≤ 12) (m1 : 1 ≤ m) (m9 : m ≤ 9) (hs : mrd g0 240 3 = m) (hO : ∀ T : Nat, T < 2 ^ N → mrd g0 249 T = Wy (okO g0) N T) (n : Nat) : ∀ (st : Nat) (g : AM) (l7 : AV), st + n = 2 ^ N → 1 ≤ st → RQ g0 g → RowR g g0 N m st → ∃ g' l7', EV (d + 2) 302 40 [(2, 235), (0, x), (1, alF (Wy (okO g0) N) x st), (3, 1), (1, alF (rR g0 m N) x st), (3, 1), (0, (st : Int)), l7] [] g = EV (d + 2) 302 208 [(2, 235), (0, x), (1, alF (Wy (okO g0) N) x (2 ^ N)), (3, 1), (1, alF (rR g0 m N) x (2 ^ N)), (3, 1), (0, ((2 ^ N : Nat) : Int)), l7'] [] g' ∧ RQ g0 g' := by
  have hp := pow_13 N12
  have eN := shl_pow N (by omega)
  induction n with
  | zero =>
    intro st g l7 hi h1 hq hU
    have e : st = 2 ^ N := by omega
    have cm := CM_rq hm0 hq
    have i1 := inC cm (j := 1) (by decide) (by decide)
    have a2 : mrd g 240 1 = N := by rw [hq.2 _ _ (by decide)]; exact hN
    refine ⟨g, l7, ?_, hq⟩
    rw [e302_40, e]
    simp only [e302_42, e302_43, e302_44, e302_47, e302_48, e302_49, e302_50, psh0, psh1, psh3, true_or, or_true, eq_self, Option.bind_some, List.length_nil, List.length_cons, Nat.reduceAdd, Nat.reduceLeDiff, Nat.zero_le, ↓reduceIte, Int.reduceLT, Int.reduceEq, Int.reduceLE, Int.reduceNeg, Int.reduceAdd, Int.reduceMul, Int.reduceSub, ne_eq, not_true_eq_false, not_false_eq_true, and_true, true_and, and_false, false_and, c3lt, c3gt, c3eq, Bool.false_eq_true, isK_wr, inA_wr, inR_wr, cm.1, mC cm, i1, a2, eN, Int.lt_irrefl]
  | succ n ih =>
    intro st g l7 hi h1 hq hU
    have hst : st < 2 ^ N := by omega
    have ci : (st : Int) < ((2 ^ N : Nat) : Int) := Int.ofNat_lt.mpr hst
    have cm := CM_rq hm0 hq
    have i1 := inC cm (j := 1) (by decide) (by decide)
    have a2 : mrd g 240 1 = N := by rw [hq.2 _ _ (by decide)]; exact hN
    have w1 : w32 ((st : Int) + 1) = ((st + 1 : Nat) : Int) := by rw [w32_id (by omega) (by omega)]; omega
    have gz := m_sb_zero (d := d + 2) (x := x) (A := alF (Wy (okO g0) N) x st) (B := alF (rR g0 m N) x st) cm (show st < 4096 by omega) 18 0 (by omega)
    rw [show ((0 : Nat) : Int) = 0 from rfl, mff_0] at gz
    have q1 : RQ g0 (mff g 250 (18 * (st : Int)) 18 (fun _ => 0)) := ⟨hq.1, fun a i ha => by rw [rdff ha]; exact hq.2 a i ha⟩
    obtain ⟨g1, f1, f2, f3⟩ := m_sb_in (d := d) (x := x) (A := alF (Wy (okO g0) N) x st) (B := alF (rR g0 m N) x st) hm0 hN N12 hst (by omega) m1 m9 hs N 0 _ (by omega) q1 (fun T T0 hT c hc => by
      rw [rd_ff, if_neg (by omega)]
      exact hU T T0 hT c hc) (fun c hc => by
      rw [rd_ff, if_pos ⟨rfl, by omega, by omega⟩]
      rfl)
    have f1 : EV (d + 2) 302 86 [(2, 235), (0, x), (1, alF (Wy (okO g0) N) x st), (3, 1), (1, alF (rR g0 m N) x st), (3, 1), (0, (st : Int)), (0, 0)] [] (mff g 250 (18 * (st : Int)) 18 (fun _ => 0)) = _ := f1
    have cm1 := CM_rq hm0 f2
    have gs := m_sizeOf (d := d) (h := g1) (x := (st : Int))
    have m34 : mrd g1 235 34 = 249 := rf_235_34 cm1.2.2
    have iS : inA g1 249 19 (st : Int) := ⟨kn_249 cm1.2.1, by omega, by rw [ln_249 cm1.2.1]; omega⟩
    have ws : mrd g1 249 st = Wy (okO g0) N st := by rw [f2.2 _ _ (by decide)]; exact hO st hst
    have eA : alF (Wy (okO g0) N) x (st + 1) = alF (Wy (okO g0) N) x st + if cB (st : Int) 12 = x then Wy (okO g0) N st else 0 := rfl
    have eR : alF (rR g0 m N) x (st + 1) = alF (rR g0 m N) x st + if cB (st : Int) 12 = x then rR g0 m N st else 0 := rfl
    have start : EV (d + 2) 302 40 [(2, 235), (0, x), (1, alF (Wy (okO g0) N) x st), (3, 1), (1, alF (rR g0 m N) x st), (3, 1), (0, (st : Int)), l7] [] g = EV (d + 2) 302 146 [(2, 235), (0, x), (1, alF (Wy (okO g0) N) x st), (3, 1), (1, alF (rR g0 m N) x st), (3, 1), (0, (st : Int)), (0, (N : Int))] [] g1 := by
      rw [← f1, ← gz, e302_40]
      simp only [e302_42, e302_43, e302_44, e302_47, e302_48, e302_49, e302_50, e302_53, e302_54, psh0, psh1, psh3, true_or, or_true, eq_self, Option.bind_some, List.length_nil, List.length_cons, Nat.reduceAdd, Nat.reduceLeDiff, Nat.zero_le, ↓reduceIte, Int.reduceLT, Int.reduceEq, Int.reduceLE, Int.reduceNeg, Int.reduceAdd, Int.reduceMul, Int.reduceSub, ne_eq, not_true_eq_false, not_false_eq_true, and_true, true_and, and_false, false_and, c3lt, c3gt, c3eq, Bool.false_eq_true, isK_wr, inA_wr, inR_wr, cm.1, mC cm, i1, a2, eN, ci]
    by_cases c : cB (st : Int) 12 = x
    · rw [if_pos c] at eA eR
      have hB := alF_bd (w := Wy (okO g0) N) (len := x) (st + 1) (by omega) (fun u hu => W_B N12 (by omega))
      have hB0 := alF_bd (w := rR g0 m N) (len := x) st (by omega) (fun u hu => (RV_B N12 m1 m9 (by omega)).2)
      have w2 : w64 (alF (Wy (okO g0) N) x st + Wy (okO g0) N st) = alF (Wy (okO g0) N) x (st + 1) := by rw [← eA, w64_id (by omega) (by omega)]
      obtain ⟨b1, b2, b3⟩ := RV_B (ok := okO g0) (vw := vwM g0) N12 m1 m9 (show st < 4096 by omega)
      have gsum := m_sb_sum (d := d + 2) (x := x) (A := alF (Wy (okO g0) N) x (st + 1)) (B := alF (rR g0 m N) x st) (f := RV (okO g0) (vwM g0) m N st) cm1 (show st < 4096 by omega) (fun c hc => f3 st (by omega) (by omega) c hc) (fun j hj => by
        have q := sm_mono (a := RV (okO g0) (vwM g0) m N st) (n := 18) b1 (18 - j) j (by omega)
        omega) 18 0 (by omega)
      rw [show sm (RV (okO g0) (vwM g0) m N st) 0 = 0 from rfl, Int.add_zero] at gsum
      have gsum : EV (d + 2) 302 171 [(2, 235), (0, x), (1, alF (Wy (okO g0) N) x (st + 1)), (3, 1), (1, alF (rR g0 m N) x st), (3, 1), (0, (st : Int)), (0, 0)] [] g1 = EV (d + 2) 302 202 [(2, 235), (0, x), (1, alF (Wy (okO g0) N) x (st + 1)), (3, 1), (1, alF (rR g0 m N) x (st + 1)), (3, 1), (0, (st : Int)), (0, 18)] [] g1 := by
        rw [eR]; exact gsum
      obtain ⟨g', l7', z1, z2⟩ := ih (st + 1) g1 (0, 18) (by omega) (by omega) f2 f3
      refine ⟨g', l7', ?_, z2⟩
      rw [start, ← z1, e302_146]
      have ct := eq_true c
      simp only [e302_0, e302_1, e302_2, e302_5, e302_6, e302_7, e302_10, e302_11, e302_12, e302_13, e302_16, e302_19, e302_22, e302_23, e302_24, e302_27, e302_28, e302_29, e302_32, e302_33, e302_34, e302_35, e302_37, e302_38, e302_42, e302_43, e302_44, e302_47, e302_48, e302_49, e302_50, e302_53, e302_54, e302_58, e302_60, e302_63, e302_64, e302_67, e302_69, e302_71, e302_72, e302_74, e302_75, e302_76, e302_77, e302_80, e302_83, e302_84, e302_88, e302_89, e302_92, e302_93, e302_94, e302_97, e302_99, e302_101, e302_104, e302_107, e302_108, e302_110, e302_111, e302_113, e302_114, e302_115, e302_116, e302_117, e302_119, e302_122, e302_125, e302_126, e302_128, e302_129, e302_131, e302_132, e302_133, e302_134, e302_135, e302_137, e302_140, e302_143, e302_148, e302_151, e302_152, e302_155, e302_158, e302_159, e302_160, e302_163, e302_165, e302_166, e302_167, e302_168, e302_169, e302_173, e302_175, e302_178, e302_180, e302_181, e302_184, e302_186, e302_188, e302_189, e302_191, e302_192, e302_193, e302_194, e302_196, e302_199, e302_205, e302_209, e302_210, e302_211, e302_214, e302_215, e302_217, e302_220, e302_223, e302_224, e302_226, e302_227, e302_230, psh0, psh1, psh3, true_or, or_true, eq_self, Option.bind_some, List.length_nil, List.length_cons, Nat.reduceAdd, Nat.reduceLeDiff, Nat.zero_le, ↓reduceIte, Int.reduceLT, Int.reduceEq, Int.reduceLE, Int.reduceNeg, Int.reduceAdd, Int.reduceMul, Int.reduceSub, ne_eq, not_true_eq_false, not_false_eq_true, and_true, true_and, and_false, false_and, c3lt, c3gt, c3eq, Bool.false_eq_true, isK_wr, inA_wr, inR_wr, gs, ct, cm1.1, m34, iS, ws, w2, gsum]
      simp only [e302_202, e302_205, w1]
    · rw [if_neg c, Int.add_zero] at eA eR
      obtain ⟨g', l7', z1, z2⟩ := ih (st + 1) g1 (0, (N : Int)) (by omega) (by omega) f2 f3
      refine ⟨g', l7', ?_, z2⟩
      rw [start, ← z1, eA, eR, e302_146]
      simp only [e302_0, e302_1, e302_2, e302_5, e302_6, e302_7, e302_10, e302_11, e302_12, e302_13, e302_16, e302_19, e302_22, e302_23, e302_24, e302_27, e302_28, e302_29, e302_32, e302_33, e302_34, e302_35, e302_37, e302_38, e302_42, e302_43, e302_44, e302_47, e302_48, e302_49, e302_50, e302_53, e302_54, e302_58, e302_60, e302_63, e302_64, e302_67, e302_69, e302_71, e302_72, e302_74, e302_75, e302_76, e302_77, e302_80, e302_83, e302_84, e302_88, e302_89, e302_92, e302_93, e302_94, e302_97, e302_99, e302_101, e302_104, e302_107, e302_108, e302_110, e302_111, e302_113, e302_114, e302_115, e302_116, e302_117, e302_119, e302_122, e302_125, e302_126, e302_128, e302_129, e302_131, e302_132, e302_133, e302_134, e302_135, e302_137, e302_140, e302_143, e302_148, e302_151, e302_152, e302_155, e302_158, e302_159, e302_160, e302_163, e302_165, e302_166, e302_167, e302_168, e302_169, e302_173, e302_175, e302_178, e302_180, e302_181, e302_184, e302_186, e302_188, e302_189, e302_191, e302_192, e302_193, e302_194, e302_196, e302_199, e302_202, e302_205, e302_208, e302_209, e302_210, e302_211, e302_214, e302_215, e302_217, e302_220, e302_223, e302_224, e302_226, e302_227, e302_230, psh0, psh1, psh3, true_or, or_true, eq_self, Option.bind_some, List.length_nil, List.length_cons, Nat.reduceAdd, Nat.reduceLeDiff, Nat.zero_le, ↓reduceIte, Int.reduceLT, Int.reduceEq, Int.reduceLE, Int.reduceNeg, Int.reduceAdd, Int.reduceMul, Int.reduceSub, ne_eq, not_true_eq_false, not_false_eq_true, and_true, true_and, and_false, false_and, c3lt, c3gt, c3eq, Bool.false_eq_true, isK_wr, inA_wr, inR_wr, gs, c, w1]

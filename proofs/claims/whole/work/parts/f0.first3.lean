/-! the first way: the reference, and the call -/
def HQ (g0 g : AM) : Prop := g.2 = g0.2 ∧ ∀ a i, a ≠ 248 → mrd g a i = mrd g0 a i
theorem CM_hq {g g' : AM} (hm : CM g) (hsp : HQ g g') : CM g' := by
  refine ⟨?_, ?_, fun q hq => ?_⟩
  · have := hm.1
    unfold isK mnx mkn at this ⊢
    rw [hsp.1]; exact this
  · have hS := hm.2.1
    unfold Shp mnx at hS ⊢
    rw [hsp.1]; exact hS
  · have hn : ∀ q ∈ refT, q.1 ≠ 248 := by decide +kernel
    exact (hsp.2 _ _ (hn q hq)).trans (hm.2.2 q hq)
theorem SF.hq {h h1 h2 : AM} (hf : SF h h1) (a : HQ h1 h2) : SF h h2 := by
  refine hf.st a.1 (fun x i hn => a.2 x i (fun z => hn ?_)) (a.2 _ _ (by decide))
  rw [z]; exact Or.inl (by decide +kernel)
theorem fI_snoc {P : Nat → Bool} {n : Nat} : decide (fI P 0 (n + 1) < n + 1) = (decide (fI P 0 n < n) || P n) := by
  cases hp : P n with
  | true =>
    rw [Bool.or_true, decide_eq_true_iff]
    exact fI_lt_iff.mpr ⟨n, by omega, hp⟩
  | false =>
    rw [Bool.or_false]
    by_cases c : fI P 0 n < n
    · rw [decide_eq_true c, decide_eq_true_iff]
      obtain ⟨j, j1, j2⟩ := fI_lt_iff.mp c
      exact fI_lt_iff.mpr ⟨j, by omega, j2⟩
    · rw [decide_eq_false c, decide_eq_false_iff_not]
      intro z
      obtain ⟨j, j1, j2⟩ := fI_lt_iff.mp z
      by_cases e : j = n
      · subst e; rw [hp] at j2; cases j2
      · exact c (fI_lt_iff.mpr ⟨j, by omega, j2⟩)
section
variable {d : Nat} {h g : AM} {s a b k l p t v w x y z S : Int} {N : Nat}
/-- what the search for the first way reads -/
def FF (g : AM) (N n : Nat) : Prop := CM g ∧ mrd g 240 1 = N ∧ N ≤ 12 ∧ mrd g 235 27 = n ∧ n ≤ 12 ∧ ∀ p : Nat, p < n → mrd g 243 p ≠ 0
theorem FF_hq {g0 : AM} {n : Nat} (hr : FF g0 N n) (hq : HQ g0 g) : FF g N n ∧ okR g = okR g0 := by
  obtain ⟨a1, a2, a3, a4, a5, a6⟩ := hr
  have e4 : ∀ i, mrd g 240 i = mrd g0 240 i := fun i => hq.2 _ _ (by decide)
  have e3 : ∀ i, mrd g 243 i = mrd g0 243 i := fun i => hq.2 _ _ (by decide)
  have e5 : ∀ i, mrd g 235 i = mrd g0 235 i := fun i => hq.2 _ _ (by decide)
  refine ⟨⟨CM_hq a1 hq, by rw [e4]; exact a2, a3, by rw [e5]; exact a4, a5, fun p hp => by rw [e3]; exact a6 p hp⟩, ?_⟩
  unfold okR
  simp only [e4, e3, e5]
theorem okR_hb {g : AM} (N12 : N ≤ 12) : ∀ T l, T < 2 ^ N → l < N → okR g T l = true → T.testBit l = false := okF_hb N12
theorem m_first_in {g0 : AM} {n T : Nat} (hr : FF g0 N n) (hT : T < 2 ^ N) (hc : cB (T : Int) 12 < n) (m : Nat) : ∀ (li : Nat) (g : AM), li + m = N → HQ g0 g → (∀ U : Nat, T < U → U < 2 ^ N → mrd g 248 U = b01 (Gy (okR g0) N n U)) → mrd g 248 T = b01 (decide (fI (gP (okR g0) N n T) 0 li < li)) → ∃ g', EV (d + 2) 294 88 [(2, 235), (0, t), (0, (n : Int)), (0, (T : Int)), (0, cB (T : Int) 12), (0, (li : Int))] [] g = EV (d + 2) 294 155 [(2, 235), (0, t), (0, (n : Int)), (0, (T : Int)), (0, cB (T : Int) 12), (0, (N : Int))] [] g' ∧ HQ g0 g' ∧ (∀ U : Nat, T < U → U < 2 ^ N → mrd g' 248 U = b01 (Gy (okR g0) N n U)) ∧ mrd g' 248 T = b01 (decide (fI (gP (okR g0) N n T) 0 N < N)) := by
  have N12 := hr.2.2.1
  have hp := pow_13 N12
  have hcr := cB_rng (T : Int) 12
  have n12 := hr.2.2.2.2.1
  induction m with
  | zero =>
    intro li g hi hq hU e1
    have e : li = N := by omega
    subst e
    obtain ⟨⟨cm, a2, a3, a4, a5, a6⟩, -⟩ := FF_hq hr hq
    have i1 := inC cm (j := 1) (by decide) (by decide)
    refine ⟨g, ?_, hq, hU, e1⟩
    rw [e294_88]
    simp only [e294_0, e294_1, e294_2, e294_5, e294_6, e294_7, e294_10, e294_11, e294_12, e294_13, e294_16, e294_19, e294_20, e294_21, e294_22, e294_23, e294_26, e294_27, e294_28, e294_31, e294_32, e294_34, e294_37, e294_38, e294_39, e294_40, e294_43, e294_44, e294_45, e294_46, e294_47, e294_48, e294_50, e294_53, e294_54, e294_57, e294_59, e294_60, e294_63, e294_64, e294_66, e294_67, e294_70, e294_71, e294_74, e294_75, e294_75z, e294_76, e294_78, e294_79, e294_82, e294_85, e294_86, e294_90, e294_91, e294_94, e294_95, e294_96, e294_99, e294_100, e294_101, e294_103, e294_106, e294_109, e294_110, e294_113, e294_114, e294_116, e294_117, e294_118, e294_119, e294_122, e294_124, e294_125, e294_128, e294_129, e294_132, e294_133, e294_134, e294_136, e294_137, e294_138, e294_138z, e294_139, e294_142, e294_143, e294_146, e294_147, e294_148, e294_148z, e294_149, e294_152, e294_158, e294_161, e294_162, e294_163, e294_164, e294_168, e294_169, e294_172, e294_173, e294_176, e294_177, e294_179, e294_182, e294_185, e294_186, e294_189, e294_190, e294_192, e294_193, e294_194, e294_195, e294_198, e294_200, e294_201, e294_204, e294_205, e294_208, e294_209, e294_210, e294_212, e294_213, e294_214, e294_214z, e294_215, e294_218, e294_221, e294_224, e294_225, e294_228, e294_230, e294_232, e294_233, e294_234, e294_235, e294_237, e294_238, e294_239, e294_240, e294_243, e294_246, e294_247, e294_248, e294_251, e294_252, psh0, psh1, psh3, true_or, or_true, eq_self, Option.bind_some, List.length_nil, List.length_cons, Nat.reduceAdd, Nat.reduceLeDiff, Nat.zero_le, ↓reduceIte, Int.reduceLT, Int.reduceEq, Int.reduceLE, Int.reduceNeg, Int.reduceAdd, Int.reduceMul, Int.reduceSub, ne_eq, not_true_eq_false, not_false_eq_true, and_true, true_and, and_false, false_and, c3lt, c3gt, c3eq, Bool.false_eq_true, isK_wr, inA_wr, inR_wr, cm.1, mC cm, i1, a2, Int.lt_irrefl]
  | succ m ih =>
    intro li g hi hq hU e1
    obtain ⟨⟨cm, a2, a3, a4, a5, a6⟩, eok⟩ := FF_hq hr hq
    have i1 := inC cm (j := 1) (by decide) (by decide)
    have ci : (li : Int) < N := by omega
    have w1 : w32 ((li : Int) + 1) = ((li + 1 : Nat) : Int) := by rw [w32_id (by omega) (by omega)]; omega
    have w2 : w32 (4 + (li : Int)) = 4 + li := w32_id (by omega) (by omega)
    have i4 := inC cm (j := 4 + (li : Int)) (by omega) (by omega)
    have i3 : inA g 243 16 (cB (T : Int) 12) := ⟨kn_243 cm.2.1, hcr.1, by rw [ln_243 cm.2.1]; omega⟩
    have m26 : mrd g 235 26 = 243 := rf_235_26 cm.2.2
    have m33 : mrd g 235 33 = 248 := rf_235_33 cm.2.2
    have iT : inA g 248 18 (T : Int) := ⟨kn_248 cm.2.1, by omega, by rw [ln_248 cm.2.1]; omega⟩
    have go := m_isOpenTo (d := d) (x := (T : Int)) (l := (li : Int)) cm (by omega) (by omega)
    have iff := okR_iff (g := g) (T := T) (l := li) (fun p hp => a6 p (by rw [a4] at hp; omega)) (by rw [a4]; exact hc)
    rw [eok] at iff
    have eS := fI_snoc (P := gP (okR g0) N n T) (n := li)
    have skip : okR g0 T li = false → ∃ g', EV (d + 2) 294 88 [(2, 235), (0, t), (0, (n : Int)), (0, (T : Int)), (0, cB (T : Int) 12), (0, ((li + 1 : Nat) : Int))] [] g = EV (d + 2) 294 155 [(2, 235), (0, t), (0, (n : Int)), (0, (T : Int)), (0, cB (T : Int) 12), (0, (N : Int))] [] g' ∧ HQ g0 g' ∧ (∀ U : Nat, T < U → U < 2 ^ N → mrd g' 248 U = b01 (Gy (okR g0) N n U)) ∧ mrd g' 248 T = b01 (decide (fI (gP (okR g0) N n T) 0 N < N)) := fun hno => ih (li + 1) g (by omega) hq hU (by
      rw [e1, eS]
      unfold gP
      rw [hno, Bool.false_and, Bool.or_false])
    by_cases co : opn (T : Int) (mrd g 240 (52 + li)) (li : Int)
    · rw [if_pos co] at go
      by_cases cl : mrd g 240 (4 + li) = mrd g 243 (cB (T : Int) 12)
      · rw [decide_eq_true co, decide_eq_true cl] at iff
        have hb := okR_hb (g := g0) N12 T li hT (by omega) iff
        have hlt := ins_lt hT (show li < N by omega) hb
        have hp0 := Nat.two_pow_pos li
        have eU := i_ins (x := T) (l := li) (by omega) (by omega) hb
        have vU := hU (T + 2 ^ li) (by omega) hlt
        have iU : inA g 248 18 ((T + 2 ^ li : Nat) : Int) := ⟨kn_248 cm.2.1, Int.natCast_nonneg _, by rw [ln_248 cm.2.1]; have := Int.ofNat_lt.mpr hlt; omega⟩
        have cl' : (mrd g 240 (4 + li) = mrd g 243 (cB (T : Int) 12)) = True := eq_true cl
        cases hg : Gy (okR g0) N n (T + 2 ^ li) with
        | false =>
          rw [hg] at vU
          have vU' : mrd g 248 ((T + 2 ^ li : Nat) : Int) = 0 := vU
          obtain ⟨g', f1, f2, f3, f4⟩ := ih (li + 1) g (by omega) hq hU (by
            rw [e1, eS]
            unfold gP
            rw [hg, Bool.and_false, Bool.or_false])
          refine ⟨g', ?_, f2, f3, f4⟩
          rw [← f1, e294_88]
          simp only [e294_0, e294_1, e294_2, e294_5, e294_6, e294_7, e294_10, e294_11, e294_12, e294_13, e294_16, e294_19, e294_20, e294_21, e294_22, e294_23, e294_26, e294_27, e294_28, e294_31, e294_32, e294_34, e294_37, e294_38, e294_39, e294_40, e294_43, e294_44, e294_45, e294_46, e294_47, e294_48, e294_50, e294_53, e294_54, e294_57, e294_59, e294_60, e294_63, e294_64, e294_66, e294_67, e294_70, e294_71, e294_74, e294_75, e294_75z, e294_76, e294_78, e294_79, e294_82, e294_85, e294_86, e294_90, e294_91, e294_94, e294_95, e294_96, e294_99, e294_100, e294_101, e294_103, e294_106, e294_109, e294_110, e294_113, e294_114, e294_116, e294_117, e294_118, e294_119, e294_122, e294_124, e294_125, e294_128, e294_129, e294_132, e294_133, e294_134, e294_136, e294_137, e294_138, e294_138z, e294_139, e294_142, e294_143, e294_146, e294_147, e294_148, e294_148z, e294_149, e294_152, e294_158, e294_161, e294_162, e294_163, e294_164, e294_168, e294_169, e294_172, e294_173, e294_176, e294_177, e294_179, e294_182, e294_185, e294_186, e294_189, e294_190, e294_192, e294_193, e294_194, e294_195, e294_198, e294_200, e294_201, e294_204, e294_205, e294_208, e294_209, e294_210, e294_212, e294_213, e294_214, e294_214z, e294_215, e294_218, e294_221, e294_224, e294_225, e294_228, e294_230, e294_232, e294_233, e294_234, e294_235, e294_237, e294_238, e294_239, e294_240, e294_243, e294_246, e294_247, e294_248, e294_251, e294_252, psh0, psh1, psh3, true_or, or_true, eq_self, Option.bind_some, List.length_nil, List.length_cons, Nat.reduceAdd, Nat.reduceLeDiff, Nat.zero_le, ↓reduceIte, Int.reduceLT, Int.reduceEq, Int.reduceLE, Int.reduceNeg, Int.reduceAdd, Int.reduceMul, Int.reduceSub, ne_eq, not_true_eq_false, not_false_eq_true, and_true, true_and, and_false, false_and, c3lt, c3gt, c3eq, Bool.false_eq_true, isK_wr, inA_wr, inR_wr, cm.1, mC cm, i1, a2, ci, go, w2, i4, m26, i3, cl', m33, eU, iU, vU', w1]
        | true =>
          rw [hg] at vU
          have vU' : mrd g 248 ((T + 2 ^ li : Nat) : Int) = 1 := vU
          obtain ⟨g', f1, f2, f3, f4⟩ := ih (li + 1) (mwr g 248 T 1) (by omega) ⟨hq.1, fun a i y1 => by
            rw [rdn1 y1]
            exact hq.2 a i y1⟩ (fun U u1 u2 => by
            rw [rdn2 (by omega)]
            exact hU U u1 u2) (by
            rw [rde, eS]
            unfold gP
            rw [hg, iff]
            simp [b01])
          refine ⟨g', ?_, f2, f3, f4⟩
          rw [← f1, e294_88]
          simp only [e294_0, e294_1, e294_2, e294_5, e294_6, e294_7, e294_10, e294_11, e294_12, e294_13, e294_16, e294_19, e294_20, e294_21, e294_22, e294_23, e294_26, e294_27, e294_28, e294_31, e294_32, e294_34, e294_37, e294_38, e294_39, e294_40, e294_43, e294_44, e294_45, e294_46, e294_47, e294_48, e294_50, e294_53, e294_54, e294_57, e294_59, e294_60, e294_63, e294_64, e294_66, e294_67, e294_70, e294_71, e294_74, e294_75, e294_75z, e294_76, e294_78, e294_79, e294_82, e294_85, e294_86, e294_90, e294_91, e294_94, e294_95, e294_96, e294_99, e294_100, e294_101, e294_103, e294_106, e294_109, e294_110, e294_113, e294_114, e294_116, e294_117, e294_118, e294_119, e294_122, e294_124, e294_125, e294_128, e294_129, e294_132, e294_133, e294_134, e294_136, e294_137, e294_138, e294_138z, e294_139, e294_142, e294_143, e294_146, e294_147, e294_148, e294_148z, e294_149, e294_152, e294_158, e294_161, e294_162, e294_163, e294_164, e294_168, e294_169, e294_172, e294_173, e294_176, e294_177, e294_179, e294_182, e294_185, e294_186, e294_189, e294_190, e294_192, e294_193, e294_194, e294_195, e294_198, e294_200, e294_201, e294_204, e294_205, e294_208, e294_209, e294_210, e294_212, e294_213, e294_214, e294_214z, e294_215, e294_218, e294_221, e294_224, e294_225, e294_228, e294_230, e294_232, e294_233, e294_234, e294_235, e294_237, e294_238, e294_239, e294_240, e294_243, e294_246, e294_247, e294_248, e294_251, e294_252, psh0, psh1, psh3, true_or, or_true, eq_self, Option.bind_some, List.length_nil, List.length_cons, Nat.reduceAdd, Nat.reduceLeDiff, Nat.zero_le, ↓reduceIte, Int.reduceLT, Int.reduceEq, Int.reduceLE, Int.reduceNeg, Int.reduceAdd, Int.reduceMul, Int.reduceSub, ne_eq, not_true_eq_false, not_false_eq_true, and_true, true_and, and_false, false_and, c3lt, c3gt, c3eq, Bool.false_eq_true, isK_wr, inA_wr, inR_wr, cm.1, mC cm, i1, a2, ci, go, w2, i4, m26, i3, cl', m33, eU, iU, vU', iT, w1]
      · rw [decide_eq_false cl, Bool.and_false] at iff
        obtain ⟨g', f1, f2, f3, f4⟩ := skip iff
        refine ⟨g', ?_, f2, f3, f4⟩
        rw [← f1, e294_88]
        simp only [e294_0, e294_1, e294_2, e294_5, e294_6, e294_7, e294_10, e294_11, e294_12, e294_13, e294_16, e294_19, e294_20, e294_21, e294_22, e294_23, e294_26, e294_27, e294_28, e294_31, e294_32, e294_34, e294_37, e294_38, e294_39, e294_40, e294_43, e294_44, e294_45, e294_46, e294_47, e294_48, e294_50, e294_53, e294_54, e294_57, e294_59, e294_60, e294_63, e294_64, e294_66, e294_67, e294_70, e294_71, e294_74, e294_75, e294_75z, e294_76, e294_78, e294_79, e294_82, e294_85, e294_86, e294_90, e294_91, e294_94, e294_95, e294_96, e294_99, e294_100, e294_101, e294_103, e294_106, e294_109, e294_110, e294_113, e294_114, e294_116, e294_117, e294_118, e294_119, e294_122, e294_124, e294_125, e294_128, e294_129, e294_132, e294_133, e294_134, e294_136, e294_137, e294_138, e294_138z, e294_139, e294_142, e294_143, e294_146, e294_147, e294_148, e294_148z, e294_149, e294_152, e294_158, e294_161, e294_162, e294_163, e294_164, e294_168, e294_169, e294_172, e294_173, e294_176, e294_177, e294_179, e294_182, e294_185, e294_186, e294_189, e294_190, e294_192, e294_193, e294_194, e294_195, e294_198, e294_200, e294_201, e294_204, e294_205, e294_208, e294_209, e294_210, e294_212, e294_213, e294_214, e294_214z, e294_215, e294_218, e294_221, e294_224, e294_225, e294_228, e294_230, e294_232, e294_233, e294_234, e294_235, e294_237, e294_238, e294_239, e294_240, e294_243, e294_246, e294_247, e294_248, e294_251, e294_252, psh0, psh1, psh3, true_or, or_true, eq_self, Option.bind_some, List.length_nil, List.length_cons, Nat.reduceAdd, Nat.reduceLeDiff, Nat.zero_le, ↓reduceIte, Int.reduceLT, Int.reduceEq, Int.reduceLE, Int.reduceNeg, Int.reduceAdd, Int.reduceMul, Int.reduceSub, ne_eq, not_true_eq_false, not_false_eq_true, and_true, true_and, and_false, false_and, c3lt, c3gt, c3eq, Bool.false_eq_true, isK_wr, inA_wr, inR_wr, cm.1, mC cm, i1, a2, ci, go, w2, i4, m26, i3, cl, w1]
    · rw [if_neg co] at go
      rw [decide_eq_false co, Bool.false_and] at iff
      obtain ⟨g', f1, f2, f3, f4⟩ := skip iff
      refine ⟨g', ?_, f2, f3, f4⟩
      rw [← f1, e294_88]
      simp only [e294_0, e294_1, e294_2, e294_5, e294_6, e294_7, e294_10, e294_11, e294_12, e294_13, e294_16, e294_19, e294_20, e294_21, e294_22, e294_23, e294_26, e294_27, e294_28, e294_31, e294_32, e294_34, e294_37, e294_38, e294_39, e294_40, e294_43, e294_44, e294_45, e294_46, e294_47, e294_48, e294_50, e294_53, e294_54, e294_57, e294_59, e294_60, e294_63, e294_64, e294_66, e294_67, e294_70, e294_71, e294_74, e294_75, e294_75z, e294_76, e294_78, e294_79, e294_82, e294_85, e294_86, e294_90, e294_91, e294_94, e294_95, e294_96, e294_99, e294_100, e294_101, e294_103, e294_106, e294_109, e294_110, e294_113, e294_114, e294_116, e294_117, e294_118, e294_119, e294_122, e294_124, e294_125, e294_128, e294_129, e294_132, e294_133, e294_134, e294_136, e294_137, e294_138, e294_138z, e294_139, e294_142, e294_143, e294_146, e294_147, e294_148, e294_148z, e294_149, e294_152, e294_158, e294_161, e294_162, e294_163, e294_164, e294_168, e294_169, e294_172, e294_173, e294_176, e294_177, e294_179, e294_182, e294_185, e294_186, e294_189, e294_190, e294_192, e294_193, e294_194, e294_195, e294_198, e294_200, e294_201, e294_204, e294_205, e294_208, e294_209, e294_210, e294_212, e294_213, e294_214, e294_214z, e294_215, e294_218, e294_221, e294_224, e294_225, e294_228, e294_230, e294_232, e294_233, e294_234, e294_235, e294_237, e294_238, e294_239, e294_240, e294_243, e294_246, e294_247, e294_248, e294_251, e294_252, psh0, psh1, psh3, true_or, or_true, eq_self, Option.bind_some, List.length_nil, List.length_cons, Nat.reduceAdd, Nat.reduceLeDiff, Nat.zero_le, ↓reduceIte, Int.reduceLT, Int.reduceEq, Int.reduceLE, Int.reduceNeg, Int.reduceAdd, Int.reduceMul, Int.reduceSub, ne_eq, not_true_eq_false, not_false_eq_true, and_true, true_and, and_false, false_and, c3lt, c3gt, c3eq, Bool.false_eq_true, isK_wr, inA_wr, inR_wr, cm.1, mC cm, i1, a2, ci, go, w1]
theorem m_first_1 {g0 : AM} {n : Nat} (hr : FF g0 N n) (m : Nat) : ∀ (g : AM) (l4 l5 : AV), m ≤ 2 ^ N → HQ g0 g → (∀ T : Nat, m ≤ T → T < 2 ^ N → mrd g 248 T = b01 (Gy (okR g0) N n T)) → ∃ g' l4' l5', EV (d + 2) 294 49 [(2, 235), (0, t), (0, (n : Int)), (0, (m : Int) - 1), l4, l5] [] g = EV (d + 2) 294 161 [(2, 235), (0, t), (0, (n : Int)), (0, -1), l4', l5'] [] g' ∧ HQ g0 g' ∧ ∀ T : Nat, T < 2 ^ N → mrd g' 248 T = b01 (Gy (okR g0) N n T) := by
  have N12 := hr.2.2.1
  have hp := pow_13 N12
  have n12 := hr.2.2.2.2.1
  induction m with
  | zero =>
    intro g l4 l5 hm hq hP
    refine ⟨g, l4, l5, ?_, hq, fun T hT => hP T (by omega) hT⟩
    rw [e294_49]
    simp only [e294_50, psh0, psh1, psh3, true_or, or_true, eq_self, Option.bind_some, List.length_nil, List.length_cons, Nat.reduceAdd, Nat.reduceLeDiff, Nat.zero_le, ↓reduceIte, Int.reduceLT, Int.reduceEq, Int.reduceLE, Int.reduceNeg, Int.reduceAdd, Int.reduceMul, Int.reduceSub, ne_eq, not_true_eq_false, not_false_eq_true, and_true, true_and, and_false, false_and, c3lt, c3gt, c3eq, Bool.false_eq_true, isK_wr, inA_wr, inR_wr, Int.natCast_zero, Int.zero_sub]
  | succ m ih =>
    intro g l4 l5 hm hq hP
    have hT : m < 2 ^ N := by omega
    obtain ⟨⟨cm, a2, a3, a4, a5, a6⟩, eok⟩ := FF_hq hr hq
    have e0 : ((m + 1 : Nat) : Int) - 1 = m := by omega
    have c0 : ¬ (m : Int) < 0 := by omega
    have w1 : w32 ((m : Int) + (-1)) = (m : Int) - 1 := w32_id (by omega) (by omega)
    have gs := m_sizeOf (d := d) (h := g) (x := (m : Int))
    have m33 : mrd g 235 33 = 248 := rf_235_33 cm.2.2
    have iT : inA g 248 18 (m : Int) := ⟨kn_248 cm.2.1, by omega, by rw [ln_248 cm.2.1]; omega⟩
    have eG := G_rec (n := (n : Int)) (okR_hb (g := g0) N12) hT
    have hq' : ∀ v, HQ g0 (mwr g 248 m v) := fun v => ⟨hq.1, fun a i y1 => by
      rw [rdn1 y1]
      exact hq.2 a i y1⟩
    have hU' : ∀ v (U : Nat), m < U → U < 2 ^ N → mrd (mwr g 248 m v) 248 U = b01 (Gy (okR g0) N n U) := fun v U u1 u2 => by
      rw [rdn2 (by omega)]
      exact hP U (by omega) u2
    rw [e294_49, e0]
    by_cases ce : cB (m : Int) 12 = n
    · rw [decide_eq_true ce, Bool.true_or] at eG
      obtain ⟨g', l4', l5', f1, f2, f3⟩ := ih (mwr g 248 m 1) (0, (n : Int)) l5 (by omega) (hq' 1) (fun T t1 t2 => by
        by_cases c : T = m
        · subst c; rw [rde, eG]; rfl
        · exact hU' 1 T (by omega) t2)
      refine ⟨g', l4', l5', ?_, f2, f3⟩
      rw [← f1]
      rw [ce] at gs
      simp only [e294_0, e294_1, e294_2, e294_5, e294_6, e294_7, e294_10, e294_11, e294_12, e294_13, e294_16, e294_19, e294_20, e294_21, e294_22, e294_23, e294_26, e294_27, e294_28, e294_31, e294_32, e294_34, e294_37, e294_38, e294_39, e294_40, e294_43, e294_44, e294_45, e294_46, e294_47, e294_48, e294_50, e294_53, e294_54, e294_57, e294_59, e294_60, e294_63, e294_64, e294_66, e294_67, e294_70, e294_71, e294_74, e294_75, e294_75z, e294_76, e294_78, e294_79, e294_82, e294_85, e294_86, e294_90, e294_91, e294_94, e294_95, e294_96, e294_99, e294_100, e294_101, e294_103, e294_106, e294_109, e294_110, e294_113, e294_114, e294_116, e294_117, e294_118, e294_119, e294_122, e294_124, e294_125, e294_128, e294_129, e294_132, e294_133, e294_134, e294_136, e294_137, e294_138, e294_138z, e294_139, e294_142, e294_143, e294_146, e294_147, e294_148, e294_148z, e294_149, e294_152, e294_155, e294_158, e294_161, e294_162, e294_163, e294_164, e294_168, e294_169, e294_172, e294_173, e294_176, e294_177, e294_179, e294_182, e294_185, e294_186, e294_189, e294_190, e294_192, e294_193, e294_194, e294_195, e294_198, e294_200, e294_201, e294_204, e294_205, e294_208, e294_209, e294_210, e294_212, e294_213, e294_214, e294_214z, e294_215, e294_218, e294_221, e294_224, e294_225, e294_228, e294_230, e294_232, e294_233, e294_234, e294_235, e294_237, e294_238, e294_239, e294_240, e294_243, e294_246, e294_247, e294_248, e294_251, e294_252, psh0, psh1, psh3, true_or, or_true, eq_self, Option.bind_some, List.length_nil, List.length_cons, Nat.reduceAdd, Nat.reduceLeDiff, Nat.zero_le, ↓reduceIte, Int.reduceLT, Int.reduceEq, Int.reduceLE, Int.reduceNeg, Int.reduceAdd, Int.reduceMul, Int.reduceSub, ne_eq, not_true_eq_false, not_false_eq_true, and_true, true_and, and_false, false_and, c3lt, c3gt, c3eq, Bool.false_eq_true, isK_wr, inA_wr, inR_wr, c0, gs, cm.1, m33, iT, Int.lt_irrefl, w1]
    · by_cases cl : cB (m : Int) 12 < n
      · rw [decide_eq_false ce, Bool.false_or] at eG
        obtain ⟨g1, k1, k2, k3, k4⟩ := m_first_in (d := d) (t := t) hr hT cl N 0 (mwr g 248 m 0) (by omega) (hq' 0) (hU' 0) (by rw [rde]; rfl)
        obtain ⟨g', l4', l5', f1, f2, f3⟩ := ih g1 (0, cB (m : Int) 12) (0, (N : Int)) (by omega) k2 (fun T t1 t2 => by
          by_cases c : T = m
          · subst c; rw [k4, eG]
          · exact k3 T (by omega) t2)
        refine ⟨g', l4', l5', ?_, f2, f3⟩
        rw [← f1]
        have k5 : EV (d + 2) 294 155 [(2, 235), (0, t), (0, (n : Int)), (0, (m : Int)), (0, cB (m : Int) 12), (0, (N : Int))] [] g1 = EV (d + 2) 294 49 [(2, 235), (0, t), (0, (n : Int)), (0, (m : Int) - 1), (0, cB (m : Int) 12), (0, (N : Int))] [] g1 := by
          simp only [e294_155, e294_158, w1]
        rw [← k5, ← k1]
        simp only [e294_0, e294_1, e294_2, e294_5, e294_6, e294_7, e294_10, e294_11, e294_12, e294_13, e294_16, e294_19, e294_20, e294_21, e294_22, e294_23, e294_26, e294_27, e294_28, e294_31, e294_32, e294_34, e294_37, e294_38, e294_39, e294_40, e294_43, e294_44, e294_45, e294_46, e294_47, e294_48, e294_50, e294_53, e294_54, e294_57, e294_59, e294_60, e294_63, e294_64, e294_66, e294_67, e294_70, e294_71, e294_74, e294_75, e294_75z, e294_76, e294_78, e294_79, e294_82, e294_85, e294_86, e294_90, e294_91, e294_94, e294_95, e294_96, e294_99, e294_100, e294_101, e294_103, e294_106, e294_109, e294_110, e294_113, e294_114, e294_116, e294_117, e294_118, e294_119, e294_122, e294_124, e294_125, e294_128, e294_129, e294_132, e294_133, e294_134, e294_136, e294_137, e294_138, e294_138z, e294_139, e294_142, e294_143, e294_146, e294_147, e294_148, e294_148z, e294_149, e294_152, e294_158, e294_161, e294_162, e294_163, e294_164, e294_168, e294_169, e294_172, e294_173, e294_176, e294_177, e294_179, e294_182, e294_185, e294_186, e294_189, e294_190, e294_192, e294_193, e294_194, e294_195, e294_198, e294_200, e294_201, e294_204, e294_205, e294_208, e294_209, e294_210, e294_212, e294_213, e294_214, e294_214z, e294_215, e294_218, e294_221, e294_224, e294_225, e294_228, e294_230, e294_232, e294_233, e294_234, e294_235, e294_237, e294_238, e294_239, e294_240, e294_243, e294_246, e294_247, e294_248, e294_251, e294_252, psh0, psh1, psh3, true_or, or_true, eq_self, Option.bind_some, List.length_nil, List.length_cons, Nat.reduceAdd, Nat.reduceLeDiff, Nat.zero_le, ↓reduceIte, Int.reduceLT, Int.reduceEq, Int.reduceLE, Int.reduceNeg, Int.reduceAdd, Int.reduceMul, Int.reduceSub, ne_eq, not_true_eq_false, not_false_eq_true, and_true, true_and, and_false, false_and, c3lt, c3gt, c3eq, Bool.false_eq_true, isK_wr, inA_wr, inR_wr, c0, gs, cm.1, m33, iT, ce, cl]
        rfl
      · have hno : ∀ l, okR g0 m l = false := fun l => by
          have a4' : mrd g0 235 27 = n := hr.2.2.2.1
          unfold okR okF
          rw [a4', decide_eq_false cl]
          rfl
        have hfi : ¬ fI (gP (okR g0) N n m) 0 N < N := by
          intro z
          obtain ⟨j, j1, j2⟩ := fI_lt_iff.mp z
          unfold gP at j2
          rw [hno] at j2
          cases j2
        rw [decide_eq_false ce, decide_eq_false hfi, Bool.false_or] at eG
        obtain ⟨g', l4', l5', f1, f2, f3⟩ := ih (mwr g 248 m 0) (0, cB (m : Int) 12) l5 (by omega) (hq' 0) (fun T t1 t2 => by
          by_cases c : T = m
          · subst c; rw [rde, eG]; rfl
          · exact hU' 0 T (by omega) t2)
        refine ⟨g', l4', l5', ?_, f2, f3⟩
        rw [← f1]
        simp only [e294_0, e294_1, e294_2, e294_5, e294_6, e294_7, e294_10, e294_11, e294_12, e294_13, e294_16, e294_19, e294_20, e294_21, e294_22, e294_23, e294_26, e294_27, e294_28, e294_31, e294_32, e294_34, e294_37, e294_38, e294_39, e294_40, e294_43, e294_44, e294_45, e294_46, e294_47, e294_48, e294_50, e294_53, e294_54, e294_57, e294_59, e294_60, e294_63, e294_64, e294_66, e294_67, e294_70, e294_71, e294_74, e294_75, e294_75z, e294_76, e294_78, e294_79, e294_82, e294_85, e294_86, e294_90, e294_91, e294_94, e294_95, e294_96, e294_99, e294_100, e294_101, e294_103, e294_106, e294_109, e294_110, e294_113, e294_114, e294_116, e294_117, e294_118, e294_119, e294_122, e294_124, e294_125, e294_128, e294_129, e294_132, e294_133, e294_134, e294_136, e294_137, e294_138, e294_138z, e294_139, e294_142, e294_143, e294_146, e294_147, e294_148, e294_148z, e294_149, e294_152, e294_155, e294_158, e294_161, e294_162, e294_163, e294_164, e294_168, e294_169, e294_172, e294_173, e294_176, e294_177, e294_179, e294_182, e294_185, e294_186, e294_189, e294_190, e294_192, e294_193, e294_194, e294_195, e294_198, e294_200, e294_201, e294_204, e294_205, e294_208, e294_209, e294_210, e294_212, e294_213, e294_214, e294_214z, e294_215, e294_218, e294_221, e294_224, e294_225, e294_228, e294_230, e294_232, e294_233, e294_234, e294_235, e294_237, e294_238, e294_239, e294_240, e294_243, e294_246, e294_247, e294_248, e294_251, e294_252, psh0, psh1, psh3, true_or, or_true, eq_self, Option.bind_some, List.length_nil, List.length_cons, Nat.reduceAdd, Nat.reduceLeDiff, Nat.zero_le, ↓reduceIte, Int.reduceLT, Int.reduceEq, Int.reduceLE, Int.reduceNeg, Int.reduceAdd, Int.reduceMul, Int.reduceSub, ne_eq, not_true_eq_false, not_false_eq_true, and_true, true_and, and_false, false_and, c3lt, c3gt, c3eq, Bool.false_eq_true, isK_wr, inA_wr, inR_wr, c0, gs, cm.1, m33, iT, ce, cl, w1]
/-- the lesson that goes on is looked for -/
theorem m_first_w {n p T : Nat} (cm : CM g) (N12 : N ≤ 12) (hT : T < 2 ^ N) (p12 : p < 12) (hcb : cB (T : Int) 12 = p) (hpn : p < n) (e27 : mrd g 235 27 = n) (hz : ∀ p : Nat, p < n → mrd g 243 p ≠ 0) (hF : fI (gP (okR g) N n T) 0 N < N) (hG : ∀ U : Nat, U < 2 ^ N → mrd g 248 U = b01 (Gy (okR g) N n U)) (m : Nat) : ∀ li : Nat, li + m = fI (gP (okR g) N n T) 0 N → EV (d + 2) 294 175 [(2, 235), (0, t), (0, x), (0, (T : Int)), (0, (p : Int)), (0, (li : Int))] [] g = EV (d + 2) 294 224 [(2, 235), (0, t), (0, x), (0, (T : Int)), (0, (p : Int)), (0, ((fI (gP (okR g) N n T) 0 N : Nat) : Int))] [] g := by
  have hp := pow_13 N12
  have m26 : mrd g 235 26 = 243 := rf_235_26 cm.2.2
  have m33 : mrd g 235 33 = 248 := rf_235_33 cm.2.2
  have i3 : inA g 243 16 (p : Int) := ⟨kn_243 cm.2.1, by omega, by rw [ln_243 cm.2.1]; omega⟩
  have base : ∀ li : Nat, li < N → (w32 ((li : Int) + 1) = ((li + 1 : Nat) : Int)) ∧ w32 (4 + (li : Int)) = 4 + li ∧ inA g 240 16 (4 + (li : Int)) ∧ okR g T li = (decide (opn (T : Int) (mrd g 240 (52 + li)) (li : Int)) && decide (mrd g 240 (4 + li) = mrd g 243 (p : Int))) := fun li hl => by
    have iff := okR_iff (g := g) (T := T) (l := li) (fun p hp => hz p (by rw [e27] at hp; omega)) (by rw [e27, hcb]; omega)
    rw [hcb] at iff
    exact ⟨by rw [w32_id (by omega) (by omega)]; omega, w32_id (by omega) (by omega), inC cm (by omega) (by omega), iff⟩
  induction m with
  | zero =>
    intro li hi
    have e : li = fI (gP (okR g) N n T) 0 N := by omega
    have hP := fI_at (P := gP (okR g) N n T) N 0 (by omega)
    rw [← e] at hP hF ⊢
    obtain ⟨w1, w2, i4, iff⟩ := base li hF
    have hP' := (Bool.and_eq_true _ _ ▸ hP : okR g T li = true ∧ Gy (okR g) N n (T + 2 ^ li) = true)
    rw [hP'.1] at iff
    have iff' := iff.symm
    rw [Bool.and_eq_true, decide_eq_true_iff, decide_eq_true_iff] at iff'
    have hb := okR_hb N12 T li hT hF hP'.1
    have hlt := ins_lt hT hF hb
    have eU := i_ins (x := T) (l := li) (by omega) (by omega) hb
    have vU := hG _ hlt
    rw [hP'.2] at vU
    have vU' : mrd g 248 ((T + 2 ^ li : Nat) : Int) = 1 := vU
    have iU : inA g 248 18 ((T + 2 ^ li : Nat) : Int) := ⟨kn_248 cm.2.1, Int.natCast_nonneg _, by rw [ln_248 cm.2.1]; have := Int.ofNat_lt.mpr hlt; omega⟩
    have go := m_isOpenTo (d := d) (x := (T : Int)) (l := (li : Int)) cm (by omega) (by omega)
    rw [if_pos iff'.1] at go
    have cl' : (mrd g 240 (4 + li) = mrd g 243 (p : Int)) = True := eq_true iff'.2
    rw [e294_175]
    simp only [e294_0, e294_1, e294_2, e294_5, e294_6, e294_7, e294_10, e294_11, e294_12, e294_13, e294_16, e294_19, e294_20, e294_21, e294_22, e294_23, e294_26, e294_27, e294_28, e294_31, e294_32, e294_34, e294_37, e294_38, e294_39, e294_40, e294_43, e294_44, e294_45, e294_46, e294_47, e294_48, e294_50, e294_53, e294_54, e294_57, e294_59, e294_60, e294_63, e294_64, e294_66, e294_67, e294_70, e294_71, e294_74, e294_75, e294_75z, e294_76, e294_78, e294_79, e294_82, e294_85, e294_86, e294_90, e294_91, e294_94, e294_95, e294_96, e294_99, e294_100, e294_101, e294_103, e294_106, e294_109, e294_110, e294_113, e294_114, e294_116, e294_117, e294_118, e294_119, e294_122, e294_124, e294_125, e294_128, e294_129, e294_132, e294_133, e294_134, e294_136, e294_137, e294_138, e294_138z, e294_139, e294_142, e294_143, e294_146, e294_147, e294_148, e294_148z, e294_149, e294_152, e294_155, e294_158, e294_161, e294_162, e294_163, e294_164, e294_168, e294_169, e294_172, e294_173, e294_176, e294_177, e294_179, e294_182, e294_185, e294_186, e294_189, e294_190, e294_192, e294_193, e294_194, e294_195, e294_198, e294_200, e294_201, e294_204, e294_205, e294_208, e294_209, e294_210, e294_212, e294_213, e294_214, e294_214z, e294_215, e294_218, e294_221, e294_225, e294_228, e294_230, e294_232, e294_233, e294_234, e294_235, e294_237, e294_238, e294_239, e294_240, e294_243, e294_246, e294_247, e294_248, e294_251, e294_252, psh0, psh1, psh3, true_or, or_true, eq_self, Option.bind_some, List.length_nil, List.length_cons, Nat.reduceAdd, Nat.reduceLeDiff, Nat.zero_le, ↓reduceIte, Int.reduceLT, Int.reduceEq, Int.reduceLE, Int.reduceNeg, Int.reduceAdd, Int.reduceMul, Int.reduceSub, ne_eq, not_true_eq_false, not_false_eq_true, and_true, true_and, and_false, false_and, c3lt, c3gt, c3eq, Bool.false_eq_true, isK_wr, inA_wr, inR_wr, cm.1, mC cm, go, w2, i4, m26, i3, cl', m33, eU, iU, vU']
  | succ m ih =>
    intro li hi
    have hl : li < N := by omega
    obtain ⟨w1, w2, i4, iff⟩ := base li hl
    have hno := fI_bef (P := gP (okR g) N n T) N 0 li (by omega) (by omega)
    have go := m_isOpenTo (d := d) (x := (T : Int)) (l := (li : Int)) cm (by omega) (by omega)
    rw [← ih (li + 1) (by omega), e294_175]
    by_cases co : opn (T : Int) (mrd g 240 (52 + li)) (li : Int)
    · rw [if_pos co] at go
      by_cases cl : mrd g 240 (4 + li) = mrd g 243 (p : Int)
      · rw [decide_eq_true co, decide_eq_true cl] at iff
        have hb := okR_hb N12 T li hT hl iff
        have hlt := ins_lt hT hl hb
        have eU := i_ins (x := T) (l := li) (by omega) (by omega) hb
        have vU := hG _ hlt
        have hg : Gy (okR g) N n (T + 2 ^ li) = false := by
          unfold gP at hno
          rw [iff] at hno
          exact hno
        rw [hg] at vU
        have vU' : mrd g 248 ((T + 2 ^ li : Nat) : Int) = 0 := vU
        have iU : inA g 248 18 ((T + 2 ^ li : Nat) : Int) := ⟨kn_248 cm.2.1, Int.natCast_nonneg _, by rw [ln_248 cm.2.1]; have := Int.ofNat_lt.mpr hlt; omega⟩
        have cl' : (mrd g 240 (4 + li) = mrd g 243 (p : Int)) = True := eq_true cl
        simp only [e294_0, e294_1, e294_2, e294_5, e294_6, e294_7, e294_10, e294_11, e294_12, e294_13, e294_16, e294_19, e294_20, e294_21, e294_22, e294_23, e294_26, e294_27, e294_28, e294_31, e294_32, e294_34, e294_37, e294_38, e294_39, e294_40, e294_43, e294_44, e294_45, e294_46, e294_47, e294_48, e294_50, e294_53, e294_54, e294_57, e294_59, e294_60, e294_63, e294_64, e294_66, e294_67, e294_70, e294_71, e294_74, e294_75, e294_75z, e294_76, e294_78, e294_79, e294_82, e294_85, e294_86, e294_90, e294_91, e294_94, e294_95, e294_96, e294_99, e294_100, e294_101, e294_103, e294_106, e294_109, e294_110, e294_113, e294_114, e294_116, e294_117, e294_118, e294_119, e294_122, e294_124, e294_125, e294_128, e294_129, e294_132, e294_133, e294_134, e294_136, e294_137, e294_138, e294_138z, e294_139, e294_142, e294_143, e294_146, e294_147, e294_148, e294_148z, e294_149, e294_152, e294_155, e294_158, e294_161, e294_162, e294_163, e294_164, e294_168, e294_169, e294_172, e294_173, e294_176, e294_177, e294_179, e294_182, e294_185, e294_186, e294_189, e294_190, e294_192, e294_193, e294_194, e294_195, e294_198, e294_200, e294_201, e294_204, e294_205, e294_208, e294_209, e294_210, e294_212, e294_213, e294_214, e294_214z, e294_215, e294_218, e294_221, e294_225, e294_228, e294_230, e294_232, e294_233, e294_234, e294_235, e294_237, e294_238, e294_239, e294_240, e294_243, e294_246, e294_247, e294_248, e294_251, e294_252, psh0, psh1, psh3, true_or, or_true, eq_self, Option.bind_some, List.length_nil, List.length_cons, Nat.reduceAdd, Nat.reduceLeDiff, Nat.zero_le, ↓reduceIte, Int.reduceLT, Int.reduceEq, Int.reduceLE, Int.reduceNeg, Int.reduceAdd, Int.reduceMul, Int.reduceSub, ne_eq, not_true_eq_false, not_false_eq_true, and_true, true_and, and_false, false_and, c3lt, c3gt, c3eq, Bool.false_eq_true, isK_wr, inA_wr, inR_wr, cm.1, mC cm, go, w2, i4, m26, i3, cl', m33, eU, iU, vU', w1]
      · simp only [e294_0, e294_1, e294_2, e294_5, e294_6, e294_7, e294_10, e294_11, e294_12, e294_13, e294_16, e294_19, e294_20, e294_21, e294_22, e294_23, e294_26, e294_27, e294_28, e294_31, e294_32, e294_34, e294_37, e294_38, e294_39, e294_40, e294_43, e294_44, e294_45, e294_46, e294_47, e294_48, e294_50, e294_53, e294_54, e294_57, e294_59, e294_60, e294_63, e294_64, e294_66, e294_67, e294_70, e294_71, e294_74, e294_75, e294_75z, e294_76, e294_78, e294_79, e294_82, e294_85, e294_86, e294_90, e294_91, e294_94, e294_95, e294_96, e294_99, e294_100, e294_101, e294_103, e294_106, e294_109, e294_110, e294_113, e294_114, e294_116, e294_117, e294_118, e294_119, e294_122, e294_124, e294_125, e294_128, e294_129, e294_132, e294_133, e294_134, e294_136, e294_137, e294_138, e294_138z, e294_139, e294_142, e294_143, e294_146, e294_147, e294_148, e294_148z, e294_149, e294_152, e294_155, e294_158, e294_161, e294_162, e294_163, e294_164, e294_168, e294_169, e294_172, e294_173, e294_176, e294_177, e294_179, e294_182, e294_185, e294_186, e294_189, e294_190, e294_192, e294_193, e294_194, e294_195, e294_198, e294_200, e294_201, e294_204, e294_205, e294_208, e294_209, e294_210, e294_212, e294_213, e294_214, e294_214z, e294_215, e294_218, e294_221, e294_225, e294_228, e294_230, e294_232, e294_233, e294_234, e294_235, e294_237, e294_238, e294_239, e294_240, e294_243, e294_246, e294_247, e294_248, e294_251, e294_252, psh0, psh1, psh3, true_or, or_true, eq_self, Option.bind_some, List.length_nil, List.length_cons, Nat.reduceAdd, Nat.reduceLeDiff, Nat.zero_le, ↓reduceIte, Int.reduceLT, Int.reduceEq, Int.reduceLE, Int.reduceNeg, Int.reduceAdd, Int.reduceMul, Int.reduceSub, ne_eq, not_true_eq_false, not_false_eq_true, and_true, true_and, and_false, false_and, c3lt, c3gt, c3eq, Bool.false_eq_true, isK_wr, inA_wr, inR_wr, cm.1, mC cm, go, w2, i4, m26, i3, cl, w1]
    · rw [if_neg co] at go
      simp only [e294_0, e294_1, e294_2, e294_5, e294_6, e294_7, e294_10, e294_11, e294_12, e294_13, e294_16, e294_19, e294_20, e294_21, e294_22, e294_23, e294_26, e294_27, e294_28, e294_31, e294_32, e294_34, e294_37, e294_38, e294_39, e294_40, e294_43, e294_44, e294_45, e294_46, e294_47, e294_48, e294_50, e294_53, e294_54, e294_57, e294_59, e294_60, e294_63, e294_64, e294_66, e294_67, e294_70, e294_71, e294_74, e294_75, e294_75z, e294_76, e294_78, e294_79, e294_82, e294_85, e294_86, e294_90, e294_91, e294_94, e294_95, e294_96, e294_99, e294_100, e294_101, e294_103, e294_106, e294_109, e294_110, e294_113, e294_114, e294_116, e294_117, e294_118, e294_119, e294_122, e294_124, e294_125, e294_128, e294_129, e294_132, e294_133, e294_134, e294_136, e294_137, e294_138, e294_138z, e294_139, e294_142, e294_143, e294_146, e294_147, e294_148, e294_148z, e294_149, e294_152, e294_155, e294_158, e294_161, e294_162, e294_163, e294_164, e294_168, e294_169, e294_172, e294_173, e294_176, e294_177, e294_179, e294_182, e294_185, e294_186, e294_189, e294_190, e294_192, e294_193, e294_194, e294_195, e294_198, e294_200, e294_201, e294_204, e294_205, e294_208, e294_209, e294_210, e294_212, e294_213, e294_214, e294_214z, e294_215, e294_218, e294_221, e294_225, e294_228, e294_230, e294_232, e294_233, e294_234, e294_235, e294_237, e294_238, e294_239, e294_240, e294_243, e294_246, e294_247, e294_248, e294_251, e294_252, psh0, psh1, psh3, true_or, or_true, eq_self, Option.bind_some, List.length_nil, List.length_cons, Nat.reduceAdd, Nat.reduceLeDiff, Nat.zero_le, ↓reduceIte, Int.reduceLT, Int.reduceEq, Int.reduceLE, Int.reduceNeg, Int.reduceAdd, Int.reduceMul, Int.reduceSub, ne_eq, not_true_eq_false, not_false_eq_true, and_true, true_and, and_false, false_and, c3lt, c3gt, c3eq, Bool.false_eq_true, isK_wr, inA_wr, inR_wr, cm.1, go, w1]
theorem rn_247 : refT.all (fun q => !(q.1 == 247)) = true := by decide +kernel
theorem m_first_2 {g0 : AM} {n : Nat} (hr : FF g0 N n) (hGy : Gy (okR g0) N n 0 = true) (hG : ∀ U : Nat, U < 2 ^ N → mrd g0 248 U = b01 (Gy (okR g0) N n U)) (m : Nat) : ∀ (p : Nat) (l5 : AV), p + m = n → EV (d + 2) 294 166 [(2, 235), (0, t), (0, (n : Int)), (0, ((pt (okR g0) N n p : Nat) : Int)), (0, (p : Int)), l5] [] (mff g0 247 0 p (wyF (okR g0) N n)) = some ((0, (n : Int)), mwr (mff g0 247 0 n (wyF (okR g0) N n)) 235 32 n) := by
  obtain ⟨cm, a2, N12, a4, a5, a6⟩ := id hr
  have hp := pow_13 N12
  have m31 : mrd g0 235 31 = 247 := rf_235_31 cm.2.2
  have ekr : ∀ i j f, okR (mff g0 247 i j f) = okR g0 := fun i j f => by
    have z1 : ∀ q, mrd (mff g0 247 i j f) 235 q = mrd g0 235 q := fun q => rdff (by decide)
    have z2 : ∀ q, mrd (mff g0 247 i j f) 243 q = mrd g0 243 q := fun q => rdff (by decide)
    have z3 : ∀ q, mrd (mff g0 247 i j f) 240 q = mrd g0 240 q := fun q => rdff (by decide)
    unfold okR
    simp only [z1, z2, z3]
  induction m with
  | zero =>
    intro p l5 hi
    have e : p = n := by omega
    subst e
    rw [e294_166]
    simp only [e294_0, e294_1, e294_2, e294_5, e294_6, e294_7, e294_10, e294_11, e294_12, e294_13, e294_16, e294_19, e294_20, e294_21, e294_22, e294_23, e294_26, e294_27, e294_28, e294_31, e294_32, e294_34, e294_37, e294_38, e294_39, e294_40, e294_43, e294_44, e294_45, e294_46, e294_47, e294_48, e294_50, e294_53, e294_54, e294_57, e294_59, e294_60, e294_63, e294_64, e294_66, e294_67, e294_70, e294_71, e294_74, e294_75, e294_75z, e294_76, e294_78, e294_79, e294_82, e294_85, e294_86, e294_90, e294_91, e294_94, e294_95, e294_96, e294_99, e294_100, e294_101, e294_103, e294_106, e294_109, e294_110, e294_113, e294_114, e294_116, e294_117, e294_118, e294_119, e294_122, e294_124, e294_125, e294_128, e294_129, e294_132, e294_133, e294_134, e294_136, e294_137, e294_138, e294_138z, e294_139, e294_142, e294_143, e294_146, e294_147, e294_148, e294_148z, e294_149, e294_152, e294_155, e294_158, e294_161, e294_162, e294_163, e294_164, e294_168, e294_169, e294_172, e294_173, e294_176, e294_177, e294_179, e294_182, e294_185, e294_186, e294_189, e294_190, e294_192, e294_193, e294_194, e294_195, e294_198, e294_200, e294_201, e294_204, e294_205, e294_208, e294_209, e294_210, e294_212, e294_213, e294_214, e294_214z, e294_215, e294_218, e294_221, e294_225, e294_228, e294_230, e294_232, e294_233, e294_234, e294_235, e294_237, e294_238, e294_239, e294_240, e294_243, e294_246, e294_247, e294_248, e294_251, e294_252, psh0, psh1, psh3, true_or, or_true, eq_self, Option.bind_some, List.length_nil, List.length_cons, Nat.reduceAdd, Nat.reduceLeDiff, Nat.zero_le, ↓reduceIte, Int.reduceLT, Int.reduceEq, Int.reduceLE, Int.reduceNeg, Int.reduceAdd, Int.reduceMul, Int.reduceSub, ne_eq, not_true_eq_false, not_false_eq_true, and_true, true_and, and_false, false_and, c3lt, c3gt, c3eq, Bool.false_eq_true, isK_wr, inA_wr, inR_wr, isK_ff, cm.1, Int.lt_irrefl]
  | succ m ih =>
    intro p l5 hi
    have ci : (p : Int) < n := by omega
    have w1 : w32 ((p : Int) + 1) = ((p + 1 : Nat) : Int) := by rw [w32_id (by omega) (by omega)]; omega
    obtain ⟨b1, b2, b3, b4, b5⟩ := pt_ok (n := (n : Int)) (okR_hb (g := g0) N12) N12 hGy p (by omega)
    obtain ⟨b6, b7⟩ := b5 ci
    have cmf : CM (mff g0 247 0 p (wyF (okR g0) N n)) := CM_ffA rn_247 cm
    have gw := m_first_w (d := d) (t := t) (x := (n : Int)) (n := n) (p := p) (T := pt (okR g0) N n p) cmf N12 b1 (by omega) b2 (by omega) (by rw [rdff (by decide)]; exact a4) (fun q hq => by rw [rdff (by decide)]; exact a6 q hq) (by rw [ekr]; exact b6) (fun U hU => by rw [rdff (by decide), ekr]; exact hG U hU) (fI (gP (okR g0) N n (pt (okR g0) N n p)) 0 N) 0 (by rw [ekr]; omega)
    rw [ekr] at gw
    have ew : ((fI (gP (okR g0) N n (pt (okR g0) N n p)) 0 N : Nat) : Int) = wyF (okR g0) N n p := rfl
    rw [ew] at gw
    have e := mff_s (h := g0) (a := 247) (i := 0) (n := p) (f := wyF (okR g0) N n) (by omega)
    rw [Int.zero_add] at e
    have i1 : inA g0 247 16 p := ⟨kn_247 cm.2.1, by omega, by rw [ln_247 cm.2.1]; omega⟩
    have hb := okR_hb (g := g0) N12 _ _ b1 b6 b7
    have eU : i_or ((pt (okR g0) N n p : Nat) : Int) (i_shl 1 (wyF (okR g0) N n p)) = ((pt (okR g0) N n (p + 1) : Nat) : Int) := i_ins (x := pt (okR g0) N n p) (l := fI (gP (okR g0) N n (pt (okR g0) N n p)) 0 N) (by omega) (by omega) hb
    have st : EV (d + 2) 294 166 [(2, 235), (0, t), (0, (n : Int)), (0, ((pt (okR g0) N n p : Nat) : Int)), (0, (p : Int)), l5] [] (mff g0 247 0 p (wyF (okR g0) N n)) = EV (d + 2) 294 175 [(2, 235), (0, t), (0, (n : Int)), (0, ((pt (okR g0) N n p : Nat) : Int)), (0, (p : Int)), (0, ((0 : Nat) : Int))] [] (mff g0 247 0 p (wyF (okR g0) N n)) := by
      rw [e294_166]
      simp only [e294_0, e294_1, e294_2, e294_5, e294_6, e294_7, e294_10, e294_11, e294_12, e294_13, e294_16, e294_19, e294_20, e294_21, e294_22, e294_23, e294_26, e294_27, e294_28, e294_31, e294_32, e294_34, e294_37, e294_38, e294_39, e294_40, e294_43, e294_44, e294_45, e294_46, e294_47, e294_48, e294_50, e294_53, e294_54, e294_57, e294_59, e294_60, e294_63, e294_64, e294_66, e294_67, e294_70, e294_71, e294_74, e294_75, e294_75z, e294_76, e294_78, e294_79, e294_82, e294_85, e294_86, e294_90, e294_91, e294_94, e294_95, e294_96, e294_99, e294_100, e294_101, e294_103, e294_106, e294_109, e294_110, e294_113, e294_114, e294_116, e294_117, e294_118, e294_119, e294_122, e294_124, e294_125, e294_128, e294_129, e294_132, e294_133, e294_134, e294_136, e294_137, e294_138, e294_138z, e294_139, e294_142, e294_143, e294_146, e294_147, e294_148, e294_148z, e294_149, e294_152, e294_155, e294_158, e294_161, e294_162, e294_163, e294_164, e294_168, e294_169, e294_172, e294_173, e294_176, e294_177, e294_179, e294_182, e294_185, e294_186, e294_189, e294_190, e294_192, e294_193, e294_194, e294_195, e294_198, e294_200, e294_201, e294_204, e294_205, e294_208, e294_209, e294_210, e294_212, e294_213, e294_214, e294_214z, e294_215, e294_218, e294_221, e294_225, e294_228, e294_230, e294_232, e294_233, e294_234, e294_235, e294_237, e294_238, e294_239, e294_240, e294_243, e294_246, e294_247, e294_248, e294_251, e294_252, psh0, psh1, psh3, true_or, or_true, eq_self, Option.bind_some, List.length_nil, List.length_cons, Nat.reduceAdd, Nat.reduceLeDiff, Nat.zero_le, ↓reduceIte, Int.reduceLT, Int.reduceEq, Int.reduceLE, Int.reduceNeg, Int.reduceAdd, Int.reduceMul, Int.reduceSub, ne_eq, not_true_eq_false, not_false_eq_true, and_true, true_and, and_false, false_and, c3lt, c3gt, c3eq, Bool.false_eq_true, isK_wr, inA_wr, inR_wr, ci, Int.natCast_zero]
    rw [st, gw, ← ih (p + 1) (0, wyF (okR g0) N n p) (by omega), e294_224]
    simp only [e294_0, e294_1, e294_2, e294_5, e294_6, e294_7, e294_10, e294_11, e294_12, e294_13, e294_16, e294_19, e294_20, e294_21, e294_22, e294_23, e294_26, e294_27, e294_28, e294_31, e294_32, e294_34, e294_37, e294_38, e294_39, e294_40, e294_43, e294_44, e294_45, e294_46, e294_47, e294_48, e294_50, e294_53, e294_54, e294_57, e294_59, e294_60, e294_63, e294_64, e294_66, e294_67, e294_70, e294_71, e294_74, e294_75, e294_75z, e294_76, e294_78, e294_79, e294_82, e294_85, e294_86, e294_90, e294_91, e294_94, e294_95, e294_96, e294_99, e294_100, e294_101, e294_103, e294_106, e294_109, e294_110, e294_113, e294_114, e294_116, e294_117, e294_118, e294_119, e294_122, e294_124, e294_125, e294_128, e294_129, e294_132, e294_133, e294_134, e294_136, e294_137, e294_138, e294_138z, e294_139, e294_142, e294_143, e294_146, e294_147, e294_148, e294_148z, e294_149, e294_152, e294_155, e294_158, e294_161, e294_162, e294_163, e294_164, e294_168, e294_169, e294_172, e294_173, e294_176, e294_177, e294_179, e294_182, e294_185, e294_186, e294_189, e294_190, e294_192, e294_193, e294_194, e294_195, e294_198, e294_200, e294_201, e294_204, e294_205, e294_208, e294_209, e294_210, e294_212, e294_213, e294_214, e294_214z, e294_215, e294_218, e294_221, e294_225, e294_228, e294_230, e294_232, e294_233, e294_234, e294_235, e294_237, e294_238, e294_239, e294_240, e294_243, e294_246, e294_247, e294_248, e294_251, e294_252, psh0, psh1, psh3, true_or, or_true, eq_self, Option.bind_some, List.length_nil, List.length_cons, Nat.reduceAdd, Nat.reduceLeDiff, Nat.zero_le, ↓reduceIte, Int.reduceLT, Int.reduceEq, Int.reduceLE, Int.reduceNeg, Int.reduceAdd, Int.reduceMul, Int.reduceSub, ne_eq, not_true_eq_false, not_false_eq_true, and_true, true_and, and_false, false_and, c3lt, c3gt, c3eq, Bool.false_eq_true, isK_wr, inA_wr, inR_wr, isK_ff, inA_ff, cm.1, rdff, m31, i1, e, eU, w1]
    rfl
end
def fsO : List Int := [150, 247]
def fsC : List (Int × Int) := [(148, 3), (235, 32)]
theorem Rel_fst {m m' : Int → Int → Int} (hf : FrE fsO fsC 0 0 m m') (h : Rel m) (ht : RFst m') : Rel m' := by
  obtain ⟨h1, h2, h3, h4, h5, h6, h7, h8, h9, h10⟩ := h
  exact Rel_mk (RRef_E hf (by decide +kernel) h1) (RNum_E hf (by decide +kernel) h2) (RTrys_E hf (by decide +kernel) h3) (RTap_E hf (by decide +kernel) h4) (RPln_E hf (by decide +kernel) h5) (RLiv_E hf (by decide +kernel) h6) ht (RPtr_E hf (by decide +kernel) h8) (RCur_E hf (by decide +kernel) (by decide) (by decide) h8 h9) (RMrk_E hf (by decide +kernel) (by decide) (by decide) h10)

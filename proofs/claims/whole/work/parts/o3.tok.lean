/-! tokens: the reference's next, whole -/
section
variable {d N : Nat} {b : AM}
set_option maxHeartbeats 1000000 in
theorem m_next (hx : RDM b N) {P : Nat} (hP : mrd b 235 16 = P) (hN : P ≤ N) : ∃ b', EV (d + 1) 193 0 [(2, 235), (3, 0)] [] b = some ((3, 0), b') ∧ NF b b' ∧ TkM (mrd b 239) b' (skp (mrd b 239) N P) (tkE (mrd b 239) N (skp (mrd b 239) N P)) (tkK (mrd b 239) N (skp (mrd b 239) N P)) := by
  have g := m_skip (d := d) hx (l1 := (3, 0)) (N - P) P (by omega)
  have hs := fI_rng (fun j => !bl_ (mrd b 239 ((j : Nat) : Int))) (N - P) P
  rw [show fI (fun j => !bl_ (mrd b 239 ((j : Nat) : Int))) P (N - P) = skp (mrd b 239) N P from rfl] at g hs
  obtain ⟨q, hq⟩ : ∃ q, q = skp (mrd b 239) N P := ⟨_, rfl⟩
  rw [← hq] at g hs ⊢
  have qN : q ≤ N := by omega
  have kM := hx.1.1
  obtain ⟨b1, hb1⟩ : ∃ b1, b1 = mwr (mwr b 235 15 (q : Int)) 235 16 (q : Int) := ⟨_, rfl⟩
  have hx1 : RDM b1 N := by rw [hb1]; exact (hx.wr (by decide) (by decide)).wr (by decide) (by decide)
  have hA1 : NF b b1 := by rw [hb1]; exact (NF.rf.wr (by decide) (by decide)).wr (by decide) (by decide)
  have k1 := hx1.1.1
  have e9 := hx1.2.1
  have h9 := hx.2.2.1
  have x15 : mrd b1 235 15 = q := by rw [hb1, rdn2 (by decide), rde]
  have x16 : mrd b1 235 16 = q := by rw [hb1, rde]
  have xT' : mrd b1 239 = mrd b 239 := funext fun j => hA1.2 _ _ (by omega)
  have ep : EV (d + 1) 193 0 [(2, 235), (3, 0)] [] b = EV (d + 1) 193 66 [(2, 235), (3, 0)] [] b1 := by
    have e8 : EV (d + 1) 193 0 [(2, 235), (3, 0)] [] b = EV (d + 1) 193 8 [(2, 235), (3, 0)] [] (mwr b 235 15 (P : Int)) := by
      simp only [e193_0, e193_1, e193_2, e193_5, psh0, psh1, psh3, true_or, or_true, eq_self, Option.bind_some, List.length_nil, List.length_cons, Nat.reduceAdd, Nat.reduceLeDiff, Nat.zero_le, ↓reduceIte, Int.reduceLT, Int.reduceEq, Int.reduceLE, Int.reduceNeg, Int.reduceAdd, Int.reduceMul, Int.reduceSub, ne_eq, not_true_eq_false, not_false_eq_true, and_true, true_and, and_false, false_and, c3lt, c3gt, c3eq, Bool.false_eq_true, isK_wr, inA_wr, inR_wr, kM, hP]
    rw [e8, g, e193_58, hb1]
    simp only [e193_59, e193_60, e193_63, psh0, psh1, psh3, true_or, or_true, eq_self, Option.bind_some, List.length_nil, List.length_cons, Nat.reduceAdd, Nat.reduceLeDiff, Nat.zero_le, ↓reduceIte, Int.reduceLT, Int.reduceEq, Int.reduceLE, Int.reduceNeg, Int.reduceAdd, Int.reduceMul, Int.reduceSub, ne_eq, not_true_eq_false, not_false_eq_true, and_true, true_and, and_false, false_and, c3lt, c3gt, c3eq, Bool.false_eq_true, isK_wr, inA_wr, inR_wr, kM, rde]
  rw [ep, e193_66]
  unfold tkE tkK
  by_cases cN : q < N
  · have cN' : (q : Int) < N := by omega
    rw [if_pos cN, if_pos cN]
    obtain ⟨t1, t2, t3, t4, t5, t6⟩ := lk_lte (T := mrd b 239) (i := q) (N := N) (hx.2.2.2 _ (by omega) cN') cN
    have gl := m_look2 (d := d) (p := (q : Int)) hx1 (by omega)
    rw [xT'] at gl
    obtain ⟨X, hX⟩ : ∃ X, X = lkF (mrd b 239) N q := ⟨_, rfl⟩
    rw [← hX] at gl t1 t2 t3 t6
    have gL := m_isLetter (d := d) (b := b1) (x := X)
    have gD := m_isDigit (d := d) (b := b1) (x := X)
    rw [t1] at gL
    rw [t2] at gD
    by_cases cl : lte (mrd b 239 q) = true
    · rw [if_pos cl, if_pos cl]
      rw [if_pos cl] at gL
      obtain ⟨e1, e2, e3⟩ := wen_rng (T := mrd b 239) qN
      obtain ⟨b2, hb2⟩ : ∃ b2, b2 = mwr b1 235 14 1 := ⟨_, rfl⟩
      have hx2 : RDM b2 N := by rw [hb2]; exact hx1.wr (by decide) (by decide)
      have hA2 : NF b b2 := by rw [hb2]; exact hA1.wr (by decide) (by decide)
      have xT2 : mrd b2 239 = mrd b 239 := funext fun j => hA2.2 _ _ (by omega)
      have y15 : mrd b2 235 15 = q := by rw [hb2, rdn2 (by decide)]; exact x15
      have y16 : mrd b2 235 16 = q := by rw [hb2, rdn2 (by decide)]; exact x16
      have gw := m_word (d := d) hx2 y15 qN (l1 := (0, X)) (N - q) 0 (by omega) (fun j hj => by omega)
      rw [xT2] at gw
      rw [show q + 0 = q from rfl] at gw
      rw [show fI (fun j => !lte (mrd b 239 ((j : Nat) : Int))) q (N - q) = wen (mrd b 239) N q from rfl] at gw
      obtain ⟨e, he⟩ : ∃ e, e = wen (mrd b 239) N q := ⟨_, rfl⟩
      rw [← he] at gw e1 e2 e3 ⊢
      have w0 : wvM (mrd b 239) q 0 = 0 := rfl
      have ec : mwr (mwr b2 235 19 (wvM (mrd b 239) q 0)) 235 16 (q : Int) = mwr b2 235 19 0 := by
        rw [w0]
        have : (q : Int) = mrd (mwr b2 235 19 0) 235 16 := by rw [rdn2 (by decide)]; exact y16.symm
        rw [this, wr_same]
      rw [ec] at gw
      obtain ⟨b3, hb3⟩ : ∃ b3, b3 = mwr (mwr b2 235 19 (wvM (mrd b 239) q (e - q))) 235 16 (e : Int) := ⟨_, rfl⟩
      rw [← hb3] at gw
      have k3 : isK b3 235 11 := by rw [hb3]; exact hx2.1.1
      have z15 : mrd b3 235 15 = q := by rw [hb3, rdn2 (by decide), rdn2 (by decide)]; exact y15
      have z16 : mrd b3 235 16 = e := by rw [hb3, rde]
      have z14 : mrd b3 235 14 = 1 := by rw [hb3, rdn2 (by decide), rdn2 (by decide), hb2, rde]
      have z19 : mrd b3 235 19 = wvM (mrd b 239) q (e - q) := by rw [hb3, rdn2 (by decide), rde]
      have wd : w32 ((e : Int) - (q : Int)) = ((e - q : Nat) : Int) := by rw [w32_id (by omega) (by omega)]; omega
      refine ⟨mwr b3 235 18 ((e - q : Nat) : Int), ?_, ?_, by rw [rdn2 (by decide)]; exact z14, by rw [rdn2 (by decide)]; exact z15, fun _ => by rw [rdn2 (by decide)]; exact z16, fun _ => ⟨rde, by rw [rdn2 (by decide), z19]; rfl⟩, fun z => by omega, fun z => by omega⟩
      · have e109 : EV (d + 1) 193 67 [(2, 235), (3, 0)] [(2, 235)] b1 = EV (d + 1) 193 109 [(2, 235), (0, X)] [] (mwr b2 235 19 0) := by
          rw [hb2]
          simp only [e193_0, e193_1, e193_2, e193_5, e193_9, e193_12, e193_13, e193_16, e193_19, e193_20, e193_21, e193_24, e193_27, e193_29, e193_32, e193_33, e193_34, e193_37, e193_40, e193_42, e193_45, e193_46, e193_46i, e193_47, e193_50, e193_51, e193_52, e193_55, e193_59, e193_60, e193_63, e193_67, e193_70, e193_71, e193_74, e193_77, e193_78, e193_79, e193_82, e193_83, e193_84, e193_85, e193_88, e193_91, e193_92, e193_93, e193_96, e193_99, e193_100, e193_101, e193_104, e193_105, e193_106, e193_110, e193_111, e193_114, e193_117, e193_120, e193_123, e193_124, e193_125, e193_128, e193_129, e193_132, e193_133, e193_135, e193_138, e193_139, e193_142, e193_145, e193_146, e193_147, e193_148, e193_151, e193_154, e193_155, e193_156, e193_159, e193_160, e193_163, e193_166, e193_169, e193_170, e193_170i, e193_171, e193_174, e193_175, e193_176, e193_179, e193_183, e193_184, e193_187, e193_188, e193_191, e193_192, e193_195, e193_198, e193_199, e193_202, e193_205, e193_206, e193_207, e193_211, e193_212, e193_215, e193_218, e193_221, e193_224, e193_225, e193_228, e193_229, e193_232, e193_233, e193_234, e193_237, e193_238, e193_240, e193_241, e193_244, e193_245, e193_246, e193_247, e193_250, e193_253, e193_254, e193_256, e193_257, e193_260, e193_261, e193_261i, e193_262, e193_265, e193_266, e193_267, e193_270, e193_273, e193_274, e193_275, e193_278, e193_279, e193_282, e193_283, e193_284, e193_287, e193_288, e193_291, e193_292, e193_295, e193_298, e193_299, e193_300, e193_303, e193_304, e193_305, e193_308, e193_309, e193_310, e193_313, e193_314, e193_315, e193_316, e193_319, e193_322, e193_323, e193_326, e193_327, e193_330, psh0, psh1, psh3, true_or, or_true, eq_self, Option.bind_some, List.length_nil, List.length_cons, Nat.reduceAdd, Nat.reduceLeDiff, Nat.zero_le, ↓reduceIte, Int.reduceLT, Int.reduceEq, Int.reduceLE, Int.reduceNeg, Int.reduceAdd, Int.reduceMul, Int.reduceSub, ne_eq, not_true_eq_false, not_false_eq_true, and_true, true_and, and_false, false_and, c3lt, c3gt, c3eq, Bool.false_eq_true, isK_wr, inA_wr, inR_wr, k1, x15, e9, cN', gl, gL]
        rw [e109, gw, e193_182]
        simp only [e193_0, e193_1, e193_2, e193_5, e193_9, e193_12, e193_13, e193_16, e193_19, e193_20, e193_21, e193_24, e193_27, e193_29, e193_32, e193_33, e193_34, e193_37, e193_40, e193_42, e193_45, e193_46, e193_46i, e193_47, e193_50, e193_51, e193_52, e193_55, e193_59, e193_60, e193_63, e193_67, e193_70, e193_71, e193_74, e193_77, e193_78, e193_79, e193_82, e193_83, e193_84, e193_85, e193_88, e193_91, e193_92, e193_93, e193_96, e193_99, e193_100, e193_101, e193_104, e193_105, e193_106, e193_110, e193_111, e193_114, e193_117, e193_120, e193_123, e193_124, e193_125, e193_128, e193_129, e193_132, e193_133, e193_135, e193_138, e193_139, e193_142, e193_145, e193_146, e193_147, e193_148, e193_151, e193_154, e193_155, e193_156, e193_159, e193_160, e193_163, e193_166, e193_169, e193_170, e193_170i, e193_171, e193_174, e193_175, e193_176, e193_179, e193_183, e193_184, e193_187, e193_188, e193_191, e193_192, e193_195, e193_198, e193_199, e193_202, e193_205, e193_206, e193_207, e193_211, e193_212, e193_215, e193_218, e193_221, e193_224, e193_225, e193_228, e193_229, e193_232, e193_233, e193_234, e193_237, e193_238, e193_240, e193_241, e193_244, e193_245, e193_246, e193_247, e193_250, e193_253, e193_254, e193_256, e193_257, e193_260, e193_261, e193_261i, e193_262, e193_265, e193_266, e193_267, e193_270, e193_273, e193_274, e193_275, e193_278, e193_279, e193_282, e193_283, e193_284, e193_287, e193_288, e193_291, e193_292, e193_295, e193_298, e193_299, e193_300, e193_303, e193_304, e193_305, e193_308, e193_309, e193_310, e193_313, e193_314, e193_315, e193_316, e193_319, e193_322, e193_323, e193_326, e193_327, e193_330, psh0, psh1, psh3, true_or, or_true, eq_self, Option.bind_some, List.length_nil, List.length_cons, Nat.reduceAdd, Nat.reduceLeDiff, Nat.zero_le, ↓reduceIte, Int.reduceLT, Int.reduceEq, Int.reduceLE, Int.reduceNeg, Int.reduceAdd, Int.reduceMul, Int.reduceSub, ne_eq, not_true_eq_false, not_false_eq_true, and_true, true_and, and_false, false_and, c3lt, c3gt, c3eq, Bool.false_eq_true, isK_wr, inA_wr, inR_wr, k3, z15, z16, wd]
      · rw [hb3]
        exact ((hA2.wr (by decide) (by decide)).wr (by decide) (by decide)).wr (by decide) (by decide)
    · rw [if_neg cl, if_neg cl]
      rw [if_neg cl] at gL
      by_cases cd : dgi (mrd b 239 q) = true
      · rw [if_pos cd, if_pos cd]
        rw [if_pos cd] at gD
        obtain ⟨e1, e2, e3⟩ := den_rng (T := mrd b 239) qN
        have gw := m_num (d := d) hx1 x15 qN (l1 := (0, X)) (N - q) 0 (by omega) (fun j hj => by omega)
        rw [xT'] at gw
        rw [show q + 0 = q from rfl] at gw
        rw [show fI (fun j => !dgi (mrd b 239 ((j : Nat) : Int))) q (N - q) = den (mrd b 239) N q from rfl] at gw
        obtain ⟨e, he⟩ : ∃ e, e = den (mrd b 239) N q := ⟨_, rfl⟩
        rw [← he] at gw e1 e2 e3 ⊢
        have w0 : dgv (mrd b 239) q (min 0 4) = 0 := rfl
        have ec : mwr (mwr b1 235 17 (dgv (mrd b 239) q (min 0 4))) 235 16 (q : Int) = mwr b1 235 17 0 := by
          rw [w0]
          have : (q : Int) = mrd (mwr b1 235 17 0) 235 16 := by rw [rdn2 (by decide)]; exact x16.symm
          rw [this, wr_same]
        rw [ec] at gw
        obtain ⟨b3, hb3⟩ : ∃ b3, b3 = mwr (mwr b1 235 17 (dgv (mrd b 239) q (min (e - q) 4))) 235 16 (e : Int) := ⟨_, rfl⟩
        rw [← hb3] at gw
        have k3 : isK b3 235 11 := by rw [hb3]; exact k1
        have z15 : mrd b3 235 15 = q := by rw [hb3, rdn2 (by decide), rdn2 (by decide)]; exact x15
        have z16 : mrd b3 235 16 = e := by rw [hb3, rde]
        have z17 : mrd b3 235 17 = dgv (mrd b 239) q (min (e - q) 4) := by rw [hb3, rdn2 (by decide), rde]
        have hA3 : NF b b3 := by rw [hb3]; exact (hA1.wr (by decide) (by decide)).wr (by decide) (by decide)
        have wd : w32 ((e : Int) - (q : Int)) = ((e - q : Nat) : Int) := by rw [w32_id (by omega) (by omega)]; omega
        have e210 : EV (d + 1) 193 67 [(2, 235), (3, 0)] [(2, 235)] b1 = EV (d + 1) 193 210 [(2, 235), (0, X)] [] (mwr b1 235 17 0) := by
          simp only [e193_0, e193_1, e193_2, e193_5, e193_9, e193_12, e193_13, e193_16, e193_19, e193_20, e193_21, e193_24, e193_27, e193_29, e193_32, e193_33, e193_34, e193_37, e193_40, e193_42, e193_45, e193_46, e193_46i, e193_47, e193_50, e193_51, e193_52, e193_55, e193_59, e193_60, e193_63, e193_67, e193_70, e193_71, e193_74, e193_77, e193_78, e193_79, e193_82, e193_83, e193_84, e193_85, e193_88, e193_91, e193_92, e193_93, e193_96, e193_99, e193_100, e193_101, e193_104, e193_105, e193_106, e193_110, e193_111, e193_114, e193_117, e193_120, e193_123, e193_124, e193_125, e193_128, e193_129, e193_132, e193_133, e193_135, e193_138, e193_139, e193_142, e193_145, e193_146, e193_147, e193_148, e193_151, e193_154, e193_155, e193_156, e193_159, e193_160, e193_163, e193_166, e193_169, e193_170, e193_170i, e193_171, e193_174, e193_175, e193_176, e193_179, e193_183, e193_184, e193_187, e193_188, e193_191, e193_192, e193_195, e193_198, e193_199, e193_202, e193_205, e193_206, e193_207, e193_211, e193_212, e193_215, e193_218, e193_221, e193_224, e193_225, e193_228, e193_229, e193_232, e193_233, e193_234, e193_237, e193_238, e193_240, e193_241, e193_244, e193_245, e193_246, e193_247, e193_250, e193_253, e193_254, e193_256, e193_257, e193_260, e193_261, e193_261i, e193_262, e193_265, e193_266, e193_267, e193_270, e193_273, e193_274, e193_275, e193_278, e193_279, e193_282, e193_283, e193_284, e193_287, e193_288, e193_291, e193_292, e193_295, e193_298, e193_299, e193_300, e193_303, e193_304, e193_305, e193_308, e193_309, e193_310, e193_313, e193_314, e193_315, e193_316, e193_319, e193_322, e193_323, e193_326, e193_327, e193_330, psh0, psh1, psh3, true_or, or_true, eq_self, Option.bind_some, List.length_nil, List.length_cons, Nat.reduceAdd, Nat.reduceLeDiff, Nat.zero_le, ↓reduceIte, Int.reduceLT, Int.reduceEq, Int.reduceLE, Int.reduceNeg, Int.reduceAdd, Int.reduceMul, Int.reduceSub, ne_eq, not_true_eq_false, not_false_eq_true, and_true, true_and, and_false, false_and, c3lt, c3gt, c3eq, Bool.false_eq_true, isK_wr, inA_wr, inR_wr, k1, x15, e9, cN', gl, gL, gD]
        by_cases c : 4 < e - q
        · have c' : (4 : Int) < ((e - q : Nat) : Int) := by omega
          rw [if_pos c]
          refine ⟨mwr b3 235 14 4, ?_, hA3.wr (by decide) (by decide), rde, by rw [rdn2 (by decide)]; exact z15, fun z => absurd rfl z, fun z => by omega, fun z => by omega, fun z => by omega⟩
          rw [e210, gw, e193_273]
          simp only [e193_0, e193_1, e193_2, e193_5, e193_9, e193_12, e193_13, e193_16, e193_19, e193_20, e193_21, e193_24, e193_27, e193_29, e193_32, e193_33, e193_34, e193_37, e193_40, e193_42, e193_45, e193_46, e193_46i, e193_47, e193_50, e193_51, e193_52, e193_55, e193_59, e193_60, e193_63, e193_67, e193_70, e193_71, e193_74, e193_77, e193_78, e193_79, e193_82, e193_83, e193_84, e193_85, e193_88, e193_91, e193_92, e193_93, e193_96, e193_99, e193_100, e193_101, e193_104, e193_105, e193_106, e193_110, e193_111, e193_114, e193_117, e193_120, e193_123, e193_124, e193_125, e193_128, e193_129, e193_132, e193_133, e193_135, e193_138, e193_139, e193_142, e193_145, e193_146, e193_147, e193_148, e193_151, e193_154, e193_155, e193_156, e193_159, e193_160, e193_163, e193_166, e193_169, e193_170, e193_170i, e193_171, e193_174, e193_175, e193_176, e193_179, e193_183, e193_184, e193_187, e193_188, e193_191, e193_192, e193_195, e193_198, e193_199, e193_202, e193_205, e193_206, e193_207, e193_211, e193_212, e193_215, e193_218, e193_221, e193_224, e193_225, e193_228, e193_229, e193_232, e193_233, e193_234, e193_237, e193_238, e193_240, e193_241, e193_244, e193_245, e193_246, e193_247, e193_250, e193_253, e193_254, e193_256, e193_257, e193_260, e193_261, e193_261i, e193_262, e193_265, e193_266, e193_267, e193_270, e193_274, e193_275, e193_278, e193_279, e193_282, e193_283, e193_284, e193_287, e193_288, e193_291, e193_292, e193_295, e193_298, e193_299, e193_300, e193_303, e193_304, e193_305, e193_308, e193_309, e193_310, e193_313, e193_314, e193_315, e193_316, e193_319, e193_322, e193_323, e193_326, e193_327, e193_330, psh0, psh1, psh3, true_or, or_true, eq_self, Option.bind_some, List.length_nil, List.length_cons, Nat.reduceAdd, Nat.reduceLeDiff, Nat.zero_le, ↓reduceIte, Int.reduceLT, Int.reduceEq, Int.reduceLE, Int.reduceNeg, Int.reduceAdd, Int.reduceMul, Int.reduceSub, ne_eq, not_true_eq_false, not_false_eq_true, and_true, true_and, and_false, false_and, c3lt, c3gt, c3eq, Bool.false_eq_true, isK_wr, inA_wr, inR_wr, k3, z15, z16, wd, c']
        · have c' : ¬ (4 : Int) < ((e - q : Nat) : Int) := by omega
          rw [if_neg c]
          refine ⟨mwr b3 235 14 2, ?_, hA3.wr (by decide) (by decide), rde, by rw [rdn2 (by decide)]; exact z15, fun _ => by rw [rdn2 (by decide)]; exact z16, fun z => by omega, fun _ => by rw [rdn2 (by decide), z17, min_self (by omega)], fun z => by omega⟩
          rw [e210, gw, e193_273]
          simp only [e193_0, e193_1, e193_2, e193_5, e193_9, e193_12, e193_13, e193_16, e193_19, e193_20, e193_21, e193_24, e193_27, e193_29, e193_32, e193_33, e193_34, e193_37, e193_40, e193_42, e193_45, e193_46, e193_46i, e193_47, e193_50, e193_51, e193_52, e193_55, e193_59, e193_60, e193_63, e193_67, e193_70, e193_71, e193_74, e193_77, e193_78, e193_79, e193_82, e193_83, e193_84, e193_85, e193_88, e193_91, e193_92, e193_93, e193_96, e193_99, e193_100, e193_101, e193_104, e193_105, e193_106, e193_110, e193_111, e193_114, e193_117, e193_120, e193_123, e193_124, e193_125, e193_128, e193_129, e193_132, e193_133, e193_135, e193_138, e193_139, e193_142, e193_145, e193_146, e193_147, e193_148, e193_151, e193_154, e193_155, e193_156, e193_159, e193_160, e193_163, e193_166, e193_169, e193_170, e193_170i, e193_171, e193_174, e193_175, e193_176, e193_179, e193_183, e193_184, e193_187, e193_188, e193_191, e193_192, e193_195, e193_198, e193_199, e193_202, e193_205, e193_206, e193_207, e193_211, e193_212, e193_215, e193_218, e193_221, e193_224, e193_225, e193_228, e193_229, e193_232, e193_233, e193_234, e193_237, e193_238, e193_240, e193_241, e193_244, e193_245, e193_246, e193_247, e193_250, e193_253, e193_254, e193_256, e193_257, e193_260, e193_261, e193_261i, e193_262, e193_265, e193_266, e193_267, e193_270, e193_274, e193_275, e193_278, e193_279, e193_282, e193_283, e193_284, e193_287, e193_288, e193_291, e193_292, e193_295, e193_298, e193_299, e193_300, e193_303, e193_304, e193_305, e193_308, e193_309, e193_310, e193_313, e193_314, e193_315, e193_316, e193_319, e193_322, e193_323, e193_326, e193_327, e193_330, psh0, psh1, psh3, true_or, or_true, eq_self, Option.bind_some, List.length_nil, List.length_cons, Nat.reduceAdd, Nat.reduceLeDiff, Nat.zero_le, ↓reduceIte, Int.reduceLT, Int.reduceEq, Int.reduceLE, Int.reduceNeg, Int.reduceAdd, Int.reduceMul, Int.reduceSub, ne_eq, not_true_eq_false, not_false_eq_true, and_true, true_and, and_false, false_and, c3lt, c3gt, c3eq, Bool.false_eq_true, isK_wr, inA_wr, inR_wr, k3, z15, z16, wd, c']
      · rw [if_neg cd, if_neg cd]
        rw [if_neg cd] at gD
        have w1 : w32 ((q : Int) + 1) = ((q + 1 : Nat) : Int) := by rw [w32_id (by omega) (by omega)]; omega
        have gS := m_isSignByte (d := d) (b := mwr (mwr b1 235 16 ((q + 1 : Nat) : Int)) 235 17 X) (x := X)
        rw [t3] at gS
        by_cases cs : sgn_ (mrd b 239 q) = true
        · rw [if_pos cs, if_pos cs]
          rw [if_pos cs] at gS
          have hXT : X = mrd b 239 q := t6 (by simp only [sgn_, decide_eq_true_eq] at cs; omega)
          refine ⟨mwr (mwr (mwr b1 235 16 ((q + 1 : Nat) : Int)) 235 17 X) 235 14 3, ?_, ((hA1.wr (by decide) (by decide)).wr (by decide) (by decide)).wr (by decide) (by decide), rde, by rw [rdn2 (by decide), rdn2 (by decide), rdn2 (by decide)]; exact x15, fun _ => by rw [rdn2 (by decide), rdn2 (by decide), rde], fun z => by omega, fun z => by omega, fun _ => by rw [rdn2 (by decide), rde]; exact hXT⟩
          simp only [e193_0, e193_1, e193_2, e193_5, e193_9, e193_12, e193_13, e193_16, e193_19, e193_20, e193_21, e193_24, e193_27, e193_29, e193_32, e193_33, e193_34, e193_37, e193_40, e193_42, e193_45, e193_46, e193_46i, e193_47, e193_50, e193_51, e193_52, e193_55, e193_59, e193_60, e193_63, e193_67, e193_70, e193_71, e193_74, e193_77, e193_78, e193_79, e193_82, e193_83, e193_84, e193_85, e193_88, e193_91, e193_92, e193_93, e193_96, e193_99, e193_100, e193_101, e193_104, e193_105, e193_106, e193_110, e193_111, e193_114, e193_117, e193_120, e193_123, e193_124, e193_125, e193_128, e193_129, e193_132, e193_133, e193_135, e193_138, e193_139, e193_142, e193_145, e193_146, e193_147, e193_148, e193_151, e193_154, e193_155, e193_156, e193_159, e193_160, e193_163, e193_166, e193_169, e193_170, e193_170i, e193_171, e193_174, e193_175, e193_176, e193_179, e193_183, e193_184, e193_187, e193_188, e193_191, e193_192, e193_195, e193_198, e193_199, e193_202, e193_205, e193_206, e193_207, e193_211, e193_212, e193_215, e193_218, e193_221, e193_224, e193_225, e193_228, e193_229, e193_232, e193_233, e193_234, e193_237, e193_238, e193_240, e193_241, e193_244, e193_245, e193_246, e193_247, e193_250, e193_253, e193_254, e193_256, e193_257, e193_260, e193_261, e193_261i, e193_262, e193_265, e193_266, e193_267, e193_270, e193_273, e193_274, e193_275, e193_278, e193_279, e193_282, e193_283, e193_284, e193_287, e193_288, e193_291, e193_292, e193_295, e193_298, e193_299, e193_300, e193_303, e193_304, e193_305, e193_308, e193_309, e193_310, e193_313, e193_314, e193_315, e193_316, e193_319, e193_322, e193_323, e193_326, e193_327, e193_330, psh0, psh1, psh3, true_or, or_true, eq_self, Option.bind_some, List.length_nil, List.length_cons, Nat.reduceAdd, Nat.reduceLeDiff, Nat.zero_le, ↓reduceIte, Int.reduceLT, Int.reduceEq, Int.reduceLE, Int.reduceNeg, Int.reduceAdd, Int.reduceMul, Int.reduceSub, ne_eq, not_true_eq_false, not_false_eq_true, and_true, true_and, and_false, false_and, c3lt, c3gt, c3eq, Bool.false_eq_true, isK_wr, inA_wr, inR_wr, k1, x15, e9, cN', gl, gL, gD, w1, gS]
        · rw [if_neg cs, if_neg cs]
          rw [if_neg cs] at gS
          refine ⟨mwr (mwr (mwr b1 235 16 ((q + 1 : Nat) : Int)) 235 17 X) 235 14 4, ?_, ((hA1.wr (by decide) (by decide)).wr (by decide) (by decide)).wr (by decide) (by decide), rde, by rw [rdn2 (by decide), rdn2 (by decide), rdn2 (by decide)]; exact x15, fun z => absurd rfl z, fun z => by omega, fun z => by omega, fun z => by omega⟩
          simp only [e193_0, e193_1, e193_2, e193_5, e193_9, e193_12, e193_13, e193_16, e193_19, e193_20, e193_21, e193_24, e193_27, e193_29, e193_32, e193_33, e193_34, e193_37, e193_40, e193_42, e193_45, e193_46, e193_46i, e193_47, e193_50, e193_51, e193_52, e193_55, e193_59, e193_60, e193_63, e193_67, e193_70, e193_71, e193_74, e193_77, e193_78, e193_79, e193_82, e193_83, e193_84, e193_85, e193_88, e193_91, e193_92, e193_93, e193_96, e193_99, e193_100, e193_101, e193_104, e193_105, e193_106, e193_110, e193_111, e193_114, e193_117, e193_120, e193_123, e193_124, e193_125, e193_128, e193_129, e193_132, e193_133, e193_135, e193_138, e193_139, e193_142, e193_145, e193_146, e193_147, e193_148, e193_151, e193_154, e193_155, e193_156, e193_159, e193_160, e193_163, e193_166, e193_169, e193_170, e193_170i, e193_171, e193_174, e193_175, e193_176, e193_179, e193_183, e193_184, e193_187, e193_188, e193_191, e193_192, e193_195, e193_198, e193_199, e193_202, e193_205, e193_206, e193_207, e193_211, e193_212, e193_215, e193_218, e193_221, e193_224, e193_225, e193_228, e193_229, e193_232, e193_233, e193_234, e193_237, e193_238, e193_240, e193_241, e193_244, e193_245, e193_246, e193_247, e193_250, e193_253, e193_254, e193_256, e193_257, e193_260, e193_261, e193_261i, e193_262, e193_265, e193_266, e193_267, e193_270, e193_273, e193_274, e193_275, e193_278, e193_279, e193_282, e193_283, e193_284, e193_287, e193_288, e193_291, e193_292, e193_295, e193_298, e193_299, e193_300, e193_303, e193_304, e193_305, e193_308, e193_309, e193_310, e193_313, e193_314, e193_315, e193_316, e193_319, e193_322, e193_323, e193_326, e193_327, e193_330, psh0, psh1, psh3, true_or, or_true, eq_self, Option.bind_some, List.length_nil, List.length_cons, Nat.reduceAdd, Nat.reduceLeDiff, Nat.zero_le, ↓reduceIte, Int.reduceLT, Int.reduceEq, Int.reduceLE, Int.reduceNeg, Int.reduceAdd, Int.reduceMul, Int.reduceSub, ne_eq, not_true_eq_false, not_false_eq_true, and_true, true_and, and_false, false_and, c3lt, c3gt, c3eq, Bool.false_eq_true, isK_wr, inA_wr, inR_wr, k1, x15, e9, cN', gl, gL, gD, w1, gS]
  · have cN' : ¬ (q : Int) < N := by omega
    rw [if_neg cN, if_neg cN]
    refine ⟨mwr b1 235 14 0, ?_, hA1.wr (by decide) (by decide), rde, by rw [rdn2 (by decide)]; exact x15, fun _ => by rw [rdn2 (by decide)]; exact x16, fun z => by omega, fun z => by omega, fun z => by omega⟩
    simp only [e193_0, e193_1, e193_2, e193_5, e193_9, e193_12, e193_13, e193_16, e193_19, e193_20, e193_21, e193_24, e193_27, e193_29, e193_32, e193_33, e193_34, e193_37, e193_40, e193_42, e193_45, e193_46, e193_46i, e193_47, e193_50, e193_51, e193_52, e193_55, e193_59, e193_60, e193_63, e193_67, e193_70, e193_71, e193_74, e193_77, e193_78, e193_79, e193_82, e193_83, e193_84, e193_85, e193_88, e193_91, e193_92, e193_93, e193_96, e193_99, e193_100, e193_101, e193_104, e193_105, e193_106, e193_110, e193_111, e193_114, e193_117, e193_120, e193_123, e193_124, e193_125, e193_128, e193_129, e193_132, e193_133, e193_135, e193_138, e193_139, e193_142, e193_145, e193_146, e193_147, e193_148, e193_151, e193_154, e193_155, e193_156, e193_159, e193_160, e193_163, e193_166, e193_169, e193_170, e193_170i, e193_171, e193_174, e193_175, e193_176, e193_179, e193_183, e193_184, e193_187, e193_188, e193_191, e193_192, e193_195, e193_198, e193_199, e193_202, e193_205, e193_206, e193_207, e193_211, e193_212, e193_215, e193_218, e193_221, e193_224, e193_225, e193_228, e193_229, e193_232, e193_233, e193_234, e193_237, e193_238, e193_240, e193_241, e193_244, e193_245, e193_246, e193_247, e193_250, e193_253, e193_254, e193_256, e193_257, e193_260, e193_261, e193_261i, e193_262, e193_265, e193_266, e193_267, e193_270, e193_273, e193_274, e193_275, e193_278, e193_279, e193_282, e193_283, e193_284, e193_287, e193_288, e193_291, e193_292, e193_295, e193_298, e193_299, e193_300, e193_303, e193_304, e193_305, e193_308, e193_309, e193_310, e193_313, e193_314, e193_315, e193_316, e193_319, e193_322, e193_323, e193_326, e193_327, e193_330, psh0, psh1, psh3, true_or, or_true, eq_self, Option.bind_some, List.length_nil, List.length_cons, Nat.reduceAdd, Nat.reduceLeDiff, Nat.zero_le, ↓reduceIte, Int.reduceLT, Int.reduceEq, Int.reduceLE, Int.reduceNeg, Int.reduceAdd, Int.reduceMul, Int.reduceSub, ne_eq, not_true_eq_false, not_false_eq_true, and_true, true_and, and_false, false_and, c3lt, c3gt, c3eq, Bool.false_eq_true, isK_wr, inA_wr, inR_wr, k1, x15, e9, cN']
end

/-! plans: the class's loops -/
section
variable {d : Nat} {h h0 g : AM} {s a b c i k l p v w x y z day : Int}
theorem FPX_sh (hf : FPX h0 h) (hx : Shp h0 ∧ RRef h0.1) : Shp h ∧ RRef h.1 := ⟨Shp_eq hf.1 hx.1, FPX_rr hf hx.2⟩
theorem su_lf {D : PDt} {nc : Nat} {S : PSt} (hv : PV D nc) (h4 : nc ≤ 4) (hI : PI D nc day S) : 0 ≤ su nc (lf D S) ∧ su nc (lf D S) ≤ 48 := by
  refine ⟨su_nn nc (lf_nn hI), ?_⟩
  have := su_le (f := lf D S) (g := fun _ => 12) nc (fun i i0 i1 => by
    have := (hv i i0 i1).1
    have := hI i i0 i1
    unfold lf
    omega)
  rw [su_k] at this
  omega
theorem mk_in {nc : Nat} {S : PSt} (hx : HX h0 s nc) (d0 : 0 ≤ day) (d1 : day ≤ 1440) (hI : PI (PDh h0) nc day S) (n : Nat) : ∀ (i : Nat) (h : AM) (l6 : AV), i + n = nc → RPX nc (pD (PDh h0) day i S) h → FPX h0 h → ∃ h' l6', EV (d + 2) 30 122 [(2, 152), (2, s), (2, 1), (0, su nc (lf (PDh h0) (pD (PDh h0) day i S))), (0, day), (0, (i : Int)), l6] [] h = EV (d + 2) 30 219 [(2, 152), (2, s), (2, 1), (0, su nc (lf (PDh h0) (pD (PDh h0) day nc S))), (0, day), (0, (nc : Int)), l6'] [] h' ∧ RPX nc (pD (PDh h0) day nc S) h' ∧ FPX h0 h' := by
  have hv := HX_PV hx
  obtain ⟨⟨hp0, hr0, hs, e7, n4⟩, hk⟩ := hx
  induction n with
  | zero =>
    intro i h l6 hi hR hf
    have e : i = nc := by omega
    subst e
    obtain ⟨hp, hr⟩ := FPX_sh hf ⟨hp0, hr0⟩
    refine ⟨h, l6, ?_, hR, hf⟩
    rw [e30_122]
    simp only [e30_0, e30_1, e30_2, e30_5, e30_8, e30_9, e30_10, e30_13, e30_14, e30_15, e30_16, e30_18, e30_20, e30_21, e30_24, e30_27, e30_28, e30_31, e30_33, e30_34, e30_35, e30_36, e30_39, e30_41, e30_42, e30_43, e30_44, e30_47, e30_49, e30_50, e30_51, e30_52, e30_53, e30_55, e30_56, e30_59, e30_62, e30_63, e30_65, e30_66, e30_69, e30_72, e30_73, e30_74, e30_75, e30_78, e30_81, e30_82, e30_84, e30_86, e30_87, e30_90, e30_91, e30_94, e30_96, e30_97, e30_98, e30_101, e30_104, e30_105, e30_107, e30_109, e30_112, e30_115, e30_116, e30_119, e30_120, e30_124, e30_125, e30_128, e30_131, e30_132, e30_134, e30_135, e30_138, e30_141, e30_142, e30_145, e30_147, e30_148, e30_149, e30_151, e30_152, e30_155, e30_158, e30_159, e30_162, e30_164, e30_165, e30_167, e30_170, e30_171, e30_174, e30_175, e30_177, e30_179, e30_182, e30_183, e30_184, e30_186, e30_187, e30_189, e30_190, e30_193, e30_194, e30_197, e30_199, e30_200, e30_201, e30_202, e30_204, e30_207, e30_210, e30_213, e30_216, e30_222, e30_225, psh0, psh1, psh3, true_or, or_true, eq_self, Option.bind_some, List.length_nil, List.length_cons, Nat.reduceAdd, Nat.reduceLeDiff, Nat.zero_le, ↓reduceIte, Int.reduceLT, Int.reduceEq, Int.reduceLE, Int.reduceNeg, Int.reduceAdd, Int.reduceMul, Int.reduceSub, ne_eq, not_true_eq_false, not_false_eq_true, and_true, true_and, and_false, false_and, c3lt, c3gt, c3eq, Bool.false_eq_true, isK_wr, inA_wr, inR_wr, kn_152 hp, hR.2.2.2, Int.lt_irrefl]
  | succ n ih =>
    intro i h l6 hi hR hf
    obtain ⟨hp, hr⟩ := FPX_sh hf ⟨hp0, hr0⟩
    have i0 : (0 : Int) ≤ i := by omega
    have i1 : (i : Int) < nc := by omega
    have i4 : (i : Int) < 4 := by omega
    obtain ⟨t, n12, gf, lk⟩ := hk i i0 i1
    have hP := PI_D hv d0 d1 hI i (by omega)
    have ih' := ih (i + 1) h
    have ihB := fun h' l6 => ih (i + 1) h' l6 (by omega)
    rw [pD] at ih' ihB
    generalize pD (PDh h0) day i S = P at hR hP ih' ihB
    have hl := su_lf hv n4 hP
    obtain ⟨R1, R2, R3, R4⟩ := id hR
    obtain ⟨b1, b2, b3, b4⟩ := R1 i i0 i1
    obtain ⟨f1, f2, f3⟩ := hP i i0 i1
    have f2' : P.2.1 i ≤ (PN h0 i : Int) := f2.2
    obtain ⟨⟨p1, p2, p3, p4, p5, p6⟩, a1, a2, a3, a4, a5, a6, a7, a8⟩ := pl_K hp hr i0 i4
    obtain ⟨q1, q2, q3, q4, q5, q6⟩ := CT_of hp hr i0 i4
    have w1 : w32 ((i : Int) + 1) = ((i + 1 : Nat) : Int) := by rw [w32_id (by omega) (by omega)]; omega
    have et1 : mrd h (2 + 2 * (i : Int)) 1 = mrd h0 (2 + 2 * (i : Int)) 1 := hf.2.1 _ _ (by omega)
    have et3 : mrd h (2 + 2 * (i : Int)) 3 = mrd h0 (2 + 2 * (i : Int)) 3 := hf.2.1 _ _ (by omega)
    have skip : ¬ pC (PDh h0) day i P → pS (PDh h0) day i P = P := fun z => if_neg z
    rcases t with ⟨t1, t2⟩ | ⟨t1, t2, t3⟩
    · have c : ¬ pC (PDh h0) day i P := fun z => by
        have z1 : P.2.1 i < (PN h0 i : Int) := z.1
        omega
      rw [skip c] at ih'
      obtain ⟨h', l6', g1, g2⟩ := ih' (0, 0) (by omega) hR hf
      refine ⟨h', l6', ?_, g2⟩
      rw [← g1, e30_122]
      simp only [e30_0, e30_1, e30_2, e30_5, e30_8, e30_9, e30_10, e30_13, e30_14, e30_15, e30_16, e30_18, e30_20, e30_21, e30_24, e30_27, e30_28, e30_31, e30_33, e30_34, e30_35, e30_36, e30_39, e30_41, e30_42, e30_43, e30_44, e30_47, e30_49, e30_50, e30_51, e30_52, e30_53, e30_55, e30_56, e30_59, e30_62, e30_63, e30_65, e30_66, e30_69, e30_72, e30_73, e30_74, e30_75, e30_78, e30_81, e30_82, e30_84, e30_86, e30_87, e30_90, e30_91, e30_94, e30_96, e30_97, e30_98, e30_101, e30_104, e30_105, e30_107, e30_109, e30_112, e30_115, e30_116, e30_119, e30_120, e30_124, e30_125, e30_128, e30_131, e30_132, e30_134, e30_135, e30_138, e30_141, e30_142, e30_145, e30_147, e30_148, e30_149, e30_151, e30_152, e30_155, e30_158, e30_159, e30_162, e30_164, e30_165, e30_167, e30_170, e30_171, e30_174, e30_175, e30_177, e30_179, e30_182, e30_183, e30_184, e30_186, e30_187, e30_189, e30_190, e30_193, e30_194, e30_197, e30_199, e30_200, e30_201, e30_202, e30_204, e30_207, e30_210, e30_213, e30_216, e30_222, e30_225, psh0, psh1, psh3, true_or, or_true, eq_self, Option.bind_some, List.length_nil, List.length_cons, Nat.reduceAdd, Nat.reduceLeDiff, Nat.zero_le, ↓reduceIte, Int.reduceLT, Int.reduceEq, Int.reduceLE, Int.reduceNeg, Int.reduceAdd, Int.reduceMul, Int.reduceSub, ne_eq, not_true_eq_false, not_false_eq_true, and_true, true_and, and_false, false_and, c3lt, c3gt, c3eq, Bool.false_eq_true, isK_wr, inA_wr, inR_wr, p1, R4, i1, q1, q2, q3, et1, t1, w1]
    · have el : mrd h (2 + 2 * (i : Int)) 3 = (PN h0 i : Int) := et3.trans t2
      have eb : mrd h (2 + 2 * (i : Int)) 1 = 1 := et1.trans t1
      by_cases c1 : P.2.1 i < (PN h0 i : Int)
      · by_cases c2 : day < P.1 i
        · have c : ¬ pC (PDh h0) day i P := fun z => by have := z.2.1; omega
          rw [skip c] at ih'
          obtain ⟨h', l6', g1, g2⟩ := ih' (0, 0) (by omega) hR hf
          refine ⟨h', l6', ?_, g2⟩
          rw [← g1, e30_122]
          simp only [e30_0, e30_1, e30_2, e30_5, e30_8, e30_9, e30_10, e30_13, e30_14, e30_15, e30_16, e30_18, e30_20, e30_21, e30_24, e30_27, e30_28, e30_31, e30_33, e30_34, e30_35, e30_36, e30_39, e30_41, e30_42, e30_43, e30_44, e30_47, e30_49, e30_50, e30_51, e30_52, e30_53, e30_55, e30_56, e30_59, e30_62, e30_63, e30_65, e30_66, e30_69, e30_72, e30_73, e30_74, e30_75, e30_78, e30_81, e30_82, e30_84, e30_86, e30_87, e30_90, e30_91, e30_94, e30_96, e30_97, e30_98, e30_101, e30_104, e30_105, e30_107, e30_109, e30_112, e30_115, e30_116, e30_119, e30_120, e30_124, e30_125, e30_128, e30_131, e30_132, e30_134, e30_135, e30_138, e30_141, e30_142, e30_145, e30_147, e30_148, e30_149, e30_151, e30_152, e30_155, e30_158, e30_159, e30_162, e30_164, e30_165, e30_167, e30_170, e30_171, e30_174, e30_175, e30_177, e30_179, e30_182, e30_183, e30_184, e30_186, e30_187, e30_189, e30_190, e30_193, e30_194, e30_197, e30_199, e30_200, e30_201, e30_202, e30_204, e30_207, e30_210, e30_213, e30_216, e30_222, e30_225, psh0, psh1, psh3, true_or, or_true, eq_self, Option.bind_some, List.length_nil, List.length_cons, Nat.reduceAdd, Nat.reduceLeDiff, Nat.zero_le, ↓reduceIte, Int.reduceLT, Int.reduceEq, Int.reduceLE, Int.reduceNeg, Int.reduceAdd, Int.reduceMul, Int.reduceSub, ne_eq, not_true_eq_false, not_false_eq_true, and_true, true_and, and_false, false_and, c3lt, c3gt, c3eq, Bool.false_eq_true, isK_wr, inA_wr, inR_wr, p1, p2, p5, R4, i1, q1, q2, q3, eb, el, a1, a3, b1, b2, c1, c2, w1]
        · obtain ⟨k1, k2, k3⟩ := lk (P.2.1 i) f2.1 c1
          have en : mrd h (3 + 2 * (i : Int)) (P.2.1 i) = mrd h0 238 (60 * i + P.2.1 i) := (hf.2.1 _ _ (by omega)).trans (t3 _ f2.1 c1)
          have jn : inA h (3 + 2 * (i : Int)) 19 (P.2.1 i) := ⟨q5, f2.1, by rw [q6]; omega⟩
          have xl : pL (PDh h0) P i = mrd h0 238 (60 * i + P.2.1 i) := rfl
          have xm : pM (PDh h0) P i = mrd h0 240 (40 + pL (PDh h0) P i) := rfl
          have xo : pO (PDh h0) day P i = day + dyF (mrd h0 240 (16 + pL (PDh h0) P i)) (mrd h0 240 (64 + i)) := rfl
          rw [← xl] at k1 k2 k3 en
          have wl : w32 (pL (PDh h0) P i) = pL (PDh h0) P i := w32_id (by omega) (by omega)
          have z5 : mrd h (s + 13 + pL (PDh h0) P i) 5 = pM (PDh h0) P i := by rw [hf.2.1 _ _ (by omega), k2.1, xm]
          have z3 : mrd h (s + 13 + pL (PDh h0) P i) 3 = mrd h0 240 (16 + pL (PDh h0) P i) := by rw [hf.2.1 _ _ (by omega), k3.1]
          have z2 : mrd h (s + 25 + 2 * (i : Int)) 2 = mrd h0 240 (64 + i) := by rw [hf.2.1 _ _ (by omega), gf.1]
          have hm : -1 ≤ pM (PDh h0) P i ∧ pM (PDh h0) P i < 4 := by rw [xm]; exact k2.2
          have hdy := dyF_rng k3.2 gf.2
          have gt := x_tryBegin (d := d) (h := h) (s := s) (k := (i : Int)) (l := pL (PDh h0) P i) (day := day) hp hr hs i0 i4 k1.1 k1.2 (by rw [z3]; exact k3.2) (by rw [z2]; exact gf.2) (by rw [z5]; exact hm) d0 d1 (by omega) (by omega) (by omega) (by omega) (by omega) (by omega)
          rw [z5, z3, z2, ← xo] at gt
          by_cases c3 : pM (PDh h0) P i < 0 ∨ P.2.2.2.1 (pM (PDh h0) P i) ≤ day
          · have c3' : pM (PDh h0) P i < 0 ∨ mrd h 161 (pM (PDh h0) P i) ≤ day := by
              rcases c3 with z | z
              · exact Or.inl z
              · by_cases y : pM (PDh h0) P i < 0
                · exact Or.inl y
                · exact Or.inr (by rw [R2 _ (by omega) hm.2]; exact z)
            rw [if_pos c3'] at gt
            have c : pC (PDh h0) day i P := ⟨c1, by omega, c3⟩
            have e : pS (PDh h0) day i P = pB (PDh h0) day i P := if_pos c
            rw [e] at ihB
            have hfo : P.1 i ≤ pO (PDh h0) day P i := by rw [xo]; omega
            obtain ⟨h', l6', g1, g2⟩ := ihB _ (0, 1) (RPX_B n4 i0 i1 hR hm hfo) (FPX_TB hf i0 i4)
            refine ⟨h', l6', ?_, g2⟩
            have es : su nc (lf (PDh h0) (pB (PDh h0) day i P)) = su nc (lf (PDh h0) P) + (-1) := su_one i0 nc i1 (fun j _ _ hj => by unfold lf; rw [(pB_1 hj).2.1]) (by unfold lf; rw [pB_2.2.1]; omega)
            have w2 : w32 (su nc (lf (PDh h0) P) + (-1)) = su nc (lf (PDh h0) (pB (PDh h0) day i P)) := by rw [es]; exact w32_id (by omega) (by omega)
            rw [← g1, e30_122]
            simp only [e30_0, e30_1, e30_2, e30_5, e30_8, e30_9, e30_10, e30_13, e30_14, e30_15, e30_16, e30_18, e30_20, e30_21, e30_24, e30_27, e30_28, e30_31, e30_33, e30_34, e30_35, e30_36, e30_39, e30_41, e30_42, e30_43, e30_44, e30_47, e30_49, e30_50, e30_51, e30_52, e30_53, e30_55, e30_56, e30_59, e30_62, e30_63, e30_65, e30_66, e30_69, e30_72, e30_73, e30_74, e30_75, e30_78, e30_81, e30_82, e30_84, e30_86, e30_87, e30_90, e30_91, e30_94, e30_96, e30_97, e30_98, e30_101, e30_104, e30_105, e30_107, e30_109, e30_112, e30_115, e30_116, e30_119, e30_120, e30_124, e30_125, e30_128, e30_131, e30_132, e30_134, e30_135, e30_138, e30_141, e30_142, e30_145, e30_147, e30_148, e30_149, e30_151, e30_152, e30_155, e30_158, e30_159, e30_162, e30_164, e30_165, e30_167, e30_170, e30_171, e30_174, e30_175, e30_177, e30_179, e30_182, e30_183, e30_184, e30_186, e30_187, e30_189, e30_190, e30_193, e30_194, e30_197, e30_199, e30_200, e30_201, e30_202, e30_204, e30_207, e30_210, e30_213, e30_216, e30_222, e30_225, psh0, psh1, psh3, true_or, or_true, eq_self, Option.bind_some, List.length_nil, List.length_cons, Nat.reduceAdd, Nat.reduceLeDiff, Nat.zero_le, ↓reduceIte, Int.reduceLT, Int.reduceEq, Int.reduceLE, Int.reduceNeg, Int.reduceAdd, Int.reduceMul, Int.reduceSub, ne_eq, not_true_eq_false, not_false_eq_true, and_true, true_and, and_false, false_and, c3lt, c3gt, c3eq, Bool.false_eq_true, isK_wr, inA_wr, inR_wr, p1, p2, p5, R4, i1, q1, q2, q3, q4, eb, el, a1, a3, b1, b2, c1, c2, jn, en, wl, gt, w1, w2]
          · have c3' : ¬ (pM (PDh h0) P i < 0 ∨ mrd h 161 (pM (PDh h0) P i) ≤ day) := by
              rintro (z | z)
              · exact c3 (Or.inl z)
              · by_cases y : pM (PDh h0) P i < 0
                · exact c3 (Or.inl y)
                · rw [R2 _ (by omega) hm.2] at z
                  exact c3 (Or.inr z)
            rw [if_neg c3'] at gt
            have c : ¬ pC (PDh h0) day i P := fun z => c3 z.2.2
            rw [skip c] at ih'
            obtain ⟨h', l6', g1, g2⟩ := ih' (0, 1) (by omega) hR hf
            refine ⟨h', l6', ?_, g2⟩
            rw [← g1, e30_122]
            simp only [e30_0, e30_1, e30_2, e30_5, e30_8, e30_9, e30_10, e30_13, e30_14, e30_15, e30_16, e30_18, e30_20, e30_21, e30_24, e30_27, e30_28, e30_31, e30_33, e30_34, e30_35, e30_36, e30_39, e30_41, e30_42, e30_43, e30_44, e30_47, e30_49, e30_50, e30_51, e30_52, e30_53, e30_55, e30_56, e30_59, e30_62, e30_63, e30_65, e30_66, e30_69, e30_72, e30_73, e30_74, e30_75, e30_78, e30_81, e30_82, e30_84, e30_86, e30_87, e30_90, e30_91, e30_94, e30_96, e30_97, e30_98, e30_101, e30_104, e30_105, e30_107, e30_109, e30_112, e30_115, e30_116, e30_119, e30_120, e30_124, e30_125, e30_128, e30_131, e30_132, e30_134, e30_135, e30_138, e30_141, e30_142, e30_145, e30_147, e30_148, e30_149, e30_151, e30_152, e30_155, e30_158, e30_159, e30_162, e30_164, e30_165, e30_167, e30_170, e30_171, e30_174, e30_175, e30_177, e30_179, e30_182, e30_183, e30_184, e30_186, e30_187, e30_189, e30_190, e30_193, e30_194, e30_197, e30_199, e30_200, e30_201, e30_202, e30_204, e30_207, e30_210, e30_213, e30_216, e30_222, e30_225, psh0, psh1, psh3, true_or, or_true, eq_self, Option.bind_some, List.length_nil, List.length_cons, Nat.reduceAdd, Nat.reduceLeDiff, Nat.zero_le, ↓reduceIte, Int.reduceLT, Int.reduceEq, Int.reduceLE, Int.reduceNeg, Int.reduceAdd, Int.reduceMul, Int.reduceSub, ne_eq, not_true_eq_false, not_false_eq_true, and_true, true_and, and_false, false_and, c3lt, c3gt, c3eq, Bool.false_eq_true, isK_wr, inA_wr, inR_wr, p1, p2, p5, R4, i1, q1, q2, q3, q4, eb, el, a1, a3, b1, b2, c1, c2, jn, en, wl, gt, w1]
      · have c : ¬ pC (PDh h0) day i P := fun z => c1 z.1
        rw [skip c] at ih'
        obtain ⟨h', l6', g1, g2⟩ := ih' (0, 0) (by omega) hR hf
        refine ⟨h', l6', ?_, g2⟩
        rw [← g1, e30_122]
        simp only [e30_0, e30_1, e30_2, e30_5, e30_8, e30_9, e30_10, e30_13, e30_14, e30_15, e30_16, e30_18, e30_20, e30_21, e30_24, e30_27, e30_28, e30_31, e30_33, e30_34, e30_35, e30_36, e30_39, e30_41, e30_42, e30_43, e30_44, e30_47, e30_49, e30_50, e30_51, e30_52, e30_53, e30_55, e30_56, e30_59, e30_62, e30_63, e30_65, e30_66, e30_69, e30_72, e30_73, e30_74, e30_75, e30_78, e30_81, e30_82, e30_84, e30_86, e30_87, e30_90, e30_91, e30_94, e30_96, e30_97, e30_98, e30_101, e30_104, e30_105, e30_107, e30_109, e30_112, e30_115, e30_116, e30_119, e30_120, e30_124, e30_125, e30_128, e30_131, e30_132, e30_134, e30_135, e30_138, e30_141, e30_142, e30_145, e30_147, e30_148, e30_149, e30_151, e30_152, e30_155, e30_158, e30_159, e30_162, e30_164, e30_165, e30_167, e30_170, e30_171, e30_174, e30_175, e30_177, e30_179, e30_182, e30_183, e30_184, e30_186, e30_187, e30_189, e30_190, e30_193, e30_194, e30_197, e30_199, e30_200, e30_201, e30_202, e30_204, e30_207, e30_210, e30_213, e30_216, e30_222, e30_225, psh0, psh1, psh3, true_or, or_true, eq_self, Option.bind_some, List.length_nil, List.length_cons, Nat.reduceAdd, Nat.reduceLeDiff, Nat.zero_le, ↓reduceIte, Int.reduceLT, Int.reduceEq, Int.reduceLE, Int.reduceNeg, Int.reduceAdd, Int.reduceMul, Int.reduceSub, ne_eq, not_true_eq_false, not_false_eq_true, and_true, true_and, and_false, false_and, c3lt, c3gt, c3eq, Bool.false_eq_true, isK_wr, inA_wr, inR_wr, p1, p2, R4, i1, q1, q2, q3, eb, el, a1, b2, c1, w1]
theorem mk_out {nc N : Nat} (hx : HX h0 s nc) (hN : N ≤ 1411) (hz : su nc (lf (PDh h0) (pR (PDh h0) nc N)) = 0) (hpos : ∀ i : Nat, i < N → 0 < su nc (lf (PDh h0) (pR (PDh h0) nc i))) (n : Nat) : ∀ (j : Nat) (h : AM) (l5 l6 : AV), j + n = N → RPX nc (pR (PDh h0) nc j) h → FPX h0 h → ∃ h', EV (d + 2) 30 107 [(2, 152), (2, s), (2, 1), (0, su nc (lf (PDh h0) (pR (PDh h0) nc j))), (0, (j : Int)), l5, l6] [] h = some ((3, 0), h') ∧ RPX nc (pR (PDh h0) nc N) h' ∧ FPX h0 h' := by
  induction n with
  | zero =>
    intro j h l5 l6 hj hR hf
    have e : j = N := by omega
    subst e
    refine ⟨h, ?_, hR, hf⟩
    have c : ¬ (1440 : Int) < j := by omega
    rw [e30_107, hz]
    simp only [e30_0, e30_1, e30_2, e30_5, e30_8, e30_9, e30_10, e30_13, e30_14, e30_15, e30_16, e30_18, e30_20, e30_21, e30_24, e30_27, e30_28, e30_31, e30_33, e30_34, e30_35, e30_36, e30_39, e30_41, e30_42, e30_43, e30_44, e30_47, e30_49, e30_50, e30_51, e30_52, e30_53, e30_55, e30_56, e30_59, e30_62, e30_63, e30_65, e30_66, e30_69, e30_72, e30_73, e30_74, e30_75, e30_78, e30_81, e30_82, e30_84, e30_86, e30_87, e30_90, e30_91, e30_94, e30_96, e30_97, e30_98, e30_101, e30_104, e30_105, e30_109, e30_112, e30_115, e30_116, e30_119, e30_120, e30_124, e30_125, e30_128, e30_131, e30_132, e30_134, e30_135, e30_138, e30_141, e30_142, e30_145, e30_147, e30_148, e30_149, e30_151, e30_152, e30_155, e30_158, e30_159, e30_162, e30_164, e30_165, e30_167, e30_170, e30_171, e30_174, e30_175, e30_177, e30_179, e30_182, e30_183, e30_184, e30_186, e30_187, e30_189, e30_190, e30_193, e30_194, e30_197, e30_199, e30_200, e30_201, e30_202, e30_204, e30_207, e30_210, e30_213, e30_216, e30_222, e30_225, psh0, psh1, psh3, true_or, or_true, eq_self, Option.bind_some, List.length_nil, List.length_cons, Nat.reduceAdd, Nat.reduceLeDiff, Nat.zero_le, ↓reduceIte, Int.reduceLT, Int.reduceEq, Int.reduceLE, Int.reduceNeg, Int.reduceAdd, Int.reduceMul, Int.reduceSub, ne_eq, not_true_eq_false, not_false_eq_true, and_true, true_and, and_false, false_and, c3lt, c3gt, c3eq, Bool.false_eq_true, isK_wr, inA_wr, inR_wr, c]
  | succ n ih =>
    intro j h l5 l6 hj hR hf
    obtain ⟨g1, -, -⟩ := run_pr (HX_PV hx) j (by omega) (fun i _ i2 => hpos i (by omega))
    have hl := hpos j (by omega)
    have c : ¬ (1440 : Int) < j := by omega
    obtain ⟨h1, l6', y1, y2, y3⟩ := mk_in (d := d) (day := (j : Int)) (S := pR (PDh h0) nc j) hx (by omega) (by omega) g1 nc 0 h l6 (by omega) hR hf
    have w1 : w32 ((j : Int) + 1) = ((j + 1 : Nat) : Int) := by rw [w32_id (by omega) (by omega)]; omega
    have y1 : EV (d + 2) 30 122 [(2, 152), (2, s), (2, 1), (0, su nc (lf (PDh h0) (pR (PDh h0) nc j))), (0, (j : Int)), (0, 0), l6] [] h = EV (d + 2) 30 219 [(2, 152), (2, s), (2, 1), (0, su nc (lf (PDh h0) (pR (PDh h0) nc (j + 1)))), (0, (j : Int)), (0, (nc : Int)), l6'] [] h1 := y1
    obtain ⟨h', z1, z2⟩ := ih (j + 1) h1 (0, (nc : Int)) l6' (by omega) y2 y3
    refine ⟨h', ?_, z2⟩
    rw [← z1, e30_107]
    simp only [e30_0, e30_1, e30_2, e30_5, e30_8, e30_9, e30_10, e30_13, e30_14, e30_15, e30_16, e30_18, e30_20, e30_21, e30_24, e30_27, e30_28, e30_31, e30_33, e30_34, e30_35, e30_36, e30_39, e30_41, e30_42, e30_43, e30_44, e30_47, e30_49, e30_50, e30_51, e30_52, e30_53, e30_55, e30_56, e30_59, e30_62, e30_63, e30_65, e30_66, e30_69, e30_72, e30_73, e30_74, e30_75, e30_78, e30_81, e30_82, e30_84, e30_86, e30_87, e30_90, e30_91, e30_94, e30_96, e30_97, e30_98, e30_101, e30_104, e30_105, e30_109, e30_112, e30_115, e30_116, e30_119, e30_120, e30_124, e30_125, e30_128, e30_131, e30_132, e30_134, e30_135, e30_138, e30_141, e30_142, e30_145, e30_147, e30_148, e30_149, e30_151, e30_152, e30_155, e30_158, e30_159, e30_162, e30_164, e30_165, e30_167, e30_170, e30_171, e30_174, e30_175, e30_177, e30_179, e30_182, e30_183, e30_184, e30_186, e30_187, e30_189, e30_190, e30_193, e30_194, e30_197, e30_199, e30_200, e30_201, e30_202, e30_204, e30_207, e30_210, e30_213, e30_216, e30_222, e30_225, psh0, psh1, psh3, true_or, or_true, eq_self, Option.bind_some, List.length_nil, List.length_cons, Nat.reduceAdd, Nat.reduceLeDiff, Nat.zero_le, ↓reduceIte, Int.reduceLT, Int.reduceEq, Int.reduceLE, Int.reduceNeg, Int.reduceAdd, Int.reduceMul, Int.reduceSub, ne_eq, not_true_eq_false, not_false_eq_true, and_true, true_and, and_false, false_and, c3lt, c3gt, c3eq, Bool.false_eq_true, isK_wr, inA_wr, inR_wr, c, hl]
    rw [y1, e30_219]
    simp only [e30_0, e30_1, e30_2, e30_5, e30_8, e30_9, e30_10, e30_13, e30_14, e30_15, e30_16, e30_18, e30_20, e30_21, e30_24, e30_27, e30_28, e30_31, e30_33, e30_34, e30_35, e30_36, e30_39, e30_41, e30_42, e30_43, e30_44, e30_47, e30_49, e30_50, e30_51, e30_52, e30_53, e30_55, e30_56, e30_59, e30_62, e30_63, e30_65, e30_66, e30_69, e30_72, e30_73, e30_74, e30_75, e30_78, e30_81, e30_82, e30_84, e30_86, e30_87, e30_90, e30_91, e30_94, e30_96, e30_97, e30_98, e30_101, e30_104, e30_105, e30_109, e30_112, e30_115, e30_116, e30_119, e30_120, e30_124, e30_125, e30_128, e30_131, e30_132, e30_134, e30_135, e30_138, e30_141, e30_142, e30_145, e30_147, e30_148, e30_149, e30_151, e30_152, e30_155, e30_158, e30_159, e30_162, e30_164, e30_165, e30_167, e30_170, e30_171, e30_174, e30_175, e30_177, e30_179, e30_182, e30_183, e30_184, e30_186, e30_187, e30_189, e30_190, e30_193, e30_194, e30_197, e30_199, e30_200, e30_201, e30_202, e30_204, e30_207, e30_210, e30_213, e30_216, e30_222, e30_225, psh0, psh1, psh3, true_or, or_true, eq_self, Option.bind_some, List.length_nil, List.length_cons, Nat.reduceAdd, Nat.reduceLeDiff, Nat.zero_le, ↓reduceIte, Int.reduceLT, Int.reduceEq, Int.reduceLE, Int.reduceNeg, Int.reduceAdd, Int.reduceMul, Int.reduceSub, ne_eq, not_true_eq_false, not_false_eq_true, and_true, true_and, and_false, false_and, c3lt, c3gt, c3eq, Bool.false_eq_true, isK_wr, inA_wr, inR_wr, w1]
theorem mk_i1 {nc : Nat} (hx : HX h0 s nc) (l5 l6 : AV) (n : Nat) : ∀ (i : Nat) (h : AM), i + n = nc → FPX h0 h → (∀ k : Int, 0 ≤ k → k < i → mrd h 160 k = 0 ∧ mrd h 153 k = 0 ∧ mrd h 154 k = 0) → mrd h 152 3 = 0 → mrd h 152 6 = nc → ∃ h', EV (d + 2) 30 18 [(2, 152), (2, s), (2, 1), (0, su i (PDh h0).1), (0, (i : Int)), l5, l6] [] h = EV (d + 2) 30 81 [(2, 152), (2, s), (2, 1), (0, su nc (PDh h0).1), (0, (nc : Int)), l5, l6] [] h' ∧ FPX h0 h' ∧ (∀ k : Int, 0 ≤ k → k < nc → mrd h' 160 k = 0 ∧ mrd h' 153 k = 0 ∧ mrd h' 154 k = 0) ∧ mrd h' 152 3 = 0 ∧ mrd h' 152 6 = nc := by
  have hv := HX_PV hx
  obtain ⟨⟨hp0, hr0, hs, e7, n4⟩, hk⟩ := hx
  induction n with
  | zero =>
    intro i h hi hf hz h3 h6
    have e : i = nc := by omega
    subst e
    obtain ⟨hp, hr⟩ := FPX_sh hf ⟨hp0, hr0⟩
    refine ⟨h, ?_, hf, hz, h3, h6⟩
    rw [e30_18]
    simp only [e30_0, e30_1, e30_2, e30_5, e30_8, e30_9, e30_10, e30_13, e30_14, e30_15, e30_16, e30_20, e30_21, e30_24, e30_27, e30_28, e30_31, e30_33, e30_34, e30_35, e30_36, e30_39, e30_41, e30_42, e30_43, e30_44, e30_47, e30_49, e30_50, e30_51, e30_52, e30_53, e30_55, e30_56, e30_59, e30_62, e30_63, e30_65, e30_66, e30_69, e30_72, e30_73, e30_74, e30_75, e30_78, e30_82, e30_84, e30_86, e30_87, e30_90, e30_91, e30_94, e30_96, e30_97, e30_98, e30_101, e30_104, e30_105, e30_107, e30_109, e30_112, e30_115, e30_116, e30_119, e30_120, e30_122, e30_124, e30_125, e30_128, e30_131, e30_132, e30_134, e30_135, e30_138, e30_141, e30_142, e30_145, e30_147, e30_148, e30_149, e30_151, e30_152, e30_155, e30_158, e30_159, e30_162, e30_164, e30_165, e30_167, e30_170, e30_171, e30_174, e30_175, e30_177, e30_179, e30_182, e30_183, e30_184, e30_186, e30_187, e30_189, e30_190, e30_193, e30_194, e30_197, e30_199, e30_200, e30_201, e30_202, e30_204, e30_207, e30_210, e30_213, e30_216, e30_219, e30_222, e30_225, psh0, psh1, psh3, true_or, or_true, eq_self, Option.bind_some, List.length_nil, List.length_cons, Nat.reduceAdd, Nat.reduceLeDiff, Nat.zero_le, ↓reduceIte, Int.reduceLT, Int.reduceEq, Int.reduceLE, Int.reduceNeg, Int.reduceAdd, Int.reduceMul, Int.reduceSub, ne_eq, not_true_eq_false, not_false_eq_true, and_true, true_and, and_false, false_and, c3lt, c3gt, c3eq, Bool.false_eq_true, isK_wr, inA_wr, inR_wr, kn_152 hp, h6, Int.lt_irrefl]
  | succ n ih =>
    intro i h hi hf hz h3 h6
    obtain ⟨hp, hr⟩ := FPX_sh hf ⟨hp0, hr0⟩
    have i0 : (0 : Int) ≤ i := by omega
    have i1 : (i : Int) < nc := by omega
    have i4 : (i : Int) < 4 := by omega
    obtain ⟨t, n12, gf, lk⟩ := hk i i0 i1
    obtain ⟨⟨p1, p2, p3, p4, p5, p6⟩, a1, a2, a3, a4, a5, a6, a7, a8⟩ := pl_K hp hr i0 i4
    obtain ⟨q1, q2, q3, q4, q5, q6⟩ := CT_of hp hr i0 i4
    have w1 : w32 ((i : Int) + 1) = ((i + 1 : Nat) : Int) := by rw [w32_id (by omega) (by omega)]; omega
    have et1 : mrd h (2 + 2 * (i : Int)) 1 = mrd h0 (2 + 2 * (i : Int)) 1 := hf.2.1 _ _ (by omega)
    have et3 : mrd h (2 + 2 * (i : Int)) 3 = mrd h0 (2 + 2 * (i : Int)) 3 := hf.2.1 _ _ (by omega)
    obtain ⟨x, hx⟩ : ∃ x, x = su i (PDh h0).1 := ⟨_, rfl⟩
    have bx : 0 ≤ x ∧ x ≤ 48 := by
      rw [hx]
      refine ⟨su_nn i (fun j j0 j1 => (hv j j0 (by omega)).1.1), ?_⟩
      have := su_le (f := (PDh h0).1) (g := fun _ => 12) i (fun j j0 j1 => (hv j j0 (by omega)).1.2)
      rw [su_k] at this
      omega
    have en : su (i + 1) (PDh h0).1 = x + (PN h0 i : Int) := by rw [su, hx]; rfl
    have w2 : w32 (x + (PN h0 i : Int)) = su (i + 1) (PDh h0).1 := by rw [en]; exact w32_id (by omega) (by omega)
    obtain ⟨h', g1, g2⟩ := ih (i + 1) (mwr (mwr (mwr h 153 i 0) 154 i 0) 160 i 0) (by omega) (FPX_wr (FPX_wr (FPX_wr hf (by omega) (by omega) (by omega)) (by omega) (by omega) (by omega)) (by omega) (by omega) (by omega)) (fun k k0 k1 => by
      by_cases c : k = i
      · rw [c]
        simp [rd_wr]
      · have := hz k k0 (by omega)
        rw [rdn2 c, rdn2 c, rdn2 c, rdn2 c, rdn2 c, rdn2 c, rdn2 c, rdn2 c, rdn2 c]
        exact this) (by rw [rdn1 (by decide), rdn1 (by decide), rdn1 (by decide)]; exact h3) (by rw [rdn1 (by decide), rdn1 (by decide), rdn1 (by decide)]; exact h6)
    refine ⟨h', ?_, g2⟩
    rw [← g1, e30_18, ← hx]
    have z1 : ∀ k : Int, 0 ≤ k → k < 4 → (2 + 2 * k = 153) = False ∧ (2 + 2 * k = 154) = False ∧ (2 + 2 * k = 160) = False := fun k _ _ => ⟨eq_false (by omega), eq_false (by omega), eq_false (by omega)⟩
    obtain ⟨z1, z2, z3⟩ := z1 i i0 i4
    rcases t with ⟨t1, t2⟩ | ⟨t1, t2, t3⟩
    · have wz : w32 (x + 0) = su (i + 1) (PDh h0).1 := by rw [en, t2]; exact w32_id (by omega) (by omega)
      simp only [e30_0, e30_1, e30_2, e30_5, e30_8, e30_9, e30_10, e30_13, e30_14, e30_15, e30_16, e30_20, e30_21, e30_24, e30_27, e30_28, e30_31, e30_33, e30_34, e30_35, e30_36, e30_39, e30_41, e30_42, e30_43, e30_44, e30_47, e30_49, e30_50, e30_51, e30_52, e30_53, e30_55, e30_56, e30_59, e30_62, e30_63, e30_65, e30_66, e30_69, e30_72, e30_73, e30_74, e30_75, e30_78, e30_82, e30_84, e30_86, e30_87, e30_90, e30_91, e30_94, e30_96, e30_97, e30_98, e30_101, e30_104, e30_105, e30_107, e30_109, e30_112, e30_115, e30_116, e30_119, e30_120, e30_122, e30_124, e30_125, e30_128, e30_131, e30_132, e30_134, e30_135, e30_138, e30_141, e30_142, e30_145, e30_147, e30_148, e30_149, e30_151, e30_152, e30_155, e30_158, e30_159, e30_162, e30_164, e30_165, e30_167, e30_170, e30_171, e30_174, e30_175, e30_177, e30_179, e30_182, e30_183, e30_184, e30_186, e30_187, e30_189, e30_190, e30_193, e30_194, e30_197, e30_199, e30_200, e30_201, e30_202, e30_204, e30_207, e30_210, e30_213, e30_216, e30_219, e30_222, e30_225, psh0, psh1, psh3, true_or, or_true, eq_self, Option.bind_some, List.length_nil, List.length_cons, Nat.reduceAdd, Nat.reduceLeDiff, Nat.zero_le, ↓reduceIte, Int.reduceLT, Int.reduceEq, Int.reduceLE, Int.reduceNeg, Int.reduceAdd, Int.reduceMul, Int.reduceSub, ne_eq, not_true_eq_false, not_false_eq_true, and_true, true_and, and_false, false_and, c3lt, c3gt, c3eq, Bool.false_eq_true, isK_wr, inA_wr, inR_wr, p1, p2, p3, p5, h6, i1, a1, a2, a3, rd_wr, q1, q2, q3, z1, z2, z3, et1, t1, wz, w1]
    · simp only [e30_0, e30_1, e30_2, e30_5, e30_8, e30_9, e30_10, e30_13, e30_14, e30_15, e30_16, e30_20, e30_21, e30_24, e30_27, e30_28, e30_31, e30_33, e30_34, e30_35, e30_36, e30_39, e30_41, e30_42, e30_43, e30_44, e30_47, e30_49, e30_50, e30_51, e30_52, e30_53, e30_55, e30_56, e30_59, e30_62, e30_63, e30_65, e30_66, e30_69, e30_72, e30_73, e30_74, e30_75, e30_78, e30_82, e30_84, e30_86, e30_87, e30_90, e30_91, e30_94, e30_96, e30_97, e30_98, e30_101, e30_104, e30_105, e30_107, e30_109, e30_112, e30_115, e30_116, e30_119, e30_120, e30_122, e30_124, e30_125, e30_128, e30_131, e30_132, e30_134, e30_135, e30_138, e30_141, e30_142, e30_145, e30_147, e30_148, e30_149, e30_151, e30_152, e30_155, e30_158, e30_159, e30_162, e30_164, e30_165, e30_167, e30_170, e30_171, e30_174, e30_175, e30_177, e30_179, e30_182, e30_183, e30_184, e30_186, e30_187, e30_189, e30_190, e30_193, e30_194, e30_197, e30_199, e30_200, e30_201, e30_202, e30_204, e30_207, e30_210, e30_213, e30_216, e30_219, e30_222, e30_225, psh0, psh1, psh3, true_or, or_true, eq_self, Option.bind_some, List.length_nil, List.length_cons, Nat.reduceAdd, Nat.reduceLeDiff, Nat.zero_le, ↓reduceIte, Int.reduceLT, Int.reduceEq, Int.reduceLE, Int.reduceNeg, Int.reduceAdd, Int.reduceMul, Int.reduceSub, ne_eq, not_true_eq_false, not_false_eq_true, and_true, true_and, and_false, false_and, c3lt, c3gt, c3eq, Bool.false_eq_true, isK_wr, inA_wr, inR_wr, p1, p2, p3, p5, h6, i1, a1, a2, a3, rd_wr, q1, q2, q3, z1, z2, z3, et1, t1, et3, t2, w2, w1]
theorem mk_i2 {nc : Nat} (hx : HX h0 s nc) (v : Int) (l5 l6 : AV) (n : Nat) : ∀ (i : Nat) (h : AM), i + n = 4 → FPX h0 h → (∀ k : Int, 0 ≤ k → k < nc → mrd h 160 k = 0 ∧ mrd h 153 k = 0 ∧ mrd h 154 k = 0) → mrd h 152 3 = 0 → mrd h 152 6 = nc → (∀ m : Int, 0 ≤ m → m < i → mrd h 161 m = 0) → ∃ h', EV (d + 2) 30 84 [(2, 152), (2, s), (2, 1), (0, v), (0, (i : Int)), l5, l6] [] h = EV (d + 2) 30 107 [(2, 152), (2, s), (2, 1), (0, v), (0, 0), l5, l6] [] h' ∧ FPX h0 h' ∧ (∀ k : Int, 0 ≤ k → k < nc → mrd h' 160 k = 0 ∧ mrd h' 153 k = 0 ∧ mrd h' 154 k = 0) ∧ mrd h' 152 3 = 0 ∧ mrd h' 152 6 = nc ∧ ∀ m : Int, 0 ≤ m → m < 4 → mrd h' 161 m = 0 := by
  obtain ⟨⟨hp0, hr0, hs, e7, n4⟩, hk⟩ := hx
  induction n with
  | zero =>
    intro i h hi hf hz h3 h6 hm
    have e : i = 4 := by omega
    subst e
    refine ⟨h, ?_, hf, hz, h3, h6, hm⟩
    rw [e30_84]
    simp only [e30_0, e30_1, e30_2, e30_5, e30_8, e30_9, e30_10, e30_13, e30_14, e30_15, e30_16, e30_18, e30_20, e30_21, e30_24, e30_27, e30_28, e30_31, e30_33, e30_34, e30_35, e30_36, e30_39, e30_41, e30_42, e30_43, e30_44, e30_47, e30_49, e30_50, e30_51, e30_52, e30_53, e30_55, e30_56, e30_59, e30_62, e30_63, e30_65, e30_66, e30_69, e30_72, e30_73, e30_74, e30_75, e30_78, e30_81, e30_82, e30_86, e30_87, e30_90, e30_91, e30_94, e30_96, e30_97, e30_98, e30_101, e30_104, e30_105, e30_109, e30_112, e30_115, e30_116, e30_119, e30_120, e30_122, e30_124, e30_125, e30_128, e30_131, e30_132, e30_134, e30_135, e30_138, e30_141, e30_142, e30_145, e30_147, e30_148, e30_149, e30_151, e30_152, e30_155, e30_158, e30_159, e30_162, e30_164, e30_165, e30_167, e30_170, e30_171, e30_174, e30_175, e30_177, e30_179, e30_182, e30_183, e30_184, e30_186, e30_187, e30_189, e30_190, e30_193, e30_194, e30_197, e30_199, e30_200, e30_201, e30_202, e30_204, e30_207, e30_210, e30_213, e30_216, e30_219, e30_222, e30_225, psh0, psh1, psh3, true_or, or_true, eq_self, Option.bind_some, List.length_nil, List.length_cons, Nat.reduceAdd, Nat.reduceLeDiff, Nat.zero_le, ↓reduceIte, Int.reduceLT, Int.reduceEq, Int.reduceLE, Int.reduceNeg, Int.reduceAdd, Int.reduceMul, Int.reduceSub, ne_eq, not_true_eq_false, not_false_eq_true, and_true, true_and, and_false, false_and, c3lt, c3gt, c3eq, Bool.false_eq_true, isK_wr, inA_wr, inR_wr]
    rfl
  | succ n ih =>
    intro i h hi hf hz h3 h6 hm
    obtain ⟨hp, hr⟩ := FPX_sh hf ⟨hp0, hr0⟩
    have i0 : (0 : Int) ≤ i := by omega
    have i4 : (i : Int) < 4 := by omega
    obtain ⟨⟨p1, p2, p3, p4, p5, p6⟩, a1, a2, a3, a4, a5, a6, a7, a8⟩ := pl_K hp hr i0 i4
    have w1 : w32 ((i : Int) + 1) = ((i + 1 : Nat) : Int) := by rw [w32_id (by omega) (by omega)]; omega
    obtain ⟨h', g1, g2⟩ := ih (i + 1) (mwr h 161 i 0) (by omega) (FPX_wr hf (by omega) (by omega) (by omega)) (fun k k0 k1 => by
      rw [rdn1 (by decide), rdn1 (by decide), rdn1 (by decide)]; exact hz k k0 k1) (by rw [rdn1 (by decide)]; exact h3) (by rw [rdn1 (by decide)]; exact h6) (fun m m0 m1 => by
      rw [rd_wr]
      split
      · rfl
      · exact hm m m0 (by omega))
    refine ⟨h', ?_, g2⟩
    rw [← g1, e30_84]
    simp only [e30_0, e30_1, e30_2, e30_5, e30_8, e30_9, e30_10, e30_13, e30_14, e30_15, e30_16, e30_18, e30_20, e30_21, e30_24, e30_27, e30_28, e30_31, e30_33, e30_34, e30_35, e30_36, e30_39, e30_41, e30_42, e30_43, e30_44, e30_47, e30_49, e30_50, e30_51, e30_52, e30_53, e30_55, e30_56, e30_59, e30_62, e30_63, e30_65, e30_66, e30_69, e30_72, e30_73, e30_74, e30_75, e30_78, e30_81, e30_82, e30_86, e30_87, e30_90, e30_91, e30_94, e30_96, e30_97, e30_98, e30_101, e30_104, e30_105, e30_109, e30_112, e30_115, e30_116, e30_119, e30_120, e30_122, e30_124, e30_125, e30_128, e30_131, e30_132, e30_134, e30_135, e30_138, e30_141, e30_142, e30_145, e30_147, e30_148, e30_149, e30_151, e30_152, e30_155, e30_158, e30_159, e30_162, e30_164, e30_165, e30_167, e30_170, e30_171, e30_174, e30_175, e30_177, e30_179, e30_182, e30_183, e30_184, e30_186, e30_187, e30_189, e30_190, e30_193, e30_194, e30_197, e30_199, e30_200, e30_201, e30_202, e30_204, e30_207, e30_210, e30_213, e30_216, e30_219, e30_222, e30_225, psh0, psh1, psh3, true_or, or_true, eq_self, Option.bind_some, List.length_nil, List.length_cons, Nat.reduceAdd, Nat.reduceLeDiff, Nat.zero_le, ↓reduceIte, Int.reduceLT, Int.reduceEq, Int.reduceLE, Int.reduceNeg, Int.reduceAdd, Int.reduceMul, Int.reduceSub, ne_eq, not_true_eq_false, not_false_eq_true, and_true, true_and, and_false, false_and, c3lt, c3gt, c3eq, Bool.false_eq_true, isK_wr, inA_wr, inR_wr, i4, p1, p6, a4, w1]
theorem x_make {nc N : Nat} (hx : HX h0 s nc) (hN : N ≤ 1411) (hz : su nc (lf (PDh h0) (pR (PDh h0) nc N)) = 0) (hpos : ∀ i : Nat, i < N → 0 < su nc (lf (PDh h0) (pR (PDh h0) nc i))) : ∃ h', EV (d + 2) 30 0 [(2, 152), (2, s), (2, 1), (3, 0), (3, 0), (3, 0), (3, 0)] [] h0 = some ((3, 0), h') ∧ RPX nc (pR (PDh h0) nc N) h' ∧ FPX h0 h' := by
  obtain ⟨⟨hp0, hr0, hs, e7, n4⟩, hk⟩ := id hx
  have k152 := kn_152 hp0
  have ks : isK h0 s 6 := (CS_of hp0 hr0 (S6_cur hs)).1
  have hf0 : FPX h0 (mwr (mwr h0 152 6 nc) 152 3 0) := FPX_wr (FPX_wr ⟨rfl, fun _ _ _ => rfl, fun _ => rfl, fun _ _ _ => rfl⟩ (by omega) (by omega) (by omega)) (by omega) (by omega) (by omega)
  obtain ⟨h1, a1, a2, a3, a4, a5⟩ := mk_i1 (d := d) hx (3, 0) (3, 0) nc 0 _ (by omega) hf0 (fun k k0 k1 => by omega) rde (by rw [rdn2 (by decide), rde])
  obtain ⟨h2, b1, b2, b3, b4, b5, b6⟩ := mk_i2 (d := d) hx (su nc (PDh h0).1) (3, 0) (3, 0) 4 0 h1 (by omega) a2 a3 a4 a5 (fun m m0 m1 => by omega)
  have hR : RPX nc (pR (PDh h0) nc 0) h2 := by
    refine ⟨fun k k0 k1 => ?_, b6, ?_, b5⟩
    · obtain ⟨x1, x2, x3⟩ := b3 k k0 k1
      exact ⟨x1, x2, x3, fun j j0 j1 => absurd (show j < 0 from j1) (by omega)⟩
    · rw [b4]; exact (dn_0 nc).symm
  obtain ⟨h3, c1, c2⟩ := mk_out (d := d) hx hN hz hpos N 0 h2 (3, 0) (3, 0) (by omega) hR b2
  refine ⟨h3, ?_, c2⟩
  have es : su nc (lf (PDh h0) (pR (PDh h0) nc 0)) = su nc (PDh h0).1 := su_congr nc (fun i _ _ => by
    show (PDh h0).1 i - 0 = (PDh h0).1 i
    omega)
  rw [es] at c1
  have a1 : EV (d + 2) 30 18 [(2, 152), (2, s), (2, 1), (0, 0), (0, 0), (3, 0), (3, 0)] [] (mwr (mwr h0 152 6 nc) 152 3 0) = _ := a1
  have b1 : EV (d + 2) 30 84 [(2, 152), (2, s), (2, 1), (0, su nc (PDh h0).1), (0, 0), (3, 0), (3, 0)] [] h1 = _ := b1
  have c1 : EV (d + 2) 30 107 [(2, 152), (2, s), (2, 1), (0, su nc (PDh h0).1), (0, 0), (3, 0), (3, 0)] [] h2 = _ := c1
  simp only [e30_0, e30_1, e30_2, e30_5, e30_8, e30_9, e30_10, e30_13, e30_14, e30_15, e30_16, e30_20, e30_21, e30_24, e30_27, e30_28, e30_31, e30_33, e30_34, e30_35, e30_36, e30_39, e30_41, e30_42, e30_43, e30_44, e30_47, e30_49, e30_50, e30_51, e30_52, e30_53, e30_55, e30_56, e30_59, e30_62, e30_63, e30_65, e30_66, e30_69, e30_72, e30_73, e30_74, e30_75, e30_78, e30_82, e30_86, e30_87, e30_90, e30_91, e30_94, e30_96, e30_97, e30_98, e30_101, e30_104, e30_105, e30_109, e30_112, e30_115, e30_116, e30_119, e30_120, e30_124, e30_125, e30_128, e30_131, e30_132, e30_134, e30_135, e30_138, e30_141, e30_142, e30_145, e30_147, e30_148, e30_149, e30_151, e30_152, e30_155, e30_158, e30_159, e30_162, e30_164, e30_165, e30_167, e30_170, e30_171, e30_174, e30_175, e30_177, e30_179, e30_182, e30_183, e30_184, e30_186, e30_187, e30_189, e30_190, e30_193, e30_194, e30_197, e30_199, e30_200, e30_201, e30_202, e30_204, e30_207, e30_210, e30_213, e30_216, e30_222, e30_225, psh0, psh1, psh3, true_or, or_true, eq_self, Option.bind_some, List.length_nil, List.length_cons, Nat.reduceAdd, Nat.reduceLeDiff, Nat.zero_le, ↓reduceIte, Int.reduceLT, Int.reduceEq, Int.reduceLE, Int.reduceNeg, Int.reduceAdd, Int.reduceMul, Int.reduceSub, ne_eq, not_true_eq_false, not_false_eq_true, and_true, true_and, and_false, false_and, c3lt, c3gt, c3eq, Bool.false_eq_true, isK_wr, inA_wr, inR_wr, k152, ks, e7]
  rw [a1, e30_81]
  simp only [e30_0, e30_1, e30_2, e30_5, e30_8, e30_9, e30_10, e30_13, e30_14, e30_15, e30_16, e30_20, e30_21, e30_24, e30_27, e30_28, e30_31, e30_33, e30_34, e30_35, e30_36, e30_39, e30_41, e30_42, e30_43, e30_44, e30_47, e30_49, e30_50, e30_51, e30_52, e30_53, e30_55, e30_56, e30_59, e30_62, e30_63, e30_65, e30_66, e30_69, e30_72, e30_73, e30_74, e30_75, e30_78, e30_82, e30_86, e30_87, e30_90, e30_91, e30_94, e30_96, e30_97, e30_98, e30_101, e30_104, e30_105, e30_109, e30_112, e30_115, e30_116, e30_119, e30_120, e30_124, e30_125, e30_128, e30_131, e30_132, e30_134, e30_135, e30_138, e30_141, e30_142, e30_145, e30_147, e30_148, e30_149, e30_151, e30_152, e30_155, e30_158, e30_159, e30_162, e30_164, e30_165, e30_167, e30_170, e30_171, e30_174, e30_175, e30_177, e30_179, e30_182, e30_183, e30_184, e30_186, e30_187, e30_189, e30_190, e30_193, e30_194, e30_197, e30_199, e30_200, e30_201, e30_202, e30_204, e30_207, e30_210, e30_213, e30_216, e30_222, e30_225, psh0, psh1, psh3, true_or, or_true, eq_self, Option.bind_some, List.length_nil, List.length_cons, Nat.reduceAdd, Nat.reduceLeDiff, Nat.zero_le, ↓reduceIte, Int.reduceLT, Int.reduceEq, Int.reduceLE, Int.reduceNeg, Int.reduceAdd, Int.reduceMul, Int.reduceSub, ne_eq, not_true_eq_false, not_false_eq_true, and_true, true_and, and_false, false_and, c3lt, c3gt, c3eq, Bool.false_eq_true, isK_wr, inA_wr, inR_wr]
  rw [b1, c1]
end

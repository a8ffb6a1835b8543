theorem mcp_0 {h : AM} {a i b j : Int} : mcp h a i b j 0 = h := by
  refine Prod.ext (funext fun c => funext fun q => ?_) rfl
  show (if c = b ∧ j ≤ q ∧ q < j + 0 then h.1 a (i + (q - j)) else h.1 c q) = _
  rw [if_neg (by omega)]
theorem rd_cp {h : AM} {a i b j n c q : Int} : mrd (mcp h a i b j n) c q = if c = b ∧ j ≤ q ∧ q < j + n then mrd h a (i + (q - j)) else mrd h c q := rfl
theorem rdc {h : AM} {a i b j n c q : Int} (hc : c ≠ b) : mrd (mcp h a i b j n) c q = mrd h c q := by rw [rd_cp, if_neg (fun z => hc z.1)]
theorem isK_cp {h : AM} {a i b j n r : Int} {c : Nat} : isK (mcp h a i b j n) r c ↔ isK h r c := Iff.rfl
theorem inA_cp {h : AM} {a i b j n r q : Int} {c : Nat} : inA (mcp h a i b j n) r c q ↔ inA h r c q := Iff.rfl
theorem CM_cpA {h : AM} {a i b j n : Int} (hn : refT.all (fun q => !(q.1 == b)) = true) (hm : CM h) : CM (mcp h a i b j n) := ⟨hm.1, hm.2.1, fun q hq => by
  have := List.all_eq_true.mp hn q hq
  rw [← hm.2.2 q hq]
  show (if q.1 = b ∧ j ≤ q.2.1 ∧ q.2.1 < j + n then h.1 a (i + (q.2.1 - j)) else h.1 q.1 q.2.1) = _
  rw [if_neg]
  rintro ⟨z1, z2⟩
  simp [z1] at this⟩
/-- forward: one cell more -/
theorem mcp_f {h : AM} {r S D n : Int} (hn : 0 ≤ n) (hs : ¬ (D ≤ S + n ∧ S + n < D + n)) : mwr (mcp h r S r D n) r (D + n) (mrd (mcp h r S r D n) r (S + n)) = mcp h r S r D (n + 1) := by
  refine Prod.ext (funext fun b => funext fun j => ?_) rfl
  show (if b = r ∧ j = D + n then mrd (mcp h r S r D n) r (S + n) else if b = r ∧ D ≤ j ∧ j < D + n then h.1 r (S + (j - D)) else h.1 b j) = if b = r ∧ D ≤ j ∧ j < D + (n + 1) then h.1 r (S + (j - D)) else h.1 b j
  by_cases c : b = r ∧ j = D + n
  · rw [if_pos c, if_pos (by omega), rd_cp, if_neg (fun z => hs z.2), c.2]
    show h.1 r (S + n) = _
    rw [show D + n - D = n by omega]
  · rw [if_neg c]
    by_cases c2 : b = r ∧ D ≤ j ∧ j < D + n
    · rw [if_pos c2, if_pos (by omega)]
    · rw [if_neg c2, if_neg (by omega)]
/-- backward: one cell more -/
theorem mcp_b {h : AM} {r S D n : Int} (hn : 0 ≤ n) (hs : ¬ (D + 1 ≤ S ∧ S < D + 1 + n)) : mwr (mcp h r (S + 1) r (D + 1) n) r D (mrd (mcp h r (S + 1) r (D + 1) n) r S) = mcp h r S r D (n + 1) := by
  refine Prod.ext (funext fun b => funext fun j => ?_) rfl
  show (if b = r ∧ j = D then mrd (mcp h r (S + 1) r (D + 1) n) r S else if b = r ∧ D + 1 ≤ j ∧ j < D + 1 + n then h.1 r (S + 1 + (j - (D + 1))) else h.1 b j) = if b = r ∧ D ≤ j ∧ j < D + (n + 1) then h.1 r (S + (j - D)) else h.1 b j
  by_cases c : b = r ∧ j = D
  · rw [if_pos c, if_pos (by omega), rd_cp, if_neg (fun z => hs z.2), c.2]
    show h.1 r S = _
    rw [show D - D = 0 by omega, Int.add_zero]
  · rw [if_neg c]
    by_cases c2 : b = r ∧ D + 1 ≤ j ∧ j < D + 1 + n
    · rw [if_pos c2, if_pos (by omega), show S + 1 + (j - (D + 1)) = S + (j - D) by omega]
    · rw [if_neg c2, if_neg (by omega)]
section
variable {d : Nat} {h : AM} {s a b c k p t u i j v w x y z : Int}
theorem m_pour_f (hm : CM h) (t0 : 0 ≤ t) (t1 : t < 4) (u0 : 0 ≤ u) (u1 : u < 4) (i0 : 0 ≤ i) (j0 : 0 ≤ j) (M : Nat) (hi : i + M ≤ 60) (hj : j + M ≤ 60) (hd : j ≤ i ∨ t ≠ u) (n : Nat) : ∀ (q : Nat) (l8 : AV), q + n = M → EV d 185 158 [(2, 235), (0, t), (0, i), (0, u), (0, j), (0, (M : Int)), (0, 0), (0, (q : Int)), l8] [] (mcp h 238 (60 * t + i) 238 (60 * u + j) q) = some ((0, 1), mcp h 238 (60 * t + i) 238 (60 * u + j) M) := by
  have m6 : mrd h 235 6 = 238 := rf_235_6 hm.2.2
  have w1 : w32 (60 * t) = 60 * t := w32_id (by omega) (by omega)
  have w2 : w32 (60 * u) = 60 * u := w32_id (by omega) (by omega)
  have w3 : w32 (60 * t + i) = 60 * t + i := w32_id (by omega) (by omega)
  have w4 : w32 (60 * u + j) = 60 * u + j := w32_id (by omega) (by omega)
  induction n with
  | zero =>
    intro q l8 hq
    have e : q = M := by omega
    subst e
    rw [e185_158]
    simp only [e185_0, e185_1, e185_2, e185_5, e185_6, e185_7, e185_10, e185_11, e185_14, e185_15, e185_16, e185_19, e185_20, e185_23, e185_24, e185_25, e185_28, e185_29, e185_30, e185_33, e185_34, e185_35, e185_38, e185_39, e185_40, e185_43, e185_44, e185_47, e185_48, e185_49, e185_52, e185_53, e185_54, e185_57, e185_58, e185_59, e185_62, e185_63, e185_64, e185_65, e185_68, e185_69, e185_70, e185_73, e185_74, e185_76, e185_79, e185_80, e185_82, e185_85, e185_86, e185_88, e185_91, e185_92, e185_93, e185_96, e185_98, e185_101, e185_102, e185_103, e185_105, e185_106, e185_107, e185_108, e185_111, e185_112, e185_113, e185_114, e185_115, e185_118, e185_120, e185_121, e185_123, e185_124, e185_125, e185_126, e185_129, e185_130, e185_131, e185_132, e185_133, e185_136, e185_137, e185_138, e185_141, e185_142, e185_143, e185_145, e185_148, e185_149, e185_152, e185_153, e185_155, e185_156, e185_160, e185_162, e185_165, e185_167, e185_170, e185_172, e185_173, e185_174, e185_176, e185_177, e185_180, e185_182, e185_184, e185_185, e185_188, e185_190, e185_191, e185_192, e185_194, e185_195, e185_197, e185_198, e185_199, e185_202, e185_204, e185_205, e185_206, e185_207, e185_208, e185_210, e185_211, e185_212, e185_213, e185_216, e185_219, e185_220, psh0, psh1, psh3, true_or, or_true, eq_self, Option.bind_some, List.length_nil, List.length_cons, Nat.reduceAdd, Nat.reduceLeDiff, Nat.zero_le, ↓reduceIte, Int.reduceLT, Int.reduceEq, Int.reduceLE, Int.reduceNeg, Int.reduceAdd, Int.reduceMul, Int.reduceSub, ne_eq, not_true_eq_false, not_false_eq_true, and_true, true_and, and_false, false_and, c3lt, c3gt, c3eq, Bool.false_eq_true, isK_wr, inA_wr, inR_wr, Int.lt_irrefl]
  | succ n ih =>
    intro q l8 hq
    have c : (q : Int) < M := by omega
    have w5 : w32 ((q : Int) + 1) = ((q + 1 : Nat) : Int) := by rw [w32_id (by omega) (by omega)]; omega
    have w6 : w32 (60 * t + i + q) = 60 * t + i + q := w32_id (by omega) (by omega)
    have w7 : w32 (60 * u + j + q) = 60 * u + j + q := w32_id (by omega) (by omega)
    have k1 : inA h 238 19 (60 * t + i + q) := ⟨kn_238 hm.2.1, by omega, by rw [ln_238 hm.2.1]; omega⟩
    have k2 : inA h 238 19 (60 * u + j + q) := ⟨kn_238 hm.2.1, by omega, by rw [ln_238 hm.2.1]; omega⟩
    have e := mcp_f (h := h) (r := 238) (S := 60 * t + i) (D := 60 * u + j) (n := q) (by omega) (by omega)
    rw [e185_158]
    simp only [e185_0, e185_1, e185_2, e185_5, e185_6, e185_7, e185_10, e185_11, e185_14, e185_15, e185_16, e185_19, e185_20, e185_23, e185_24, e185_25, e185_28, e185_29, e185_30, e185_33, e185_34, e185_35, e185_38, e185_39, e185_40, e185_43, e185_44, e185_47, e185_48, e185_49, e185_52, e185_53, e185_54, e185_57, e185_58, e185_59, e185_62, e185_63, e185_64, e185_65, e185_68, e185_69, e185_70, e185_73, e185_74, e185_76, e185_79, e185_80, e185_82, e185_85, e185_86, e185_88, e185_91, e185_92, e185_93, e185_96, e185_98, e185_101, e185_102, e185_103, e185_105, e185_106, e185_107, e185_108, e185_111, e185_112, e185_113, e185_114, e185_115, e185_118, e185_120, e185_121, e185_123, e185_124, e185_125, e185_126, e185_129, e185_130, e185_131, e185_132, e185_133, e185_136, e185_137, e185_138, e185_141, e185_142, e185_143, e185_145, e185_148, e185_149, e185_152, e185_153, e185_155, e185_156, e185_160, e185_162, e185_165, e185_167, e185_170, e185_172, e185_173, e185_174, e185_176, e185_177, e185_180, e185_182, e185_184, e185_185, e185_188, e185_190, e185_191, e185_192, e185_194, e185_195, e185_197, e185_198, e185_199, e185_202, e185_204, e185_205, e185_206, e185_207, e185_208, e185_210, e185_211, e185_212, e185_213, e185_216, e185_219, e185_220, psh0, psh1, psh3, true_or, or_true, eq_self, Option.bind_some, List.length_nil, List.length_cons, Nat.reduceAdd, Nat.reduceLeDiff, Nat.zero_le, ↓reduceIte, Int.reduceLT, Int.reduceEq, Int.reduceLE, Int.reduceNeg, Int.reduceAdd, Int.reduceMul, Int.reduceSub, ne_eq, not_true_eq_false, not_false_eq_true, and_true, true_and, and_false, false_and, c3lt, c3gt, c3eq, Bool.false_eq_true, isK_wr, inA_wr, inR_wr, c, isK_cp, inA_cp, hm.1, rdc, m6, w1, w2, w3, w4, w5, w6, w7, k1, k2, e]
    exact ih (q + 1) _ (by omega)
theorem m_pour_b (hm : CM h) (t0 : 0 ≤ t) (t1 : t < 4) (u0 : 0 ≤ u) (u1 : u < 4) (i0 : 0 ≤ i) (j0 : 0 ≤ j) (M : Nat) (hi : i + M ≤ 60) (hj : j + M ≤ 60) (hd : i < j) (n : Nat) : ∀ (q : Nat) (l8 : AV), q + n = M → EV d 185 158 [(2, 235), (0, t), (0, i), (0, u), (0, j), (0, (M : Int)), (0, 1), (0, (q : Int)), l8] [] (mcp h 238 (60 * t + i + n) 238 (60 * u + j + n) q) = some ((0, 1), mcp h 238 (60 * t + i) 238 (60 * u + j) M) := by
  have m6 : mrd h 235 6 = 238 := rf_235_6 hm.2.2
  have w1 : w32 (60 * t) = 60 * t := w32_id (by omega) (by omega)
  have w2 : w32 (60 * u) = 60 * u := w32_id (by omega) (by omega)
  have w3 : w32 (60 * t + i) = 60 * t + i := w32_id (by omega) (by omega)
  have w4 : w32 (60 * u + j) = 60 * u + j := w32_id (by omega) (by omega)
  have w8 : w32 ((M : Int) - 1) = (M : Int) - 1 := w32_id (by omega) (by omega)
  induction n with
  | zero =>
    intro q l8 hq
    have e : q = M := by omega
    subst e
    rw [e185_158]
    simp only [e185_0, e185_1, e185_2, e185_5, e185_6, e185_7, e185_10, e185_11, e185_14, e185_15, e185_16, e185_19, e185_20, e185_23, e185_24, e185_25, e185_28, e185_29, e185_30, e185_33, e185_34, e185_35, e185_38, e185_39, e185_40, e185_43, e185_44, e185_47, e185_48, e185_49, e185_52, e185_53, e185_54, e185_57, e185_58, e185_59, e185_62, e185_63, e185_64, e185_65, e185_68, e185_69, e185_70, e185_73, e185_74, e185_76, e185_79, e185_80, e185_82, e185_85, e185_86, e185_88, e185_91, e185_92, e185_93, e185_96, e185_98, e185_101, e185_102, e185_103, e185_105, e185_106, e185_107, e185_108, e185_111, e185_112, e185_113, e185_114, e185_115, e185_118, e185_120, e185_121, e185_123, e185_124, e185_125, e185_126, e185_129, e185_130, e185_131, e185_132, e185_133, e185_136, e185_137, e185_138, e185_141, e185_142, e185_143, e185_145, e185_148, e185_149, e185_152, e185_153, e185_155, e185_156, e185_160, e185_162, e185_165, e185_167, e185_170, e185_172, e185_173, e185_174, e185_176, e185_177, e185_180, e185_182, e185_184, e185_185, e185_188, e185_190, e185_191, e185_192, e185_194, e185_195, e185_197, e185_198, e185_199, e185_202, e185_204, e185_205, e185_206, e185_207, e185_208, e185_210, e185_211, e185_212, e185_213, e185_216, e185_219, e185_220, psh0, psh1, psh3, true_or, or_true, eq_self, Option.bind_some, List.length_nil, List.length_cons, Nat.reduceAdd, Nat.reduceLeDiff, Nat.zero_le, ↓reduceIte, Int.reduceLT, Int.reduceEq, Int.reduceLE, Int.reduceNeg, Int.reduceAdd, Int.reduceMul, Int.reduceSub, ne_eq, not_true_eq_false, not_false_eq_true, and_true, true_and, and_false, false_and, c3lt, c3gt, c3eq, Bool.false_eq_true, isK_wr, inA_wr, inR_wr, Int.lt_irrefl, Int.natCast_zero, Int.add_zero]
  | succ n ih =>
    intro q l8 hq
    have c : (q : Int) < M := by omega
    have w5 : w32 ((q : Int) + 1) = ((q + 1 : Nat) : Int) := by rw [w32_id (by omega) (by omega)]; omega
    have w9 : w32 ((M : Int) - 1 - q) = n := by rw [w32_id (by omega) (by omega)]; omega
    have w6 : w32 (60 * t + i + n) = 60 * t + i + n := w32_id (by omega) (by omega)
    have w7 : w32 (60 * u + j + n) = 60 * u + j + n := w32_id (by omega) (by omega)
    have k1 : inA h 238 19 (60 * t + i + n) := ⟨kn_238 hm.2.1, by omega, by rw [ln_238 hm.2.1]; omega⟩
    have k2 : inA h 238 19 (60 * u + j + n) := ⟨kn_238 hm.2.1, by omega, by rw [ln_238 hm.2.1]; omega⟩
    have e := mcp_b (h := h) (r := 238) (S := 60 * t + i + n) (D := 60 * u + j + n) (n := q) (by omega) (by omega)
    have c1 : 60 * t + i + ((n + 1 : Nat) : Int) = 60 * t + i + n + 1 := by omega
    have c2 : 60 * u + j + ((n + 1 : Nat) : Int) = 60 * u + j + n + 1 := by omega
    rw [e185_158, c1, c2]
    simp only [e185_0, e185_1, e185_2, e185_5, e185_6, e185_7, e185_10, e185_11, e185_14, e185_15, e185_16, e185_19, e185_20, e185_23, e185_24, e185_25, e185_28, e185_29, e185_30, e185_33, e185_34, e185_35, e185_38, e185_39, e185_40, e185_43, e185_44, e185_47, e185_48, e185_49, e185_52, e185_53, e185_54, e185_57, e185_58, e185_59, e185_62, e185_63, e185_64, e185_65, e185_68, e185_69, e185_70, e185_73, e185_74, e185_76, e185_79, e185_80, e185_82, e185_85, e185_86, e185_88, e185_91, e185_92, e185_93, e185_96, e185_98, e185_101, e185_102, e185_103, e185_105, e185_106, e185_107, e185_108, e185_111, e185_112, e185_113, e185_114, e185_115, e185_118, e185_120, e185_121, e185_123, e185_124, e185_125, e185_126, e185_129, e185_130, e185_131, e185_132, e185_133, e185_136, e185_137, e185_138, e185_141, e185_142, e185_143, e185_145, e185_148, e185_149, e185_152, e185_153, e185_155, e185_156, e185_160, e185_162, e185_165, e185_167, e185_170, e185_172, e185_173, e185_174, e185_176, e185_177, e185_180, e185_182, e185_184, e185_185, e185_188, e185_190, e185_191, e185_192, e185_194, e185_195, e185_197, e185_198, e185_199, e185_202, e185_204, e185_205, e185_206, e185_207, e185_208, e185_210, e185_211, e185_212, e185_213, e185_216, e185_219, e185_220, psh0, psh1, psh3, true_or, or_true, eq_self, Option.bind_some, List.length_nil, List.length_cons, Nat.reduceAdd, Nat.reduceLeDiff, Nat.zero_le, ↓reduceIte, Int.reduceLT, Int.reduceEq, Int.reduceLE, Int.reduceNeg, Int.reduceAdd, Int.reduceMul, Int.reduceSub, ne_eq, not_true_eq_false, not_false_eq_true, and_true, true_and, and_false, false_and, c3lt, c3gt, c3eq, Bool.false_eq_true, isK_wr, inA_wr, inR_wr, c, isK_cp, inA_cp, hm.1, rdc, m6, w1, w2, w3, w4, w5, w6, w7, w8, w9, k1, k2, e]
    exact ih (q + 1) _ (by omega)
theorem x_hasRow (hk : isK h s 8) (l0 : 0 ≤ mrd h s 3) (l1 : mrd h s 3 ≤ 60) (m0 : 0 ≤ y) (m1 : in32 y) : EV d 96 0 [(2, s), (0, x), (0, y)] [] h = some ((0, if 0 ≤ x ∧ x + y ≤ mrd h s 3 then 1 else 0), h) := by
  unfold in32 at m1
  have w1 : w32 (mrd h s 3 - y) = mrd h s 3 - y := w32_id (by omega) (by omega)
  by_cases c0 : x < 0
  · rw [if_neg (by omega)]
    simp only [e96_0, e96_1, e96_4, e96_5, e96_6, e96_9, e96_10, e96_11, e96_14, e96_15, e96_18, e96_19, psh0, psh1, psh3, true_or, or_true, eq_self, Option.bind_some, List.length_nil, List.length_cons, Nat.reduceAdd, Nat.reduceLeDiff, Nat.zero_le, ↓reduceIte, Int.reduceLT, Int.reduceEq, Int.reduceLE, Int.reduceNeg, Int.reduceAdd, Int.reduceMul, Int.reduceSub, ne_eq, not_true_eq_false, not_false_eq_true, and_true, true_and, and_false, false_and, c3lt, c3gt, c3eq, Bool.false_eq_true, isK_wr, inA_wr, inR_wr, hk, c0]
  by_cases c1 : mrd h s 3 - y < x
  · rw [if_neg (by omega)]
    simp only [e96_0, e96_1, e96_4, e96_5, e96_6, e96_9, e96_10, e96_11, e96_14, e96_15, e96_18, e96_19, psh0, psh1, psh3, true_or, or_true, eq_self, Option.bind_some, List.length_nil, List.length_cons, Nat.reduceAdd, Nat.reduceLeDiff, Nat.zero_le, ↓reduceIte, Int.reduceLT, Int.reduceEq, Int.reduceLE, Int.reduceNeg, Int.reduceAdd, Int.reduceMul, Int.reduceSub, ne_eq, not_true_eq_false, not_false_eq_true, and_true, true_and, and_false, false_and, c3lt, c3gt, c3eq, Bool.false_eq_true, isK_wr, inA_wr, inR_wr, hk, c0, w1, c1]
  · rw [if_pos (by omega)]
    simp only [e96_0, e96_1, e96_4, e96_5, e96_6, e96_9, e96_10, e96_11, e96_14, e96_15, e96_18, e96_19, psh0, psh1, psh3, true_or, or_true, eq_self, Option.bind_some, List.length_nil, List.length_cons, Nat.reduceAdd, Nat.reduceLeDiff, Nat.zero_le, ↓reduceIte, Int.reduceLT, Int.reduceEq, Int.reduceLE, Int.reduceNeg, Int.reduceAdd, Int.reduceMul, Int.reduceSub, ne_eq, not_true_eq_false, not_false_eq_true, and_true, true_and, and_false, false_and, c3lt, c3gt, c3eq, Bool.false_eq_true, isK_wr, inA_wr, inR_wr, hk, c0, w1, c1]
end
theorem FrE_cp {ob : List Int} {ce : List (Int × Int)} {n w : Int} {m : Int → Int → Int} {h : AM} {a i b j k : Int} (hs : b ∈ ob) (hf : FrE ob ce n w m h.1) : FrE ob ce n w m (mcp h a i b j k).1 := fun c q hb hx => by
  show (if c = b ∧ j ≤ q ∧ q < j + k then h.1 a (i + (q - j)) else h.1 c q) = _
  rw [if_neg]
  · exact hf c q hb hx
  · rintro ⟨rfl, z⟩
    exact hx (Or.inl hs)

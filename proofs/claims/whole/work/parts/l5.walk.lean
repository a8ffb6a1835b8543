/-! ages lived: the walk, on both sides -/
section
variable {D : Nat} {a0 b0 a b a' b' : AM} {s L g nc nl e c e' c' k l p v n x w : Int}
theorem Sim.wk (hS : Sim 0 1 a0 b0 s L a b) : Sim 0 0 a0 b0 s L a b := by
  obtain ⟨h1, h2, h3, l1, l2, l3⟩ := hS
  exact ⟨h1, h2, h3, l1, ⟨l2.1, l2.2.1, by have := l2.2.2; omega⟩, l3⟩
/-- the reference counts what was missed -/
theorem lv_count {r : Int} (hB : BF a0 b0 s L g nc nl) (hS : Sim (1 - r) 1 a0 b0 s L a b) (r01 : r = 0 ∨ r = 1) : Sim 0 0 a0 b0 s L a (mwr b 235 48 (w32 (mrd b 235 48 + (1 - r)))) := by
  have h := hS.2.2.2
  have w1 : w32 (mrd b 235 48 + (1 - r)) = mrd b 235 48 + (1 - r) := by
    have := h.1
    have := h.2.1
    exact w32_id (by omega) (by omega)
  rw [w1]
  refine hS.same hB FNa.rf (FNb.rf.wr (by decide) (by decide)) ?_
  unfold LV at h ⊢
  rw [rdn2 (by decide), rde, rdn2 (by decide), rdn2 (by decide), rdn2 (by decide), rdn2 (by decide), rdn2 (by decide)]
  obtain ⟨h1, h2, h3⟩ := h
  exact ⟨h1, ⟨by omega, by omega, by omega⟩, h3⟩
/-- a step is counted -/
theorem lv_done (hB : BF a0 b0 s L g nc nl) (hS : Sim 0 0 a0 b0 s L a b) (h3 : mrd b 235 47 < 300) : Sim 0 1 a0 b0 s L (mwr a L 1 (mrd b 235 47 + 1)) (mwr b 235 47 (mrd b 235 47 + 1)) := by
  have h := hS.2.2.2
  refine hS.same hB (FNa.rf.wr (by decide) (by decide)) (FNb.rf.wr (by decide) (by decide)) ?_
  unfold LV at h ⊢
  obtain ⟨h1, h2, h3', h4, h5, h6, h7⟩ := h
  rw [rde, rde, rdn2 (by decide), rdn2 (by decide), rdn2 (by decide), rdn2 (by decide), rdn2 (by decide), rdn2 (by decide), rdn2 (by decide), rdn2 (by decide), rdn2 (by decide), rdn2 (by decide), rdn2 (by decide), rdn2 (by decide)]
  exact ⟨⟨rfl, by omega, by omega⟩, ⟨h2.1, h2.2.1, by omega⟩, h3', h4, h5, h6, h7⟩
theorem lv_stop (hB : BF a0 b0 s L g nc nl) (hS : Sim e c a0 b0 s L a b) : Sim e c a0 b0 s L (mwr a L 6 1) (mwr b 235 45 1) := by
  have h := hS.2.2.2
  refine hS.same hB (FNa.rf.wr (by decide) (by decide)) (FNb.rf.wr (by decide) (by decide)) ?_
  unfold LV at h ⊢
  obtain ⟨h1, h2, h3', h4, h5, h6, h7⟩ := h
  rw [rde, rde, rdn2 (by decide), rdn2 (by decide), rdn2 (by decide), rdn2 (by decide), rdn2 (by decide), rdn2 (by decide), rdn2 (by decide), rdn2 (by decide), rdn2 (by decide), rdn2 (by decide), rdn2 (by decide), rdn2 (by decide)]
  exact ⟨h1, h2, h3', h4, h5, ⟨rfl, Or.inr rfl⟩, h7⟩
theorem lv_cut (hB : BF a0 b0 s L g nc nl) (hS : Sim e c a0 b0 s L a b) : Sim e c a0 b0 s L (mwr a L 5 1) (mwr b 235 51 1) := by
  have h := hS.2.2.2
  refine hS.same hB (FNa.rf.wr (by decide) (by decide)) (FNb.rf.wr (by decide) (by decide)) ?_
  unfold LV at h ⊢
  obtain ⟨h1, h2, h3', h4, h5, h6, h7⟩ := h
  rw [rde, rde, rdn2 (by decide), rdn2 (by decide), rdn2 (by decide), rdn2 (by decide), rdn2 (by decide), rdn2 (by decide), rdn2 (by decide), rdn2 (by decide), rdn2 (by decide), rdn2 (by decide), rdn2 (by decide), rdn2 (by decide)]
  exact ⟨h1, h2, h3', h4, ⟨rfl, Or.inr rfl⟩, h6, h7⟩
/-- the steps from .. to stand at depth dp at least, and end there -/
def VR (nx : Int → Int) (N : Int) (dp : Nat) (f t : Int) : Prop := 0 ≤ f ∧ f ≤ t ∧ t ≤ N ∧ ∀ q : Nat, f ≤ (q : Int) → (q : Int) < t → dp ≤ dep nx q ∧ nx q ≤ t
/-- the body of a step lies deeper -/
theorem VR_in {nx : Int → Int} {N : Int} {dp : Nat} {f t : Int} {q : Nat} (hv : VR nx N dp f t) (q0 : f ≤ (q : Int)) (q1 : (q : Int) < t) (hn : ∀ p : Int, 0 ≤ p → p < N → p + 1 ≤ nx p) (hnest : ∀ p q : Int, 0 ≤ p → p < q → q < nx p → p < N → nx q ≤ nx p) : VR nx N (dp + 1) (q + 1) (nx q) := by
  obtain ⟨h0, h1, h2, h3⟩ := hv
  obtain ⟨d1, d2⟩ := h3 q q0 q1
  have hq := hn q (by omega) (by omega)
  refine ⟨by omega, by omega, by omega, fun p p0 p1 => ⟨?_, ?_⟩⟩
  · refine Nat.lt_of_le_of_lt d1 ?_
    unfold dep
    have hqp : q < p := by omega
    have e : List.range p = List.range q ++ (q :: (List.range (p - q - 1)).map (fun i => q + 1 + i)) := by
      have e1 : p = q + (1 + (p - q - 1)) := by omega
      conv => lhs; rw [e1]
      rw [List.range_add, List.range_add, List.map_append]
      congr 1
      simp only [List.range_one, List.map_cons, List.map_nil, List.singleton_append, Nat.add_zero, List.map_map]
      congr 1
      refine List.map_congr_left (fun i _ => ?_)
      simp only [Function.comp]
      omega
    rw [e, List.filter_append, List.length_append, List.filter_cons, if_pos (by simpa using p1)]
    rw [List.length_cons]
    have : (List.filter (fun r : Nat => decide ((q : Int) < nx r)) (List.range q)).length ≤ (List.filter (fun r : Nat => decide ((p : Int) < nx r)) (List.range q)).length := by
      have hs : ∀ l : List Nat, (∀ r ∈ l, (q : Int) < nx r → (p : Int) < nx r) → (List.filter (fun r : Nat => decide ((q : Int) < nx r)) l).length ≤ (List.filter (fun r : Nat => decide ((p : Int) < nx r)) l).length := by
        intro l
        induction l with
        | nil => intro _; exact Nat.le_refl _
        | cons r l ih =>
          intro hl
          have i1 := ih (fun r' hr => hl r' (List.mem_cons_of_mem _ hr))
          have i2 := hl r (List.mem_cons_self ..)
          rw [List.filter_cons, List.filter_cons]
          by_cases c1 : (q : Int) < nx r
          · rw [if_pos (by simpa using c1), if_pos (by simpa using i2 c1), List.length_cons, List.length_cons]
            omega
          · rw [if_neg (by simpa using c1)]
            split
            · rw [List.length_cons]; omega
            · exact i1
      refine hs _ (fun r hr hqr => ?_)
      have hrq : r < q := List.mem_range.mp hr
      have := hnest r q (by omega) (by omega) hqr (by omega)
      omega
    omega
  · exact hnest q p (by omega) (by omega) p1 (by omega)
/-- what the walk needs of the age, as it began -/
def AGE (a0 b0 : AM) (g nc nl : Int) : Prop := RAge (mx a0 b0).1 g 0 nc nl ∧ mrd a0 g 6 = 1
theorem AGE.f (hB : BF a0 b0 s L g nc nl) (hA : AGE a0 b0 g nc nl) : (0 ≤ mrd a0 g 7 ∧ mrd a0 g 7 ≤ 30 ∧ mrd a0 g 7 = mrd b0 240 129) ∧ (∀ p : Int, 0 ≤ p → p < mrd a0 g 7 → p + 1 ≤ mrd a0 (g + 5) p) ∧ (∀ p q : Int, 0 ≤ p → p < q → q < mrd a0 (g + 5) p → p < mrd a0 g 7 → mrd a0 (g + 5) q ≤ mrd a0 (g + 5) p) ∧ ∀ p : Nat, (p : Int) < mrd a0 g 7 → dep (mrd a0 (g + 5)) p ≤ 3 := by
  obtain ⟨hA, h1⟩ := hA
  have gb : 17 ≤ g ∧ g ≤ 228 := by
    have : ∀ g ∈ A7, 17 ≤ g ∧ g ≤ 228 := by decide +kernel
    exact this g hB.2.2.2.1.2.1
  have ya : ∀ x i, 17 ≤ x → x ≤ 233 → (mx a0 b0).1 x i = mrd a0 x i := fun x i x0 x1 => mxa (by omega)
  have y5 : (mx a0 b0).1 (g + 5) = mrd a0 (g + 5) := funext fun i => ya _ _ (by omega) (by omega)
  have yb : ∀ i, (mx a0 b0).1 240 i = mrd b0 240 i := fun i => mxb (by decide) (by decide)
  obtain ⟨n1, n2, n3, n4⟩ := hA.2.2 (by rw [ya _ _ (by omega) (by omega)]; exact h1)
  rw [ya _ _ (by omega) (by omega)] at n1 n2 n3 n4
  rw [yb] at n1
  rw [y5] at n3 n4
  refine ⟨⟨n1.2.1, n1.2.2, by rw [n1.1]; rfl⟩, fun p p0 p1 => ?_, n3, n4⟩
  have := (n2 p p0 p1).1.2.1
  rwa [ya _ _ (by omega) (by omega)] at this
/-- the walk of dp deep, as a hypothesis of the step above it -/
def WLK (D : Nat) (dp : Nat) (a0 b0 : AM) (s L g : Int) : Prop := ∀ (f t : Int) (a b : AM), Sim 0 0 a0 b0 s L a b → VR (mrd a0 (g + 5)) (mrd a0 g 7) dp f t → ∃ a' b', EV D 19 0 [(2, L), (2, s), (0, f), (0, t), (0, (dp : Int)), (3, 0)] [] a = some ((3, 0), a') ∧ EV D 319 0 [(2, 235), (0, f), (0, t), (3, 0)] [] b = some ((3, 0), b') ∧ Sim 0 0 a0 b0 s L a' b'
theorem lv_turns {dp : Nat} {P T : Int} (hB : BF a0 b0 s L g nc nl) (hA : AGE a0 b0 g nc nl) (hW : WLK (D + 8) (dp + 1) a0 b0 s L g) (p0 : 0 ≤ p) (p1 : p < mrd a0 g 7) (d3 : dp ≤ 3) (hv : VR (mrd a0 (g + 5)) (mrd a0 g 7) (dp + 1) (p + 1) (mrd a0 (g + 5) p)) (T0 : 0 ≤ T) (T99 : T ≤ 99) (hT : ∀ a b, Sim 0 0 a0 b0 s L a b → mrd b 240 (131 + 9 * p) = T) (x5 : Int) (n : Nat) : ∀ (i : Nat) (a b : AM), i + n = T → Sim 0 0 a0 b0 s L a b → ∃ a' b', EV (D + 9) 20 178 [(2, L), (2, s), (0, p), (0, (dp : Int)), (2, g), (2, x5), (0, T), (0, (i : Int))] [] a = some ((3, 0), a') ∧ EV (D + 9) 318 118 [(2, 235), (0, p), (0, 130 + 9 * p), (0, P), (0, (i : Int))] [] b = some ((3, 0), b') ∧ Sim 0 0 a0 b0 s L a' b' := by
  induction n with
  | zero =>
    intro i a b hi hS
    obtain ⟨hp, hr, hm, cs, ds, kL, es, el, eg, eb⟩ := hS.sh hB
    obtain ⟨p30, -⟩ := hS.stp hB hA.1 hA.2 p0 p1
    have hTb := hT a b hS
    have w1 : w32 (130 + 9 * p + 1) = 131 + 9 * p := by rw [w32_id (by omega) (by omega)]; omega
    have c1 := inC hm (j := 131 + 9 * p) (by omega) (by omega)
    have ci : ¬ (i : Int) < T := by omega
    refine ⟨a, b, ?_, ?_, hS⟩
    · rw [e20_178]
      simp only [e20_0, e20_1, e20_4, e20_6, e20_7, e20_10, e20_12, e20_15, e20_16, e20_17, e20_18, e20_20, e20_22, e20_25, e20_26, e20_27, e20_29, e20_31, e20_34, e20_35, e20_36c0, e20_36c1, e20_36c2, e20_36c3, e20_36c4, e20_36c5, e20_36c6, e20_36c7, e20_36c8, e20_36c9, e20_36c10, e20_36c11, e20_36, e20_100, e20_101, e20_102, e20_104, e20_106, e20_109, e20_112, e20_113, e20_115, e20_117, e20_120, e20_123, e20_124, e20_125, e20_127, e20_130, e20_133, e20_135, e20_135i, e20_136, e20_139, e20_141, e20_142, e20_145, e20_148, e20_149, e20_149i, e20_150, e20_153, e20_155, e20_157, e20_160, e20_163, e20_164, e20_167, e20_168, e20_169, e20_172, e20_175, e20_176, e20_180, e20_182, e20_185, e20_186, e20_189, e20_192, e20_193, e20_194, e20_195, e20_196, e20_197, e20_199, e20_202, e20_203, e20_204, e20_205, e20_206, e20_207, e20_210, e20_213, e20_216, e20_219, e20_220, e20_221, e20_224, e20_227, e20_228, e20_230, e20_231, e20_234, e20_237, e20_238, e20_239, e20_240, e20_241, e20_242, e20_244, e20_247, e20_248, e20_249, e20_250, e20_251, e20_252, e20_255, psh0, psh1, psh3, true_or, or_true, eq_self, Option.bind_some, List.length_nil, List.length_cons, Nat.reduceAdd, Nat.reduceLeDiff, Nat.zero_le, ↓reduceIte, Int.reduceLT, Int.reduceEq, Int.reduceLE, Int.reduceNeg, Int.reduceAdd, Int.reduceMul, Int.reduceSub, ne_eq, not_true_eq_false, not_false_eq_true, and_true, true_and, and_false, false_and, c3lt, c3gt, c3eq, Bool.false_eq_true, isK_wr, inA_wr, inR_wr, ci]
    · rw [e318_118]
      simp only [e318_0, e318_1, e318_4, e318_7, e318_10, e318_11, e318_12, e318_15, e318_16, e318_17, e318_20, e318_21, e318_22, e318_22i, e318_23, e318_26, e318_27, e318_28, e318_31, e318_34, e318_36, e318_37, e318_38, e318_39, e318_40, e318_41, e318_44, e318_45, e318_46, e318_47, e318_48, e318_49, e318_52, e318_53, e318_53i, e318_54, e318_57, e318_58, e318_59, e318_62, e318_65, e318_66, e318_69, e318_70, e318_71, e318_74, e318_77, e318_78, e318_79, e318_82, e318_83, e318_84, e318_87, e318_90, e318_91, e318_92, e318_93, e318_94, e318_95, e318_98, e318_99, e318_101, e318_102, e318_103, e318_106, e318_109, e318_110, e318_112, e318_115, e318_116, e318_120, e318_121, e318_124, e318_125, e318_126, e318_127, e318_128, e318_131, e318_132, e318_135, e318_138, e318_139, e318_140, e318_141, e318_142, e318_143, e318_146, e318_147, e318_149, e318_150, e318_151, e318_154, e318_157, e318_160, e318_163, e318_164, e318_166, e318_169, e318_170, e318_171, e318_174, psh0, psh1, psh3, true_or, or_true, eq_self, Option.bind_some, List.length_nil, List.length_cons, Nat.reduceAdd, Nat.reduceLeDiff, Nat.zero_le, ↓reduceIte, Int.reduceLT, Int.reduceEq, Int.reduceLE, Int.reduceNeg, Int.reduceAdd, Int.reduceMul, Int.reduceSub, ne_eq, not_true_eq_false, not_false_eq_true, and_true, true_and, and_false, false_and, c3lt, c3gt, c3eq, Bool.false_eq_true, isK_wr, inA_wr, inR_wr, hm.1, mC hm, w1, c1, hTb, ci]
  | succ n ih =>
    intro i a b hi hS
    obtain ⟨hp, hr, hm, cs, ds, kL, es, el, eg, eb⟩ := hS.sh hB
    obtain ⟨p30, s1, -⟩ := hS.stp hB hA.1 hA.2 p0 p1
    have hTb := hT a b hS
    have lv6 := hS.2.2.2.2.2.2.2.2.1
    obtain ⟨gk, ⟨r0, r1, r2, r3, r4⟩, i1, i2, i3, i4, i5⟩ := ag_K hp hr hB.2.2.2.1.2.1 p0 p30
    have w1 : w32 (130 + 9 * p + 1) = 131 + 9 * p := by rw [w32_id (by omega) (by omega)]; omega
    have w8 : w32 (130 + 9 * p + 8) = 138 + 9 * p := by rw [w32_id (by omega) (by omega)]; omega
    have c1 := inC hm (j := 131 + 9 * p) (by omega) (by omega)
    have c8 := inC hm (j := 138 + 9 * p) (by omega) (by omega)
    have ci : (i : Int) < T := by omega
    have wp : w32 (p + 1) = p + 1 := w32_id (by omega) (by omega)
    have wd : w32 ((dp : Int) + 1) = ((dp + 1 : Nat) : Int) := by rw [w32_id (by omega) (by omega)]; omega
    have wi : w32 ((i : Int) + 1) = ((i + 1 : Nat) : Int) := by rw [w32_id (by omega) (by omega)]; omega
    have e5 : mrd a (g + 5) p = mrd a0 (g + 5) p := eg 5 p (by decide) (by decide)
    have e8 : mrd b 240 (138 + 9 * p) = mrd a0 (g + 5) p := by rw [← s1.1, e5]
    by_cases co : mrd b 235 45 = 0
    · have co' : mrd a L 6 = 0 := lv6.1.trans co
      obtain ⟨a1, b1, z1, z2, z3⟩ := hW (p + 1) (mrd a0 (g + 5) p) a b hS hv
      obtain ⟨a', b', y1, y2, y3⟩ := ih (i + 1) a1 b1 (by omega) z3
      refine ⟨a', b', ?_, ?_, y3⟩
      · rw [← y1, e20_178]
        simp only [e20_0, e20_1, e20_4, e20_6, e20_7, e20_10, e20_12, e20_15, e20_16, e20_17, e20_18, e20_20, e20_22, e20_25, e20_26, e20_27, e20_29, e20_31, e20_34, e20_35, e20_36c0, e20_36c1, e20_36c2, e20_36c3, e20_36c4, e20_36c5, e20_36c6, e20_36c7, e20_36c8, e20_36c9, e20_36c10, e20_36c11, e20_36, e20_100, e20_101, e20_102, e20_104, e20_106, e20_109, e20_112, e20_113, e20_115, e20_117, e20_120, e20_123, e20_124, e20_125, e20_127, e20_130, e20_133, e20_135, e20_135i, e20_136, e20_139, e20_141, e20_142, e20_145, e20_148, e20_149, e20_149i, e20_150, e20_153, e20_155, e20_157, e20_160, e20_163, e20_164, e20_167, e20_168, e20_169, e20_172, e20_175, e20_176, e20_180, e20_182, e20_185, e20_186, e20_189, e20_192, e20_193, e20_194, e20_195, e20_196, e20_197, e20_199, e20_202, e20_203, e20_204, e20_205, e20_206, e20_207, e20_210, e20_213, e20_216, e20_219, e20_220, e20_221, e20_224, e20_227, e20_228, e20_230, e20_231, e20_234, e20_237, e20_238, e20_239, e20_240, e20_241, e20_242, e20_244, e20_247, e20_248, e20_249, e20_250, e20_251, e20_252, e20_255, psh0, psh1, psh3, true_or, or_true, eq_self, Option.bind_some, List.length_nil, List.length_cons, Nat.reduceAdd, Nat.reduceLeDiff, Nat.zero_le, ↓reduceIte, Int.reduceLT, Int.reduceEq, Int.reduceLE, Int.reduceNeg, Int.reduceAdd, Int.reduceMul, Int.reduceSub, ne_eq, not_true_eq_false, not_false_eq_true, and_true, true_and, and_false, false_and, c3lt, c3gt, c3eq, Bool.false_eq_true, isK_wr, inA_wr, inR_wr, ci, kL, co', gk, r4, i5, e5, wp, wd, z1, wi]
      · rw [← y2, e318_118]
        simp only [e318_0, e318_1, e318_4, e318_7, e318_10, e318_11, e318_12, e318_15, e318_16, e318_17, e318_20, e318_21, e318_22, e318_22i, e318_23, e318_26, e318_27, e318_28, e318_31, e318_34, e318_36, e318_37, e318_38, e318_39, e318_40, e318_41, e318_44, e318_45, e318_46, e318_47, e318_48, e318_49, e318_52, e318_53, e318_53i, e318_54, e318_57, e318_58, e318_59, e318_62, e318_65, e318_66, e318_69, e318_70, e318_71, e318_74, e318_77, e318_78, e318_79, e318_82, e318_83, e318_84, e318_87, e318_90, e318_91, e318_92, e318_93, e318_94, e318_95, e318_98, e318_99, e318_101, e318_102, e318_103, e318_106, e318_109, e318_110, e318_112, e318_115, e318_116, e318_120, e318_121, e318_124, e318_125, e318_126, e318_127, e318_128, e318_131, e318_132, e318_135, e318_138, e318_139, e318_140, e318_141, e318_142, e318_143, e318_146, e318_147, e318_149, e318_150, e318_151, e318_154, e318_157, e318_160, e318_163, e318_164, e318_166, e318_169, e318_170, e318_171, e318_174, psh0, psh1, psh3, true_or, or_true, eq_self, Option.bind_some, List.length_nil, List.length_cons, Nat.reduceAdd, Nat.reduceLeDiff, Nat.zero_le, ↓reduceIte, Int.reduceLT, Int.reduceEq, Int.reduceLE, Int.reduceNeg, Int.reduceAdd, Int.reduceMul, Int.reduceSub, ne_eq, not_true_eq_false, not_false_eq_true, and_true, true_and, and_false, false_and, c3lt, c3gt, c3eq, Bool.false_eq_true, isK_wr, inA_wr, inR_wr, hm.1, mC hm, w1, c1, hTb, ci, co, w8, c8, e8, wp, z2, wi]
    · have co' : ¬ mrd a L 6 = 0 := by rw [lv6.1]; exact co
      refine ⟨a, b, ?_, ?_, hS⟩
      · rw [e20_178]
        simp only [e20_0, e20_1, e20_4, e20_6, e20_7, e20_10, e20_12, e20_15, e20_16, e20_17, e20_18, e20_20, e20_22, e20_25, e20_26, e20_27, e20_29, e20_31, e20_34, e20_35, e20_36c0, e20_36c1, e20_36c2, e20_36c3, e20_36c4, e20_36c5, e20_36c6, e20_36c7, e20_36c8, e20_36c9, e20_36c10, e20_36c11, e20_36, e20_100, e20_101, e20_102, e20_104, e20_106, e20_109, e20_112, e20_113, e20_115, e20_117, e20_120, e20_123, e20_124, e20_125, e20_127, e20_130, e20_133, e20_135, e20_135i, e20_136, e20_139, e20_141, e20_142, e20_145, e20_148, e20_149, e20_149i, e20_150, e20_153, e20_155, e20_157, e20_160, e20_163, e20_164, e20_167, e20_168, e20_169, e20_172, e20_175, e20_176, e20_180, e20_182, e20_185, e20_186, e20_189, e20_192, e20_193, e20_194, e20_195, e20_196, e20_197, e20_199, e20_202, e20_203, e20_204, e20_205, e20_206, e20_207, e20_210, e20_213, e20_216, e20_219, e20_220, e20_221, e20_224, e20_227, e20_228, e20_230, e20_231, e20_234, e20_237, e20_238, e20_239, e20_240, e20_241, e20_242, e20_244, e20_247, e20_248, e20_249, e20_250, e20_251, e20_252, e20_255, psh0, psh1, psh3, true_or, or_true, eq_self, Option.bind_some, List.length_nil, List.length_cons, Nat.reduceAdd, Nat.reduceLeDiff, Nat.zero_le, ↓reduceIte, Int.reduceLT, Int.reduceEq, Int.reduceLE, Int.reduceNeg, Int.reduceAdd, Int.reduceMul, Int.reduceSub, ne_eq, not_true_eq_false, not_false_eq_true, and_true, true_and, and_false, false_and, c3lt, c3gt, c3eq, Bool.false_eq_true, isK_wr, inA_wr, inR_wr, ci, kL, co']
      · rw [e318_118]
        simp only [e318_0, e318_1, e318_4, e318_7, e318_10, e318_11, e318_12, e318_15, e318_16, e318_17, e318_20, e318_21, e318_22, e318_22i, e318_23, e318_26, e318_27, e318_28, e318_31, e318_34, e318_36, e318_37, e318_38, e318_39, e318_40, e318_41, e318_44, e318_45, e318_46, e318_47, e318_48, e318_49, e318_52, e318_53, e318_53i, e318_54, e318_57, e318_58, e318_59, e318_62, e318_65, e318_66, e318_69, e318_70, e318_71, e318_74, e318_77, e318_78, e318_79, e318_82, e318_83, e318_84, e318_87, e318_90, e318_91, e318_92, e318_93, e318_94, e318_95, e318_98, e318_99, e318_101, e318_102, e318_103, e318_106, e318_109, e318_110, e318_112, e318_115, e318_116, e318_120, e318_121, e318_124, e318_125, e318_126, e318_127, e318_128, e318_131, e318_132, e318_135, e318_138, e318_139, e318_140, e318_141, e318_142, e318_143, e318_146, e318_147, e318_149, e318_150, e318_151, e318_154, e318_157, e318_160, e318_163, e318_164, e318_166, e318_169, e318_170, e318_171, e318_174, psh0, psh1, psh3, true_or, or_true, eq_self, Option.bind_some, List.length_nil, List.length_cons, Nat.reduceAdd, Nat.reduceLeDiff, Nat.zero_le, ↓reduceIte, Int.reduceLT, Int.reduceEq, Int.reduceLE, Int.reduceNeg, Int.reduceAdd, Int.reduceMul, Int.reduceSub, ne_eq, not_true_eq_false, not_false_eq_true, and_true, true_and, and_false, false_and, c3lt, c3gt, c3eq, Bool.false_eq_true, isK_wr, inA_wr, inR_wr, hm.1, mC hm, w1, c1, hTb, ci, co]
set_option maxHeartbeats 1000000 in
theorem lv_step {dp : Nat} {l2 l3 l4 : AV} (hB : BF a0 b0 s L g nc nl) (hA : AGE a0 b0 g nc nl) (hW : WLK (D + 8) (dp + 1) a0 b0 s L g) (hS : Sim 0 1 a0 b0 s L a b) (p0 : 0 ≤ p) (p1 : p < mrd a0 g 7) (d3 : dp ≤ 3) (hv : VR (mrd a0 (g + 5)) (mrd a0 g 7) (dp + 1) (p + 1) (mrd a0 (g + 5) p)) : ∃ a' b', EV (D + 9) 20 0 [(2, L), (2, s), (0, p), (0, (dp : Int)), (3, 0), (3, 0), (3, 0), (3, 0)] [] a = some ((3, 0), a') ∧ EV (D + 9) 318 31 [(2, 235), (0, p), l2, l3, l4] [] b = some ((3, 0), b') ∧ Sim 0 0 a0 b0 s L a' b' := by
  obtain ⟨hp, hr, hm, cs, ds, kL, es, el, eg, eb⟩ := hS.sh hB
  obtain ⟨p30, hst⟩ := hS.stp hB hA.1 hA.2 p0 p1
  obtain ⟨s1, s2, s3, s4, s5, s6, s7⟩ := id hst
  have bs := hB.bs
  have ks := cs.1
  obtain ⟨gk, ⟨r0, r1, r2, r3, r4⟩, i1, i2, i3, i4, i5⟩ := ag_K hp hr hB.2.2.2.1.2.1 p0 p30
  have e4 : mrd a s 4 = g := (es 4).trans hB.2.2.2.1.1
  have rs2 := cs.2.2.2.1
  have w9 : w32 (9 * p) = 9 * p := w32_id (by omega) (by omega)
  have w1 : w32 (130 + 9 * p) = 130 + 9 * p := w32_id (by omega) (by omega)
  have w8 : w32 (130 + 9 * p + 8) = 138 + 9 * p := by rw [w32_id (by omega) (by omega)]; omega
  have c0 := inC hm (j := 130 + 9 * p) (by omega) (by omega)
  have c8 := inC hm (j := 138 + 9 * p) (by omega) (by omega)
  have wp : w32 (p + 1) = p + 1 := w32_id (by omega) (by omega)
  have wd : w32 ((dp : Int) + 1) = ((dp + 1 : Nat) : Int) := by rw [w32_id (by omega) (by omega)]; omega
  have e5 : mrd a (g + 5) p = mrd a0 (g + 5) p := eg 5 p (by decide) (by decide)
  by_cases hk : mrd b 240 (130 + 9 * p) < 5
  · obtain ⟨a', b', r, r01, z1, z2, z3, z4⟩ := lv_deed (d := D) (dp := (dp : Int)) hB hA.1 hA.2 hS p0 p1 hk
    have hm' := (z3.sh hB).2.2.1
    refine ⟨a', mwr b' 235 48 (w32 (mrd b' 235 48 + (1 - r))), z1, ?_, lv_count hB z3 r01⟩
    rw [e318_31, z4]
    rcases r01 with rfl | rfl
    · simp only [e318_0, e318_1, e318_4, e318_7, e318_10, e318_11, e318_12, e318_15, e318_16, e318_17, e318_20, e318_21, e318_22, e318_22i, e318_23, e318_26, e318_27, e318_28, e318_34, e318_36, e318_37, e318_38, e318_39, e318_40, e318_41, e318_44, e318_45, e318_46, e318_47, e318_48, e318_49, e318_52, e318_53, e318_53i, e318_54, e318_57, e318_58, e318_59, e318_62, e318_65, e318_66, e318_69, e318_70, e318_71, e318_74, e318_77, e318_78, e318_79, e318_82, e318_83, e318_84, e318_87, e318_90, e318_91, e318_92, e318_93, e318_94, e318_95, e318_98, e318_99, e318_101, e318_102, e318_103, e318_106, e318_109, e318_110, e318_112, e318_115, e318_116, e318_120, e318_121, e318_124, e318_125, e318_126, e318_127, e318_128, e318_131, e318_132, e318_135, e318_138, e318_139, e318_140, e318_141, e318_142, e318_143, e318_146, e318_147, e318_149, e318_150, e318_151, e318_154, e318_157, e318_160, e318_163, e318_164, e318_166, e318_169, e318_170, e318_171, e318_174, psh0, psh1, psh3, true_or, or_true, eq_self, Option.bind_some, List.length_nil, List.length_cons, Nat.reduceAdd, Nat.reduceLeDiff, Nat.zero_le, ↓reduceIte, Int.reduceLT, Int.reduceEq, Int.reduceLE, Int.reduceNeg, Int.reduceAdd, Int.reduceMul, Int.reduceSub, ne_eq, not_true_eq_false, not_false_eq_true, and_true, true_and, and_false, false_and, c3lt, c3gt, c3eq, Bool.false_eq_true, isK_wr, inA_wr, inR_wr, hm.1, mC hm, w9, w1, c0, hk, z2, hm'.1]
    · simp only [e318_0, e318_1, e318_4, e318_7, e318_10, e318_11, e318_12, e318_15, e318_16, e318_17, e318_20, e318_21, e318_22, e318_22i, e318_23, e318_26, e318_27, e318_28, e318_34, e318_36, e318_37, e318_38, e318_39, e318_40, e318_41, e318_44, e318_45, e318_46, e318_47, e318_48, e318_49, e318_52, e318_53, e318_53i, e318_54, e318_57, e318_58, e318_59, e318_62, e318_65, e318_66, e318_69, e318_70, e318_71, e318_74, e318_77, e318_78, e318_79, e318_82, e318_83, e318_84, e318_87, e318_90, e318_91, e318_92, e318_93, e318_94, e318_95, e318_98, e318_99, e318_101, e318_102, e318_103, e318_106, e318_109, e318_110, e318_112, e318_115, e318_116, e318_120, e318_121, e318_124, e318_125, e318_126, e318_127, e318_128, e318_131, e318_132, e318_135, e318_138, e318_139, e318_140, e318_141, e318_142, e318_143, e318_146, e318_147, e318_149, e318_150, e318_151, e318_154, e318_157, e318_160, e318_163, e318_164, e318_166, e318_169, e318_170, e318_171, e318_174, psh0, psh1, psh3, true_or, or_true, eq_self, Option.bind_some, List.length_nil, List.length_cons, Nat.reduceAdd, Nat.reduceLeDiff, Nat.zero_le, ↓reduceIte, Int.reduceLT, Int.reduceEq, Int.reduceLE, Int.reduceNeg, Int.reduceAdd, Int.reduceMul, Int.reduceSub, ne_eq, not_true_eq_false, not_false_eq_true, and_true, true_and, and_false, false_and, c3lt, c3gt, c3eq, Bool.false_eq_true, isK_wr, inA_wr, inR_wr, hm.1, mC hm, w9, w1, c0, hk, z2, hm'.1]
  obtain ⟨K, hK⟩ : ∃ K, K = mrd b 240 (130 + 9 * p) := ⟨_, rfl⟩
  have hK' := hK.symm
  obtain ⟨kk, hkk⟩ : ∃ kk, kk = mrd a (g + 2) p := ⟨_, rfl⟩
  have hkk' := hkk.symm
  obtain ⟨t1, t2, t3, t4, t5, t6⟩ := cs.2.2.2.2.2.2.2.2.2.2.2.2 kk (by omega) (by omega)
  rw [← hK] at hk s3 s4 s5 s6 s7
  rcases (show K = 5 ∨ K = 6 ∨ K = 7 by omega) with rfl | rfl | rfl
  · obtain ⟨y1, y2, y3, -⟩ := s7.2.2.2.1 rfl
    obtain ⟨a1, b1, r, r01, z1, z2, z3⟩ := lv_test (d := D) hB hA.1 hA.2 hS p0 p1 hK'
    rw [hkk'] at z1
    obtain ⟨hp1, hr1, hm1, cs1, ds1, kL1, es1, el1, eg1, eb1⟩ := z3.sh hB
    obtain ⟨-, q1, -⟩ := z3.stp hB hA.1 hA.2 p0 p1
    obtain ⟨gk1, ⟨-, -, -, -, r41⟩, -, -, -, -, i51⟩ := ag_K hp1 hr1 hB.2.2.2.1.2.1 p0 p30
    have e51 : mrd a1 (g + 5) p = mrd a0 (g + 5) p := eg1 5 p (by decide) (by decide)
    have e81 : mrd b1 240 (138 + 9 * p) = mrd a0 (g + 5) p := by rw [← q1.1, e51]
    have c81 := inC hm1 (j := 138 + 9 * p) (by omega) (by omega)
    have kd : ∀ st : List AV, EV (D + 9) 20 36 [(2, L), (2, s), (0, p), (0, (dp : Int)), (2, g), (2, s + 25 + 2 * kk), (0, mrd a (g + 3) p), (3, 0)] ((0, mrd a (g + 1) p) :: st) a = EV (D + 9) 20 227 [(2, L), (2, s), (0, p), (0, (dp : Int)), (2, g), (2, s + 25 + 2 * kk), (0, mrd a (g + 3) p), (3, 0)] st a := fun st => by
      rw [y1]
      rcases (show mrd b 240 (136 + 9 * p) = 0 ∨ mrd b 240 (136 + 9 * p) = 1 ∨ mrd b 240 (136 + 9 * p) = 2 by omega) with z | z | z <;> rw [z]
      · exact e20_36c6
      · exact e20_36c7
      · exact e20_36c8
    rcases r01 with rfl | rfl
    · refine ⟨a1, b1, ?_, ?_, z3.wk⟩
      · simp only [e20_0, e20_1, e20_4, e20_6, e20_7, e20_10, e20_12, e20_15, e20_16, e20_17, e20_18, e20_20, e20_22, e20_25, e20_26, e20_27, e20_29, e20_31, e20_34, e20_35, e20_100, e20_101, e20_102, e20_104, e20_106, e20_109, e20_112, e20_113, e20_115, e20_117, e20_120, e20_123, e20_124, e20_125, e20_127, e20_130, e20_133, e20_135, e20_135i, e20_136, e20_139, e20_141, e20_142, e20_145, e20_148, e20_149, e20_149i, e20_150, e20_153, e20_155, e20_157, e20_160, e20_163, e20_164, e20_167, e20_168, e20_169, e20_172, e20_175, e20_176, e20_180, e20_182, e20_185, e20_186, e20_189, e20_192, e20_193, e20_194, e20_195, e20_196, e20_197, e20_199, e20_202, e20_203, e20_204, e20_205, e20_206, e20_207, e20_210, e20_213, e20_216, e20_219, e20_220, e20_221, e20_224, e20_227, e20_228, e20_230, e20_231, e20_234, e20_237, e20_238, e20_239, e20_240, e20_241, e20_242, e20_244, e20_247, e20_248, e20_249, e20_250, e20_251, e20_252, e20_255, psh0, psh1, psh3, true_or, or_true, eq_self, Option.bind_some, List.length_nil, List.length_cons, Nat.reduceAdd, Nat.reduceLeDiff, Nat.zero_le, ↓reduceIte, Int.reduceLT, Int.reduceEq, Int.reduceLE, Int.reduceNeg, Int.reduceAdd, Int.reduceMul, Int.reduceSub, ne_eq, not_true_eq_false, not_false_eq_true, and_true, true_and, and_false, false_and, c3lt, c3gt, c3eq, Bool.false_eq_true, isK_wr, inA_wr, inR_wr, ks, e4, rs2, gk, r0, r1, r2, i1, i2, i3, hkk', t1, t2, kd, z1]
      · rw [e318_31]
        simp only [e318_0, e318_1, e318_4, e318_7, e318_10, e318_11, e318_12, e318_15, e318_16, e318_17, e318_20, e318_21, e318_22, e318_22i, e318_23, e318_26, e318_27, e318_28, e318_34, e318_36, e318_37, e318_38, e318_39, e318_40, e318_41, e318_44, e318_45, e318_46, e318_47, e318_48, e318_49, e318_52, e318_53, e318_53i, e318_54, e318_57, e318_58, e318_59, e318_62, e318_65, e318_66, e318_69, e318_70, e318_71, e318_74, e318_77, e318_78, e318_79, e318_82, e318_83, e318_84, e318_87, e318_90, e318_91, e318_92, e318_93, e318_94, e318_95, e318_98, e318_99, e318_101, e318_102, e318_103, e318_106, e318_109, e318_110, e318_112, e318_115, e318_116, e318_120, e318_121, e318_124, e318_125, e318_126, e318_127, e318_128, e318_131, e318_132, e318_135, e318_138, e318_139, e318_140, e318_141, e318_142, e318_143, e318_146, e318_147, e318_149, e318_150, e318_151, e318_154, e318_157, e318_160, e318_163, e318_164, e318_166, e318_169, e318_170, e318_171, e318_174, psh0, psh1, psh3, true_or, or_true, eq_self, Option.bind_some, List.length_nil, List.length_cons, Nat.reduceAdd, Nat.reduceLeDiff, Nat.zero_le, ↓reduceIte, Int.reduceLT, Int.reduceEq, Int.reduceLE, Int.reduceNeg, Int.reduceAdd, Int.reduceMul, Int.reduceSub, ne_eq, not_true_eq_false, not_false_eq_true, and_true, true_and, and_false, false_and, c3lt, c3gt, c3eq, Bool.false_eq_true, isK_wr, inA_wr, inR_wr, hm.1, mC hm, w9, w1, c0, hK', z2]
    · obtain ⟨a2, b2, y4, y5, y6⟩ := hW (p + 1) (mrd a0 (g + 5) p) a1 b1 z3.wk hv
      refine ⟨a2, b2, ?_, ?_, y6⟩
      · simp only [e20_0, e20_1, e20_4, e20_6, e20_7, e20_10, e20_12, e20_15, e20_16, e20_17, e20_18, e20_20, e20_22, e20_25, e20_26, e20_27, e20_29, e20_31, e20_34, e20_35, e20_100, e20_101, e20_102, e20_104, e20_106, e20_109, e20_112, e20_113, e20_115, e20_117, e20_120, e20_123, e20_124, e20_125, e20_127, e20_130, e20_133, e20_135, e20_135i, e20_136, e20_139, e20_141, e20_142, e20_145, e20_148, e20_149, e20_149i, e20_150, e20_153, e20_155, e20_157, e20_160, e20_163, e20_164, e20_167, e20_168, e20_169, e20_172, e20_175, e20_176, e20_180, e20_182, e20_185, e20_186, e20_189, e20_192, e20_193, e20_194, e20_195, e20_196, e20_197, e20_199, e20_202, e20_203, e20_204, e20_205, e20_206, e20_207, e20_210, e20_213, e20_216, e20_219, e20_220, e20_221, e20_224, e20_227, e20_228, e20_230, e20_231, e20_234, e20_237, e20_238, e20_239, e20_240, e20_241, e20_242, e20_244, e20_247, e20_248, e20_249, e20_250, e20_251, e20_252, e20_255, psh0, psh1, psh3, true_or, or_true, eq_self, Option.bind_some, List.length_nil, List.length_cons, Nat.reduceAdd, Nat.reduceLeDiff, Nat.zero_le, ↓reduceIte, Int.reduceLT, Int.reduceEq, Int.reduceLE, Int.reduceNeg, Int.reduceAdd, Int.reduceMul, Int.reduceSub, ne_eq, not_true_eq_false, not_false_eq_true, and_true, true_and, and_false, false_and, c3lt, c3gt, c3eq, Bool.false_eq_true, isK_wr, inA_wr, inR_wr, ks, e4, rs2, gk, r0, r1, r2, i1, i2, i3, hkk', t1, t2, kd, z1, gk1, r41, i51, e51, kL1, wp, wd, y4]
      · rw [e318_31]
        simp only [e318_0, e318_1, e318_4, e318_7, e318_10, e318_11, e318_12, e318_15, e318_16, e318_17, e318_20, e318_21, e318_22, e318_22i, e318_23, e318_26, e318_27, e318_28, e318_34, e318_36, e318_37, e318_38, e318_39, e318_40, e318_41, e318_44, e318_45, e318_46, e318_47, e318_48, e318_49, e318_52, e318_53, e318_53i, e318_54, e318_57, e318_58, e318_59, e318_62, e318_65, e318_66, e318_69, e318_70, e318_71, e318_74, e318_77, e318_78, e318_79, e318_82, e318_83, e318_84, e318_87, e318_90, e318_91, e318_92, e318_93, e318_94, e318_95, e318_98, e318_99, e318_101, e318_102, e318_103, e318_106, e318_109, e318_110, e318_112, e318_115, e318_116, e318_120, e318_121, e318_124, e318_125, e318_126, e318_127, e318_128, e318_131, e318_132, e318_135, e318_138, e318_139, e318_140, e318_141, e318_142, e318_143, e318_146, e318_147, e318_149, e318_150, e318_151, e318_154, e318_157, e318_160, e318_163, e318_164, e318_166, e318_169, e318_170, e318_171, e318_174, psh0, psh1, psh3, true_or, or_true, eq_self, Option.bind_some, List.length_nil, List.length_cons, Nat.reduceAdd, Nat.reduceLeDiff, Nat.zero_le, ↓reduceIte, Int.reduceLT, Int.reduceEq, Int.reduceLE, Int.reduceNeg, Int.reduceAdd, Int.reduceMul, Int.reduceSub, ne_eq, not_true_eq_false, not_false_eq_true, and_true, true_and, and_false, false_and, c3lt, c3gt, c3eq, Bool.false_eq_true, isK_wr, inA_wr, inR_wr, hm.1, mC hm, w9, w1, c0, hK', z2, hm1.1, mC hm1, w8, c81, e81, wp, y5]
  · obtain ⟨y1, y2, y3, y4⟩ := s7.2.2.2.2.1 rfl
    obtain ⟨a', b', z1, z2, z3⟩ := lv_turns (D := D) (dp := dp) (P := 6) (T := mrd a (g + 3) p) hB hA hW p0 p1 d3 hv (by omega) y4 (fun a2 b2 hS2 => by
      obtain ⟨-, -, -, -, -, -, -, -, -, eb2⟩ := hS2.sh hB
      rw [eb2 _ (by omega), ← eb _ (by omega), y2]) (s + 25 + 2 * kk) (mrd a (g + 3) p).toNat 0 a b (by omega) hS.wk
    refine ⟨a', b', ?_, ?_, z3⟩
    · refine Eq.trans ?_ z1
      simp only [e20_0, e20_1, e20_4, e20_6, e20_7, e20_10, e20_12, e20_15, e20_16, e20_17, e20_18, e20_20, e20_22, e20_25, e20_26, e20_27, e20_29, e20_31, e20_34, e20_35, e20_36c0, e20_36c1, e20_36c2, e20_36c3, e20_36c4, e20_36c5, e20_36c6, e20_36c7, e20_36c8, e20_36c9, e20_36c10, e20_36c11, e20_36, e20_100, e20_101, e20_102, e20_104, e20_106, e20_109, e20_112, e20_113, e20_115, e20_117, e20_120, e20_123, e20_124, e20_125, e20_127, e20_130, e20_133, e20_135, e20_135i, e20_136, e20_139, e20_141, e20_142, e20_145, e20_148, e20_149, e20_149i, e20_150, e20_153, e20_155, e20_157, e20_160, e20_163, e20_164, e20_167, e20_168, e20_169, e20_172, e20_175, e20_176, e20_180, e20_182, e20_185, e20_186, e20_189, e20_192, e20_193, e20_194, e20_195, e20_196, e20_197, e20_199, e20_202, e20_203, e20_204, e20_205, e20_206, e20_207, e20_210, e20_213, e20_216, e20_219, e20_220, e20_221, e20_224, e20_227, e20_228, e20_230, e20_231, e20_234, e20_237, e20_238, e20_239, e20_240, e20_241, e20_242, e20_244, e20_247, e20_248, e20_249, e20_250, e20_251, e20_252, e20_255, psh0, psh1, psh3, true_or, or_true, eq_self, Option.bind_some, List.length_nil, List.length_cons, Nat.reduceAdd, Nat.reduceLeDiff, Nat.zero_le, ↓reduceIte, Int.reduceLT, Int.reduceEq, Int.reduceLE, Int.reduceNeg, Int.reduceAdd, Int.reduceMul, Int.reduceSub, ne_eq, not_true_eq_false, not_false_eq_true, and_true, true_and, and_false, false_and, c3lt, c3gt, c3eq, Bool.false_eq_true, isK_wr, inA_wr, inR_wr, ks, e4, rs2, gk, r0, r1, r2, i1, i2, i3, hkk', t1, t2, y1]
      rfl
    · refine Eq.trans ?_ z2
      rw [e318_31]
      simp only [e318_0, e318_1, e318_4, e318_7, e318_10, e318_11, e318_12, e318_15, e318_16, e318_17, e318_20, e318_21, e318_22, e318_22i, e318_23, e318_26, e318_27, e318_28, e318_34, e318_36, e318_37, e318_38, e318_39, e318_40, e318_41, e318_44, e318_45, e318_46, e318_47, e318_48, e318_49, e318_52, e318_53, e318_53i, e318_54, e318_57, e318_58, e318_59, e318_62, e318_65, e318_66, e318_69, e318_70, e318_71, e318_74, e318_77, e318_78, e318_79, e318_82, e318_83, e318_84, e318_87, e318_90, e318_91, e318_92, e318_93, e318_94, e318_95, e318_98, e318_99, e318_101, e318_102, e318_103, e318_106, e318_109, e318_110, e318_112, e318_115, e318_116, e318_120, e318_121, e318_124, e318_125, e318_126, e318_127, e318_128, e318_131, e318_132, e318_135, e318_138, e318_139, e318_140, e318_141, e318_142, e318_143, e318_146, e318_147, e318_149, e318_150, e318_151, e318_154, e318_157, e318_160, e318_163, e318_164, e318_166, e318_169, e318_170, e318_171, e318_174, psh0, psh1, psh3, true_or, or_true, eq_self, Option.bind_some, List.length_nil, List.length_cons, Nat.reduceAdd, Nat.reduceLeDiff, Nat.zero_le, ↓reduceIte, Int.reduceLT, Int.reduceEq, Int.reduceLE, Int.reduceNeg, Int.reduceAdd, Int.reduceMul, Int.reduceSub, ne_eq, not_true_eq_false, not_false_eq_true, and_true, true_and, and_false, false_and, c3lt, c3gt, c3eq, Bool.false_eq_true, isK_wr, inA_wr, inR_wr, hm.1, mC hm, w9, w1, c0, hK']
      rfl
  · obtain ⟨y1, y2⟩ := s7.2.2.2.2.2 rfl
    refine ⟨_, _, ?_, ?_, (lv_stop hB hS).wk⟩
    · simp only [e20_0, e20_1, e20_4, e20_6, e20_7, e20_10, e20_12, e20_15, e20_16, e20_17, e20_18, e20_20, e20_22, e20_25, e20_26, e20_27, e20_29, e20_31, e20_34, e20_35, e20_36c0, e20_36c1, e20_36c2, e20_36c3, e20_36c4, e20_36c5, e20_36c6, e20_36c7, e20_36c8, e20_36c9, e20_36c10, e20_36c11, e20_36, e20_100, e20_101, e20_102, e20_104, e20_106, e20_109, e20_112, e20_113, e20_115, e20_117, e20_120, e20_123, e20_124, e20_125, e20_127, e20_130, e20_133, e20_135, e20_135i, e20_136, e20_139, e20_141, e20_142, e20_145, e20_148, e20_149, e20_149i, e20_150, e20_153, e20_155, e20_157, e20_160, e20_163, e20_164, e20_167, e20_168, e20_169, e20_172, e20_175, e20_176, e20_180, e20_182, e20_185, e20_186, e20_189, e20_192, e20_193, e20_194, e20_195, e20_196, e20_197, e20_199, e20_202, e20_203, e20_204, e20_205, e20_206, e20_207, e20_210, e20_213, e20_216, e20_219, e20_220, e20_221, e20_224, e20_227, e20_228, e20_230, e20_231, e20_234, e20_237, e20_238, e20_239, e20_240, e20_241, e20_242, e20_244, e20_247, e20_248, e20_249, e20_250, e20_251, e20_252, e20_255, psh0, psh1, psh3, true_or, or_true, eq_self, Option.bind_some, List.length_nil, List.length_cons, Nat.reduceAdd, Nat.reduceLeDiff, Nat.zero_le, ↓reduceIte, Int.reduceLT, Int.reduceEq, Int.reduceLE, Int.reduceNeg, Int.reduceAdd, Int.reduceMul, Int.reduceSub, ne_eq, not_true_eq_false, not_false_eq_true, and_true, true_and, and_false, false_and, c3lt, c3gt, c3eq, Bool.false_eq_true, isK_wr, inA_wr, inR_wr, ks, e4, rs2, gk, r0, r1, r2, i1, i2, i3, hkk', t1, t2, y1, kL]
    · rw [e318_31]
      simp only [e318_0, e318_1, e318_4, e318_7, e318_10, e318_11, e318_12, e318_15, e318_16, e318_17, e318_20, e318_21, e318_22, e318_22i, e318_23, e318_26, e318_27, e318_28, e318_34, e318_36, e318_37, e318_38, e318_39, e318_40, e318_41, e318_44, e318_45, e318_46, e318_47, e318_48, e318_49, e318_52, e318_53, e318_53i, e318_54, e318_57, e318_58, e318_59, e318_62, e318_65, e318_66, e318_69, e318_70, e318_71, e318_74, e318_77, e318_78, e318_79, e318_82, e318_83, e318_84, e318_87, e318_90, e318_91, e318_92, e318_93, e318_94, e318_95, e318_98, e318_99, e318_101, e318_102, e318_103, e318_106, e318_109, e318_110, e318_112, e318_115, e318_116, e318_120, e318_121, e318_124, e318_125, e318_126, e318_127, e318_128, e318_131, e318_132, e318_135, e318_138, e318_139, e318_140, e318_141, e318_142, e318_143, e318_146, e318_147, e318_149, e318_150, e318_151, e318_154, e318_157, e318_160, e318_163, e318_164, e318_166, e318_169, e318_170, e318_171, e318_174, psh0, psh1, psh3, true_or, or_true, eq_self, Option.bind_some, List.length_nil, List.length_cons, Nat.reduceAdd, Nat.reduceLeDiff, Nat.zero_le, ↓reduceIte, Int.reduceLT, Int.reduceEq, Int.reduceLE, Int.reduceNeg, Int.reduceAdd, Int.reduceMul, Int.reduceSub, ne_eq, not_true_eq_false, not_false_eq_true, and_true, true_and, and_false, false_and, c3lt, c3gt, c3eq, Bool.false_eq_true, isK_wr, inA_wr, inR_wr, hm.1, mC hm, w9, w1, c0, hK']
set_option maxHeartbeats 1000000 in
theorem lv_loop {dp : Nat} (hB : BF a0 b0 s L g nc nl) (hA : AGE a0 b0 g nc nl) (hW : WLK (D + 8) (dp + 1) a0 b0 s L g) (d3 : dp ≤ 3) {f t : Int} (hv : VR (mrd a0 (g + 5)) (mrd a0 g 7) dp f t) (m : Nat) : ∀ (i : Nat) (a b : AM), t - i ≤ m → f ≤ i → Sim 0 0 a0 b0 s L a b → ∃ a' b', EV (D + 10) 19 10 [(2, L), (2, s), (0, f), (0, t), (0, (dp : Int)), (0, (i : Int))] [] a = some ((3, 0), a') ∧ EV (D + 10) 319 2 [(2, 235), (0, f), (0, t), (0, (i : Int))] [] b = some ((3, 0), b') ∧ Sim 0 0 a0 b0 s L a' b' := by
  obtain ⟨⟨N0, N30, -⟩, hn, hnest, -⟩ := hA.f hB
  obtain ⟨f0, ft, tN, hq⟩ := id hv
  induction m with
  | zero =>
    intro i a b hm0 fi hS
    have ci : ¬ (i : Int) < t := by omega
    refine ⟨a, b, ?_, ?_, hS⟩
    · rw [e19_10]
      simp only [e19_0, e19_2, e19_3, e19_6, e19_7, e19_8, e19_12, e19_13, e19_16, e19_17, e19_20, e19_23, e19_24, e19_27, e19_30, e19_33, e19_34, e19_35, e19_38, e19_39, e19_40, e19_43, e19_44, e19_45, e19_45i, e19_46, e19_49, e19_50, e19_51, e19_54, e19_55, e19_56, e19_58, e19_60, e19_63, e19_64, e19_67, e19_70, e19_72, e19_73, e19_75, e19_78, psh0, psh1, psh3, true_or, or_true, eq_self, Option.bind_some, List.length_nil, List.length_cons, Nat.reduceAdd, Nat.reduceLeDiff, Nat.zero_le, ↓reduceIte, Int.reduceLT, Int.reduceEq, Int.reduceLE, Int.reduceNeg, Int.reduceAdd, Int.reduceMul, Int.reduceSub, ne_eq, not_true_eq_false, not_false_eq_true, and_true, true_and, and_false, false_and, c3lt, c3gt, c3eq, Bool.false_eq_true, isK_wr, inA_wr, inR_wr, ci]
    · rw [e319_2]
      simp only [e319_0, e319_1, e319_3, e319_4, e319_7, e319_8, e319_11, e319_14, e319_15, e319_16, e319_19, e319_20, e319_23, e319_26, e319_28, e319_29, e319_30, e319_31, e319_33, e319_34, e319_35, e319_36, e319_39, psh0, psh1, psh3, true_or, or_true, eq_self, Option.bind_some, List.length_nil, List.length_cons, Nat.reduceAdd, Nat.reduceLeDiff, Nat.zero_le, ↓reduceIte, Int.reduceLT, Int.reduceEq, Int.reduceLE, Int.reduceNeg, Int.reduceAdd, Int.reduceMul, Int.reduceSub, ne_eq, not_true_eq_false, not_false_eq_true, and_true, true_and, and_false, false_and, c3lt, c3gt, c3eq, Bool.false_eq_true, isK_wr, inA_wr, inR_wr, ci]
  | succ m ih =>
    intro i a b hm0 fi hS
    by_cases ci : (i : Int) < t
    · obtain ⟨hp, hr, hm, cs, ds, kL, es, el, eg, eb⟩ := hS.sh hB
      have lv := hS.2.2.2
      have lv6 := lv.2.2.2.2.2.1
      have l47 := lv.1.2
      have ks := cs.1
      have e4 : mrd a s 4 = g := (es 4).trans hB.2.2.2.1.1
      by_cases co : mrd b 235 45 = 0
      · have co' : mrd a L 6 = 0 := lv6.1.trans co
        have i0 : (0 : Int) ≤ i := by omega
        have iN : (i : Int) < mrd a0 g 7 := by omega
        have w9 : w32 (9 * (i : Int)) = 9 * i := w32_id (by omega) (by omega)
        have w1 : w32 (130 + 9 * (i : Int)) = 130 + 9 * i := w32_id (by omega) (by omega)
        have w8 : w32 (130 + 9 * (i : Int) + 8) = 138 + 9 * i := by rw [w32_id (by omega) (by omega)]; omega
        have hni := hn i i0 iN
        have hqi := hq i fi ci
        have ec : (((mrd a0 (g + 5) i).toNat : Nat) : Int) = mrd a0 (g + 5) i := Int.toNat_of_nonneg (by omega)
        by_cases c3 : mrd b 235 47 = 300
        · have c3' : ¬ mrd a L 1 < 300 := by rw [lv.1.1]; omega
          have hS2 := lv_stop hB (lv_cut hB hS)
          obtain ⟨a2, ha2⟩ : ∃ a2, a2 = mwr (mwr a L 5 1) L 6 1 := ⟨_, rfl⟩
          obtain ⟨b2, hb2⟩ : ∃ b2, b2 = mwr (mwr b 235 51 1) 235 45 1 := ⟨_, rfl⟩
          have hbb : mwr (mwr b 235 45 1) 235 51 1 = b2 := by
            rw [hb2]
            refine Prod.ext (funext fun x => funext fun j => ?_) rfl
            show mrd (mwr (mwr b 235 45 1) 235 51 1) x j = mrd (mwr (mwr b 235 51 1) 235 45 1) x j
            simp only [rd_wr]
            by_cases q1 : x = 235 ∧ j = 51
            · have q2 : ¬ (x = 235 ∧ j = 45) := by omega
              simp only [if_pos q1, if_neg q2]
            · simp only [if_neg q1]
          rw [← ha2, ← hb2] at hS2
          obtain ⟨-, -, hm2, -, -, -, -, -, eg2, eb2⟩ := hS2.sh hB
          obtain ⟨p30, s1, -⟩ := hS2.stp hB hA.1 hA.2 i0 iN
          have c8 := inC hm2 (j := 138 + 9 * (i : Int)) (by omega) (by omega)
          have e8 : mrd b2 240 (138 + 9 * (i : Int)) = mrd a0 (g + 5) i := by rw [← s1.1]; exact eg2 5 i (by decide) (by decide)
          have eo : mrd b2 235 45 = 1 := by rw [hb2, rde]
          have gone : EV (D + 9) 318 0 [(2, 235), (0, (i : Int)), (3, 0), (3, 0), (3, 0)] [] b = some ((3, 0), b2) := by
            rw [← hbb]
            simp only [e318_0, e318_1, e318_4, e318_7, e318_10, e318_11, e318_12, e318_15, e318_16, e318_17, e318_20, e318_21, e318_22, e318_22i, e318_23, e318_26, e318_27, e318_28, e318_31, e318_34, e318_36, e318_37, e318_38, e318_39, e318_40, e318_41, e318_44, e318_45, e318_46, e318_47, e318_48, e318_49, e318_52, e318_53, e318_53i, e318_54, e318_57, e318_58, e318_59, e318_62, e318_65, e318_66, e318_69, e318_70, e318_71, e318_74, e318_77, e318_78, e318_79, e318_82, e318_83, e318_84, e318_87, e318_90, e318_91, e318_92, e318_93, e318_94, e318_95, e318_98, e318_99, e318_101, e318_102, e318_103, e318_106, e318_109, e318_110, e318_112, e318_115, e318_116, e318_120, e318_121, e318_124, e318_125, e318_126, e318_127, e318_128, e318_131, e318_132, e318_135, e318_138, e318_139, e318_140, e318_141, e318_142, e318_143, e318_146, e318_147, e318_149, e318_150, e318_151, e318_154, e318_157, e318_160, e318_163, e318_164, e318_166, e318_169, e318_170, e318_171, e318_174, psh0, psh1, psh3, true_or, or_true, eq_self, Option.bind_some, List.length_nil, List.length_cons, Nat.reduceAdd, Nat.reduceLeDiff, Nat.zero_le, ↓reduceIte, Int.reduceLT, Int.reduceEq, Int.reduceLE, Int.reduceNeg, Int.reduceAdd, Int.reduceMul, Int.reduceSub, ne_eq, not_true_eq_false, not_false_eq_true, and_true, true_and, and_false, false_and, c3lt, c3gt, c3eq, Bool.false_eq_true, isK_wr, inA_wr, inR_wr, hm.1, c3]
          refine ⟨a2, b2, ?_, ?_, hS2⟩
          · rw [e19_10, ha2]
            simp only [e19_0, e19_2, e19_3, e19_6, e19_7, e19_8, e19_12, e19_13, e19_16, e19_17, e19_20, e19_23, e19_24, e19_27, e19_30, e19_33, e19_34, e19_35, e19_38, e19_39, e19_40, e19_43, e19_44, e19_45, e19_45i, e19_46, e19_49, e19_50, e19_51, e19_54, e19_55, e19_56, e19_58, e19_60, e19_63, e19_64, e19_67, e19_70, e19_72, e19_73, e19_75, e19_78, psh0, psh1, psh3, true_or, or_true, eq_self, Option.bind_some, List.length_nil, List.length_cons, Nat.reduceAdd, Nat.reduceLeDiff, Nat.zero_le, ↓reduceIte, Int.reduceLT, Int.reduceEq, Int.reduceLE, Int.reduceNeg, Int.reduceAdd, Int.reduceMul, Int.reduceSub, ne_eq, not_true_eq_false, not_false_eq_true, and_true, true_and, and_false, false_and, c3lt, c3gt, c3eq, Bool.false_eq_true, isK_wr, inA_wr, inR_wr, ci, kL, co', c3']
          · rw [e319_2]
            simp only [e319_0, e319_1, e319_3, e319_4, e319_7, e319_8, e319_11, e319_14, e319_15, e319_16, e319_19, e319_20, e319_23, e319_26, e319_28, e319_29, e319_30, e319_31, e319_33, e319_34, e319_35, e319_36, e319_39, psh0, psh1, psh3, true_or, or_true, eq_self, Option.bind_some, List.length_nil, List.length_cons, Nat.reduceAdd, Nat.reduceLeDiff, Nat.zero_le, ↓reduceIte, Int.reduceLT, Int.reduceEq, Int.reduceLE, Int.reduceNeg, Int.reduceAdd, Int.reduceMul, Int.reduceSub, ne_eq, not_true_eq_false, not_false_eq_true, and_true, true_and, and_false, false_and, c3lt, c3gt, c3eq, Bool.false_eq_true, isK_wr, inA_wr, inR_wr, ci, hm.1, co, gone, hm2.1, mC hm2, w9, w1, w8, c8, e8]
            rw [e319_2]
            by_cases c4 : mrd a0 (g + 5) i < t
            · simp only [e319_0, e319_1, e319_3, e319_4, e319_7, e319_8, e319_11, e319_14, e319_15, e319_16, e319_19, e319_20, e319_23, e319_26, e319_28, e319_29, e319_30, e319_31, e319_33, e319_34, e319_35, e319_36, e319_39, psh0, psh1, psh3, true_or, or_true, eq_self, Option.bind_some, List.length_nil, List.length_cons, Nat.reduceAdd, Nat.reduceLeDiff, Nat.zero_le, ↓reduceIte, Int.reduceLT, Int.reduceEq, Int.reduceLE, Int.reduceNeg, Int.reduceAdd, Int.reduceMul, Int.reduceSub, ne_eq, not_true_eq_false, not_false_eq_true, and_true, true_and, and_false, false_and, c3lt, c3gt, c3eq, Bool.false_eq_true, isK_wr, inA_wr, inR_wr, c4, hm2.1, eo]
            · simp only [e319_0, e319_1, e319_3, e319_4, e319_7, e319_8, e319_11, e319_14, e319_15, e319_16, e319_19, e319_20, e319_23, e319_26, e319_28, e319_29, e319_30, e319_31, e319_33, e319_34, e319_35, e319_36, e319_39, psh0, psh1, psh3, true_or, or_true, eq_self, Option.bind_some, List.length_nil, List.length_cons, Nat.reduceAdd, Nat.reduceLeDiff, Nat.zero_le, ↓reduceIte, Int.reduceLT, Int.reduceEq, Int.reduceLE, Int.reduceNeg, Int.reduceAdd, Int.reduceMul, Int.reduceSub, ne_eq, not_true_eq_false, not_false_eq_true, and_true, true_and, and_false, false_and, c3lt, c3gt, c3eq, Bool.false_eq_true, isK_wr, inA_wr, inR_wr, c4]
        · have c3' : mrd a L 1 < 300 := by rw [lv.1.1]; omega
          have c3b : mrd b 235 47 < 300 := by omega
          have wd : w32 (mrd b 235 47 + 1) = mrd b 235 47 + 1 := w32_id (by omega) (by omega)
          have hS1 := lv_done hB hS c3b
          obtain ⟨a1, ha1⟩ : ∃ a1, a1 = mwr a L 1 (mrd b 235 47 + 1) := ⟨_, rfl⟩
          obtain ⟨b1, hb1⟩ : ∃ b1, b1 = mwr b 235 47 (mrd b 235 47 + 1) := ⟨_, rfl⟩
          rw [← ha1, ← hb1] at hS1
          obtain ⟨a2, b2, z1, z2, z3⟩ := lv_step (D := D) (dp := dp) (l2 := (3, 0)) (l3 := (3, 0)) (l4 := (3, 0)) hB hA hW hS1 i0 iN d3 (VR_in hv fi ci hn hnest)
          obtain ⟨hp2, hr2, hm2, cs2, -, kL2, es2, -, eg2, -⟩ := z3.sh hB
          obtain ⟨p30, s1, -⟩ := z3.stp hB hA.1 hA.2 i0 iN
          obtain ⟨gk2, ⟨-, -, -, -, r42⟩, -, -, -, -, i52⟩ := ag_K hp2 hr2 hB.2.2.2.1.2.1 i0 p30
          have c8 := inC hm2 (j := 138 + 9 * (i : Int)) (by omega) (by omega)
          have e52 : mrd a2 (g + 5) i = mrd a0 (g + 5) i := eg2 5 i (by decide) (by decide)
          have e8 : mrd b2 240 (138 + 9 * (i : Int)) = mrd a0 (g + 5) i := by rw [← s1.1]; exact e52
          have e42 : mrd a2 s 4 = g := (es2 4).trans hB.2.2.2.1.1
          have gone : EV (D + 9) 318 0 [(2, 235), (0, (i : Int)), (3, 0), (3, 0), (3, 0)] [] b = some ((3, 0), b2) := by
            rw [← z2, hb1]
            simp only [e318_0, e318_1, e318_4, e318_7, e318_10, e318_11, e318_12, e318_15, e318_16, e318_17, e318_20, e318_21, e318_22, e318_22i, e318_23, e318_26, e318_27, e318_28, e318_34, e318_36, e318_37, e318_38, e318_39, e318_40, e318_41, e318_44, e318_45, e318_46, e318_47, e318_48, e318_49, e318_52, e318_53, e318_53i, e318_54, e318_57, e318_58, e318_59, e318_62, e318_65, e318_66, e318_69, e318_70, e318_71, e318_74, e318_77, e318_78, e318_79, e318_82, e318_83, e318_84, e318_87, e318_90, e318_91, e318_92, e318_93, e318_94, e318_95, e318_98, e318_99, e318_101, e318_102, e318_103, e318_106, e318_109, e318_110, e318_112, e318_115, e318_116, e318_120, e318_121, e318_124, e318_125, e318_126, e318_127, e318_128, e318_131, e318_132, e318_135, e318_138, e318_139, e318_140, e318_141, e318_142, e318_143, e318_146, e318_147, e318_149, e318_150, e318_151, e318_154, e318_157, e318_160, e318_163, e318_164, e318_166, e318_169, e318_170, e318_171, e318_174, psh0, psh1, psh3, true_or, or_true, eq_self, Option.bind_some, List.length_nil, List.length_cons, Nat.reduceAdd, Nat.reduceLeDiff, Nat.zero_le, ↓reduceIte, Int.reduceLT, Int.reduceEq, Int.reduceLE, Int.reduceNeg, Int.reduceAdd, Int.reduceMul, Int.reduceSub, ne_eq, not_true_eq_false, not_false_eq_true, and_true, true_and, and_false, false_and, c3lt, c3gt, c3eq, Bool.false_eq_true, isK_wr, inA_wr, inR_wr, hm.1, c3, wd]
          have ea1 : mwr a L 1 (w32 (mrd a L 1 + 1)) = a1 := by rw [ha1, lv.1.1, wd]
          have kL1 : isK a1 L 3 := by rw [ha1]; exact kL
          have ks1 : isK a1 s 6 := by rw [ha1]; exact ks
          obtain ⟨a', b', y1, y2, y3⟩ := ih (mrd a0 (g + 5) i).toNat a2 b2 (by omega) (by omega) z3
          rw [ec] at y1 y2
          refine ⟨a', b', ?_, ?_, y3⟩
          · rw [← y1, e19_10]
            simp only [e19_0, e19_2, e19_3, e19_6, e19_7, e19_8, e19_12, e19_13, e19_16, e19_17, e19_20, e19_23, e19_24, e19_27, e19_30, e19_33, e19_34, e19_35, e19_38, e19_39, e19_40, e19_43, e19_44, e19_45, e19_45i, e19_46, e19_49, e19_50, e19_51, e19_54, e19_55, e19_56, e19_58, e19_60, e19_63, e19_64, e19_67, e19_70, e19_72, e19_73, e19_75, e19_78, psh0, psh1, psh3, true_or, or_true, eq_self, Option.bind_some, List.length_nil, List.length_cons, Nat.reduceAdd, Nat.reduceLeDiff, Nat.zero_le, ↓reduceIte, Int.reduceLT, Int.reduceEq, Int.reduceLE, Int.reduceNeg, Int.reduceAdd, Int.reduceMul, Int.reduceSub, ne_eq, not_true_eq_false, not_false_eq_true, and_true, true_and, and_false, false_and, c3lt, c3gt, c3eq, Bool.false_eq_true, isK_wr, inA_wr, inR_wr, ci, kL, co', c3', ea1, kL1, z1, cs2.1, e42, gk2, r42, i52, e52]
          · rw [← y2, e319_2]
            simp only [e319_0, e319_1, e319_3, e319_4, e319_7, e319_8, e319_11, e319_14, e319_15, e319_16, e319_19, e319_20, e319_23, e319_26, e319_28, e319_29, e319_30, e319_31, e319_33, e319_34, e319_35, e319_36, e319_39, psh0, psh1, psh3, true_or, or_true, eq_self, Option.bind_some, List.length_nil, List.length_cons, Nat.reduceAdd, Nat.reduceLeDiff, Nat.zero_le, ↓reduceIte, Int.reduceLT, Int.reduceEq, Int.reduceLE, Int.reduceNeg, Int.reduceAdd, Int.reduceMul, Int.reduceSub, ne_eq, not_true_eq_false, not_false_eq_true, and_true, true_and, and_false, false_and, c3lt, c3gt, c3eq, Bool.false_eq_true, isK_wr, inA_wr, inR_wr, ci, hm.1, co, gone, hm2.1, mC hm2, w9, w1, w8, c8, e8]
      · have co' : ¬ mrd a L 6 = 0 := by rw [lv6.1]; exact co
        refine ⟨a, b, ?_, ?_, hS⟩
        · rw [e19_10]
          simp only [e19_0, e19_2, e19_3, e19_6, e19_7, e19_8, e19_12, e19_13, e19_16, e19_17, e19_20, e19_23, e19_24, e19_27, e19_30, e19_33, e19_34, e19_35, e19_38, e19_39, e19_40, e19_43, e19_44, e19_45, e19_45i, e19_46, e19_49, e19_50, e19_51, e19_54, e19_55, e19_56, e19_58, e19_60, e19_63, e19_64, e19_67, e19_70, e19_72, e19_73, e19_75, e19_78, psh0, psh1, psh3, true_or, or_true, eq_self, Option.bind_some, List.length_nil, List.length_cons, Nat.reduceAdd, Nat.reduceLeDiff, Nat.zero_le, ↓reduceIte, Int.reduceLT, Int.reduceEq, Int.reduceLE, Int.reduceNeg, Int.reduceAdd, Int.reduceMul, Int.reduceSub, ne_eq, not_true_eq_false, not_false_eq_true, and_true, true_and, and_false, false_and, c3lt, c3gt, c3eq, Bool.false_eq_true, isK_wr, inA_wr, inR_wr, ci, kL, co']
        · rw [e319_2]
          simp only [e319_0, e319_1, e319_3, e319_4, e319_7, e319_8, e319_11, e319_14, e319_15, e319_16, e319_19, e319_20, e319_23, e319_26, e319_28, e319_29, e319_30, e319_31, e319_33, e319_34, e319_35, e319_36, e319_39, psh0, psh1, psh3, true_or, or_true, eq_self, Option.bind_some, List.length_nil, List.length_cons, Nat.reduceAdd, Nat.reduceLeDiff, Nat.zero_le, ↓reduceIte, Int.reduceLT, Int.reduceEq, Int.reduceLE, Int.reduceNeg, Int.reduceAdd, Int.reduceMul, Int.reduceSub, ne_eq, not_true_eq_false, not_false_eq_true, and_true, true_and, and_false, false_and, c3lt, c3gt, c3eq, Bool.false_eq_true, isK_wr, inA_wr, inR_wr, ci, hm.1, co]
    · refine ⟨a, b, ?_, ?_, hS⟩
      · rw [e19_10]
        simp only [e19_0, e19_2, e19_3, e19_6, e19_7, e19_8, e19_12, e19_13, e19_16, e19_17, e19_20, e19_23, e19_24, e19_27, e19_30, e19_33, e19_34, e19_35, e19_38, e19_39, e19_40, e19_43, e19_44, e19_45, e19_45i, e19_46, e19_49, e19_50, e19_51, e19_54, e19_55, e19_56, e19_58, e19_60, e19_63, e19_64, e19_67, e19_70, e19_72, e19_73, e19_75, e19_78, psh0, psh1, psh3, true_or, or_true, eq_self, Option.bind_some, List.length_nil, List.length_cons, Nat.reduceAdd, Nat.reduceLeDiff, Nat.zero_le, ↓reduceIte, Int.reduceLT, Int.reduceEq, Int.reduceLE, Int.reduceNeg, Int.reduceAdd, Int.reduceMul, Int.reduceSub, ne_eq, not_true_eq_false, not_false_eq_true, and_true, true_and, and_false, false_and, c3lt, c3gt, c3eq, Bool.false_eq_true, isK_wr, inA_wr, inR_wr, ci]
      · rw [e319_2]
        simp only [e319_0, e319_1, e319_3, e319_4, e319_7, e319_8, e319_11, e319_14, e319_15, e319_16, e319_19, e319_20, e319_23, e319_26, e319_28, e319_29, e319_30, e319_31, e319_33, e319_34, e319_35, e319_36, e319_39, psh0, psh1, psh3, true_or, or_true, eq_self, Option.bind_some, List.length_nil, List.length_cons, Nat.reduceAdd, Nat.reduceLeDiff, Nat.zero_le, ↓reduceIte, Int.reduceLT, Int.reduceEq, Int.reduceLE, Int.reduceNeg, Int.reduceAdd, Int.reduceMul, Int.reduceSub, ne_eq, not_true_eq_false, not_false_eq_true, and_true, true_and, and_false, false_and, c3lt, c3gt, c3eq, Bool.false_eq_true, isK_wr, inA_wr, inR_wr, ci]
theorem lv_walk {d : Nat} (hB : BF a0 b0 s L g nc nl) (hA : AGE a0 b0 g nc nl) : ∀ (n dp : Nat), dp + n = 4 → WLK (d + 2 * n + 8) dp a0 b0 s L g := by
  intro n
  induction n with
  | zero =>
    intro dp hdp f t a b hS hv
    obtain ⟨-, -, -, hd3⟩ := hA.f hB
    obtain ⟨f0, ft, tN, hq⟩ := id hv
    have e : f = t := by
      by_cases c : f < t
      · have q := hq f.toNat (by omega) (by omega)
        have := hd3 f.toNat (by omega)
        omega
      · omega
    have ed : ((dp : Nat) : Int) = 4 := by omega
    refine ⟨a, b, ?_, ?_, hS⟩
    · rw [ed]
      simp only [e19_0, e19_2, e19_3, e19_6, e19_7, e19_8, e19_12, e19_13, e19_16, e19_17, e19_20, e19_23, e19_24, e19_27, e19_30, e19_33, e19_34, e19_35, e19_38, e19_39, e19_40, e19_43, e19_44, e19_45, e19_45i, e19_46, e19_49, e19_50, e19_51, e19_54, e19_55, e19_56, e19_58, e19_60, e19_63, e19_64, e19_67, e19_70, e19_72, e19_73, e19_75, e19_78, psh0, psh1, psh3, true_or, or_true, eq_self, Option.bind_some, List.length_nil, List.length_cons, Nat.reduceAdd, Nat.reduceLeDiff, Nat.zero_le, ↓reduceIte, Int.reduceLT, Int.reduceEq, Int.reduceLE, Int.reduceNeg, Int.reduceAdd, Int.reduceMul, Int.reduceSub, ne_eq, not_true_eq_false, not_false_eq_true, and_true, true_and, and_false, false_and, c3lt, c3gt, c3eq, Bool.false_eq_true, isK_wr, inA_wr, inR_wr]
    · rw [e]
      simp only [e319_0, e319_1, e319_2, e319_3, e319_4, e319_7, e319_8, e319_11, e319_14, e319_15, e319_16, e319_19, e319_20, e319_23, e319_26, e319_28, e319_29, e319_30, e319_31, e319_33, e319_34, e319_35, e319_36, e319_39, psh0, psh1, psh3, true_or, or_true, eq_self, Option.bind_some, List.length_nil, List.length_cons, Nat.reduceAdd, Nat.reduceLeDiff, Nat.zero_le, ↓reduceIte, Int.reduceLT, Int.reduceEq, Int.reduceLE, Int.reduceNeg, Int.reduceAdd, Int.reduceMul, Int.reduceSub, ne_eq, not_true_eq_false, not_false_eq_true, and_true, true_and, and_false, false_and, c3lt, c3gt, c3eq, Bool.false_eq_true, isK_wr, inA_wr, inR_wr, Int.lt_irrefl]
  | succ n ih =>
    intro dp hdp f t a b hS hv
    have hW := ih (dp + 1) (by omega)
    obtain ⟨f0, ft, tN, hq⟩ := id hv
    obtain ⟨m, hm⟩ := Int.eq_ofNat_of_zero_le f0
    obtain ⟨a', b', z1, z2, z3⟩ := lv_loop (D := d + 2 * n) hB hA hW (by omega) hv (t - f).toNat m a b (by omega) (by omega) hS
    have c : ¬ (3 : Int) < dp := by omega
    refine ⟨a', b', ?_, ?_, z3⟩
    · rw [← z1, show d + 2 * (n + 1) + 8 = d + 2 * n + 10 by omega]
      simp only [e19_0, e19_2, e19_3, e19_6, e19_7, e19_8, e19_12, e19_13, e19_16, e19_17, e19_20, e19_23, e19_24, e19_27, e19_30, e19_33, e19_34, e19_35, e19_38, e19_39, e19_40, e19_43, e19_44, e19_45, e19_45i, e19_46, e19_49, e19_50, e19_51, e19_54, e19_55, e19_56, e19_58, e19_60, e19_63, e19_64, e19_67, e19_70, e19_72, e19_73, e19_75, e19_78, psh0, psh1, psh3, true_or, or_true, eq_self, Option.bind_some, List.length_nil, List.length_cons, Nat.reduceAdd, Nat.reduceLeDiff, Nat.zero_le, ↓reduceIte, Int.reduceLT, Int.reduceEq, Int.reduceLE, Int.reduceNeg, Int.reduceAdd, Int.reduceMul, Int.reduceSub, ne_eq, not_true_eq_false, not_false_eq_true, and_true, true_and, and_false, false_and, c3lt, c3gt, c3eq, Bool.false_eq_true, isK_wr, inA_wr, inR_wr, c, hm]
    · rw [← z2, show d + 2 * (n + 1) + 8 = d + 2 * n + 10 by omega]
      simp only [e319_0, e319_1, e319_3, e319_4, e319_7, e319_8, e319_11, e319_14, e319_15, e319_16, e319_19, e319_20, e319_23, e319_26, e319_28, e319_29, e319_30, e319_31, e319_33, e319_34, e319_35, e319_36, e319_39, psh0, psh1, psh3, true_or, or_true, eq_self, Option.bind_some, List.length_nil, List.length_cons, Nat.reduceAdd, Nat.reduceLeDiff, Nat.zero_le, ↓reduceIte, Int.reduceLT, Int.reduceEq, Int.reduceLE, Int.reduceNeg, Int.reduceAdd, Int.reduceMul, Int.reduceSub, ne_eq, not_true_eq_false, not_false_eq_true, and_true, true_and, and_false, false_and, c3lt, c3gt, c3eq, Bool.false_eq_true, isK_wr, inA_wr, inR_wr, hm]
end

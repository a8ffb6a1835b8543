/-! tokens: the reference's next -/
theorem and255 {x : Int} (h0 : -128 ≤ x) (h1 : x ≤ 127) : i_and x 255 = if x < 0 then x + 256 else x := by
  have : ∀ n, n < 256 → i_and (((n : Nat) : Int) - 128) 255 = if ((n : Nat) : Int) - 128 < 0 then ((n : Nat) : Int) - 128 + 256 else ((n : Nat) : Int) - 128 := by decide +kernel
  have := this (x + 128).toNat (by omega)
  rw [show (((x + 128).toNat : Nat) : Int) - 128 = x by omega] at this
  exact this
def lkF (T : Int → Int) (N : Int) (p : Int) : Int := if p < N then (if T p < 0 then T p + 256 else T p) else 0
/-- the reference's reader: its tape's bytes -/
def RDM (b : AM) (N : Nat) : Prop := CM b ∧ mrd b 235 9 = N ∧ N ≤ 900 ∧ ∀ i : Int, 0 ≤ i → i < N → -128 ≤ mrd b 239 i ∧ mrd b 239 i ≤ 127
section
variable {d N : Nat} {b b' : AM} {p x : Int}
theorem RDM.wr {i v : Int} (h : RDM b N) (h0 : 10 ≤ i) (h1 : i ≤ 19) : RDM (mwr b 235 i v) N := by
  refine ⟨⟨h.1.1, h.1.2.1, fun q hq => ?_⟩, by rw [rdn2 (by omega)]; exact h.2.1, h.2.2.1, fun j j0 j1 => by rw [rdn1 (by decide)]; exact h.2.2.2 j j0 j1⟩
  have hd : ∀ q ∈ refT, ¬ (q.1 = 235 ∧ 10 ≤ q.2.1 ∧ q.2.1 ≤ 19) := by decide +kernel
  have := hd q hq
  rw [← h.1.2.2 q hq]
  show mrd (mwr b 235 i v) q.1 q.2.1 = mrd b q.1 q.2.1
  rw [rd_wr, if_neg (by omega)]
theorem NF.rf : NF b b := ⟨rfl, fun _ _ _ => rfl⟩
theorem NF.wr {i v : Int} (h : NF b b') (h0 : 14 ≤ i) (h1 : i ≤ 19) : NF b (mwr b' 235 i v) := ⟨h.1, fun x j hx => by rw [rd_wr, if_neg (by omega)]; exact h.2 x j hx⟩
theorem NF.tr {b1 b2 : AM} (h : NF b b1) (h2 : NF b1 b2) : NF b b2 := ⟨h2.1.trans h.1, fun x i hx => (h2.2 x i hx).trans (h.2 x i hx)⟩
theorem m_look2 (hx : RDM b N) (p0 : 0 ≤ p) : EV d 189 0 [(2, 235), (0, p)] [] b = some ((0, lkF (mrd b 239) N p), b) := by
  obtain ⟨hm, e9, h9, hb⟩ := hx
  have m7 : mrd b 235 7 = 239 := rf_235_7 hm.2.2
  unfold lkF
  by_cases c : p < N
  · have j1 : inA b 239 17 p := ⟨kn_239 hm.2.1, p0, by rw [ln_239 hm.2.1]; omega⟩
    have := hb p p0 c
    rw [if_pos c, ← and255 this.1 this.2]
    simp only [e189_0, e189_1, e189_2, e189_5, e189_8, e189_9, e189_12, e189_13, e189_13z, e189_14, e189_17, e189_18, e189_21, e189_22, psh0, psh1, psh3, true_or, or_true, eq_self, Option.bind_some, List.length_nil, List.length_cons, Nat.reduceAdd, Nat.reduceLeDiff, Nat.zero_le, ↓reduceIte, Int.reduceLT, Int.reduceEq, Int.reduceLE, Int.reduceNeg, Int.reduceAdd, Int.reduceMul, Int.reduceSub, ne_eq, not_true_eq_false, not_false_eq_true, and_true, true_and, and_false, false_and, c3lt, c3gt, c3eq, Bool.false_eq_true, isK_wr, inA_wr, inR_wr, hm.1, e9, c, m7, j1]
  · rw [if_neg c]
    simp only [e189_0, e189_1, e189_2, e189_5, e189_8, e189_9, e189_12, e189_13, e189_13z, e189_14, e189_17, e189_18, e189_21, e189_22, psh0, psh1, psh3, true_or, or_true, eq_self, Option.bind_some, List.length_nil, List.length_cons, Nat.reduceAdd, Nat.reduceLeDiff, Nat.zero_le, ↓reduceIte, Int.reduceLT, Int.reduceEq, Int.reduceLE, Int.reduceNeg, Int.reduceAdd, Int.reduceMul, Int.reduceSub, ne_eq, not_true_eq_false, not_false_eq_true, and_true, true_and, and_false, false_and, c3lt, c3gt, c3eq, Bool.false_eq_true, isK_wr, inA_wr, inR_wr, hm.1, e9, c]
theorem m_isLetter : EV d 190 0 [(0, x)] [] b = some ((0, if lte x = true then 1 else 0), b) := by
  by_cases c1 : x < 97
  · have : lte x = false := decide_eq_false (by omega)
    simp only [e190_0, e190_1, e190_3, e190_6, e190_7, e190_9, e190_12, e190_13, e190_16, e190_17, psh0, psh1, psh3, true_or, or_true, eq_self, Option.bind_some, List.length_nil, List.length_cons, Nat.reduceAdd, Nat.reduceLeDiff, Nat.zero_le, ↓reduceIte, Int.reduceLT, Int.reduceEq, Int.reduceLE, Int.reduceNeg, Int.reduceAdd, Int.reduceMul, Int.reduceSub, ne_eq, not_true_eq_false, not_false_eq_true, and_true, true_and, and_false, false_and, c3lt, c3gt, c3eq, Bool.false_eq_true, isK_wr, inA_wr, inR_wr, c1, this]
  · by_cases c2 : 122 < x
    · have : lte x = false := decide_eq_false (by omega)
      simp only [e190_0, e190_1, e190_3, e190_6, e190_7, e190_9, e190_12, e190_13, e190_16, e190_17, psh0, psh1, psh3, true_or, or_true, eq_self, Option.bind_some, List.length_nil, List.length_cons, Nat.reduceAdd, Nat.reduceLeDiff, Nat.zero_le, ↓reduceIte, Int.reduceLT, Int.reduceEq, Int.reduceLE, Int.reduceNeg, Int.reduceAdd, Int.reduceMul, Int.reduceSub, ne_eq, not_true_eq_false, not_false_eq_true, and_true, true_and, and_false, false_and, c3lt, c3gt, c3eq, Bool.false_eq_true, isK_wr, inA_wr, inR_wr, c1, c2, this]
    · have : lte x = true := decide_eq_true (by omega)
      simp only [e190_0, e190_1, e190_3, e190_6, e190_7, e190_9, e190_12, e190_13, e190_16, e190_17, psh0, psh1, psh3, true_or, or_true, eq_self, Option.bind_some, List.length_nil, List.length_cons, Nat.reduceAdd, Nat.reduceLeDiff, Nat.zero_le, ↓reduceIte, Int.reduceLT, Int.reduceEq, Int.reduceLE, Int.reduceNeg, Int.reduceAdd, Int.reduceMul, Int.reduceSub, ne_eq, not_true_eq_false, not_false_eq_true, and_true, true_and, and_false, false_and, c3lt, c3gt, c3eq, Bool.false_eq_true, isK_wr, inA_wr, inR_wr, c1, c2, this]
theorem m_isDigit : EV d 191 0 [(0, x)] [] b = some ((0, if dgi x = true then 1 else 0), b) := by
  by_cases c1 : x < 48
  · have : dgi x = false := decide_eq_false (by omega)
    simp only [e191_0, e191_1, e191_3, e191_6, e191_7, e191_9, e191_12, e191_13, e191_16, e191_17, psh0, psh1, psh3, true_or, or_true, eq_self, Option.bind_some, List.length_nil, List.length_cons, Nat.reduceAdd, Nat.reduceLeDiff, Nat.zero_le, ↓reduceIte, Int.reduceLT, Int.reduceEq, Int.reduceLE, Int.reduceNeg, Int.reduceAdd, Int.reduceMul, Int.reduceSub, ne_eq, not_true_eq_false, not_false_eq_true, and_true, true_and, and_false, false_and, c3lt, c3gt, c3eq, Bool.false_eq_true, isK_wr, inA_wr, inR_wr, c1, this]
  · by_cases c2 : 57 < x
    · have : dgi x = false := decide_eq_false (by omega)
      simp only [e191_0, e191_1, e191_3, e191_6, e191_7, e191_9, e191_12, e191_13, e191_16, e191_17, psh0, psh1, psh3, true_or, or_true, eq_self, Option.bind_some, List.length_nil, List.length_cons, Nat.reduceAdd, Nat.reduceLeDiff, Nat.zero_le, ↓reduceIte, Int.reduceLT, Int.reduceEq, Int.reduceLE, Int.reduceNeg, Int.reduceAdd, Int.reduceMul, Int.reduceSub, ne_eq, not_true_eq_false, not_false_eq_true, and_true, true_and, and_false, false_and, c3lt, c3gt, c3eq, Bool.false_eq_true, isK_wr, inA_wr, inR_wr, c1, c2, this]
    · have : dgi x = true := decide_eq_true (by omega)
      simp only [e191_0, e191_1, e191_3, e191_6, e191_7, e191_9, e191_12, e191_13, e191_16, e191_17, psh0, psh1, psh3, true_or, or_true, eq_self, Option.bind_some, List.length_nil, List.length_cons, Nat.reduceAdd, Nat.reduceLeDiff, Nat.zero_le, ↓reduceIte, Int.reduceLT, Int.reduceEq, Int.reduceLE, Int.reduceNeg, Int.reduceAdd, Int.reduceMul, Int.reduceSub, ne_eq, not_true_eq_false, not_false_eq_true, and_true, true_and, and_false, false_and, c3lt, c3gt, c3eq, Bool.false_eq_true, isK_wr, inA_wr, inR_wr, c1, c2, this]
theorem m_isSignByte : EV d 192 0 [(2, 235), (0, x)] [] b = some ((0, if sgn_ x = true then 1 else 0), b) := by
  by_cases c1 : x = 59
  · have : sgn_ x = true := decide_eq_true (by omega)
    simp only [e192_0, e192_1, e192_3, e192_6, e192_7, e192_9, e192_12, e192_13, e192_15, e192_18, e192_19, e192_21, e192_24, e192_25, e192_28, e192_29, psh0, psh1, psh3, true_or, or_true, eq_self, Option.bind_some, List.length_nil, List.length_cons, Nat.reduceAdd, Nat.reduceLeDiff, Nat.zero_le, ↓reduceIte, Int.reduceLT, Int.reduceEq, Int.reduceLE, Int.reduceNeg, Int.reduceAdd, Int.reduceMul, Int.reduceSub, ne_eq, not_true_eq_false, not_false_eq_true, and_true, true_and, and_false, false_and, c3lt, c3gt, c3eq, Bool.false_eq_true, isK_wr, inA_wr, inR_wr, c1]
    rw [c1] at this
    rw [if_pos this]
  · by_cases c2 : x = 60
    · have : sgn_ x = true := decide_eq_true (by omega)
      simp only [e192_0, e192_1, e192_3, e192_6, e192_7, e192_9, e192_12, e192_13, e192_15, e192_18, e192_19, e192_21, e192_24, e192_25, e192_28, e192_29, psh0, psh1, psh3, true_or, or_true, eq_self, Option.bind_some, List.length_nil, List.length_cons, Nat.reduceAdd, Nat.reduceLeDiff, Nat.zero_le, ↓reduceIte, Int.reduceLT, Int.reduceEq, Int.reduceLE, Int.reduceNeg, Int.reduceAdd, Int.reduceMul, Int.reduceSub, ne_eq, not_true_eq_false, not_false_eq_true, and_true, true_and, and_false, false_and, c3lt, c3gt, c3eq, Bool.false_eq_true, isK_wr, inA_wr, inR_wr, c1, c2]
      rw [c2] at this
      rw [if_pos this]
    · by_cases c3 : x = 62
      · have : sgn_ x = true := decide_eq_true (by omega)
        simp only [e192_0, e192_1, e192_3, e192_6, e192_7, e192_9, e192_12, e192_13, e192_15, e192_18, e192_19, e192_21, e192_24, e192_25, e192_28, e192_29, psh0, psh1, psh3, true_or, or_true, eq_self, Option.bind_some, List.length_nil, List.length_cons, Nat.reduceAdd, Nat.reduceLeDiff, Nat.zero_le, ↓reduceIte, Int.reduceLT, Int.reduceEq, Int.reduceLE, Int.reduceNeg, Int.reduceAdd, Int.reduceMul, Int.reduceSub, ne_eq, not_true_eq_false, not_false_eq_true, and_true, true_and, and_false, false_and, c3lt, c3gt, c3eq, Bool.false_eq_true, isK_wr, inA_wr, inR_wr, c1, c2, c3]
        rw [c3] at this
        rw [if_pos this]
      · by_cases c4 : x = 61
        · have : sgn_ x = true := decide_eq_true (by omega)
          simp only [e192_0, e192_1, e192_3, e192_6, e192_7, e192_9, e192_12, e192_13, e192_15, e192_18, e192_19, e192_21, e192_24, e192_25, e192_28, e192_29, psh0, psh1, psh3, true_or, or_true, eq_self, Option.bind_some, List.length_nil, List.length_cons, Nat.reduceAdd, Nat.reduceLeDiff, Nat.zero_le, ↓reduceIte, Int.reduceLT, Int.reduceEq, Int.reduceLE, Int.reduceNeg, Int.reduceAdd, Int.reduceMul, Int.reduceSub, ne_eq, not_true_eq_false, not_false_eq_true, and_true, true_and, and_false, false_and, c3lt, c3gt, c3eq, Bool.false_eq_true, isK_wr, inA_wr, inR_wr, c1, c2, c3, c4]
          rw [c4] at this
          rw [if_pos this]
        · have : sgn_ x = false := decide_eq_false (by omega)
          simp only [e192_0, e192_1, e192_3, e192_6, e192_7, e192_9, e192_12, e192_13, e192_15, e192_18, e192_19, e192_21, e192_24, e192_25, e192_28, e192_29, psh0, psh1, psh3, true_or, or_true, eq_self, Option.bind_some, List.length_nil, List.length_cons, Nat.reduceAdd, Nat.reduceLeDiff, Nat.zero_le, ↓reduceIte, Int.reduceLT, Int.reduceEq, Int.reduceLE, Int.reduceNeg, Int.reduceAdd, Int.reduceMul, Int.reduceSub, ne_eq, not_true_eq_false, not_false_eq_true, and_true, true_and, and_false, false_and, c3lt, c3gt, c3eq, Bool.false_eq_true, isK_wr, inA_wr, inR_wr, c1, c2, c3, c4, this]
/-- a byte, looked at -/
theorem lk_lte {T : Int → Int} {i : Nat} (h : -128 ≤ T i ∧ T i ≤ 127) (hi : i < N) : lte (lkF T N i) = lte (T i) ∧ dgi (lkF T N i) = dgi (T i) ∧ sgn_ (lkF T N i) = sgn_ (T i) ∧ (lkF T N i = 32 ↔ T i = 32) ∧ (lkF T N i = 10 ↔ T i = 10) ∧ (0 ≤ T i → lkF T N i = T i) := by
  unfold lkF
  rw [if_pos (by omega)]
  split
  · rename_i c
    refine ⟨?_, ?_, ?_, by omega, by omega, by omega⟩
    · unfold lte; rw [decide_eq_false (by omega), decide_eq_false (by omega)]
    · unfold dgi; rw [decide_eq_false (by omega), decide_eq_false (by omega)]
    · unfold sgn_; rw [decide_eq_false (by omega), decide_eq_false (by omega)]
  · exact ⟨rfl, rfl, rfl, Iff.rfl, Iff.rfl, fun _ => rfl⟩
theorem m_skip (hx : RDM b N) {l1 : AV} (n : Nat) : ∀ i : Nat, i + n = N → EV (d + 1) 193 8 [(2, 235), l1] [] (mwr b 235 15 (i : Int)) = EV (d + 1) 193 58 [(2, 235), l1] [] (mwr b 235 15 ((fI (fun j => !bl_ (mrd b 239 j)) i n : Nat) : Int)) := by
  obtain ⟨hm, e9, h9, hb⟩ := id hx
  have q9 : ∀ v, mrd (mwr b 235 15 v) 235 9 = N := fun v => by rw [rdn2 (by decide)]; exact e9
  induction n with
  | zero =>
    intro i hi
    have e : i = N := by omega
    subst e
    rw [e193_8, fI]
    simp only [e193_9, e193_12, e193_13, e193_16, psh0, psh1, psh3, true_or, or_true, eq_self, Option.bind_some, List.length_nil, List.length_cons, Nat.reduceAdd, Nat.reduceLeDiff, Nat.zero_le, ↓reduceIte, Int.reduceLT, Int.reduceEq, Int.reduceLE, Int.reduceNeg, Int.reduceAdd, Int.reduceMul, Int.reduceSub, ne_eq, not_true_eq_false, not_false_eq_true, and_true, true_and, and_false, false_and, c3lt, c3gt, c3eq, Bool.false_eq_true, isK_wr, inA_wr, inR_wr, hm.1, rde, q9, Int.lt_irrefl]
  | succ n ih =>
    intro i hi
    have ci : (i : Int) < N := by omega
    have w1 : w32 ((i : Int) + 1) = ((i + 1 : Nat) : Int) := by rw [w32_id (by omega) (by omega)]; omega
    have gl : ∀ v, EV d 189 0 [(2, 235), (0, (i : Int))] [] (mwr b 235 15 v) = some ((0, lkF (mrd b 239) N i), mwr b 235 15 v) := fun v => by
      rw [m_look2 (hx.wr (by decide) (by decide)) (by omega)]
      have : mrd (mwr b 235 15 v) 239 = mrd b 239 := funext fun j => rdn1 (by decide)
      rw [this]
    obtain ⟨t1, t2, t3, t4, t5, t6⟩ := lk_lte (T := mrd b 239) (i := i) (N := N) (hb i (by omega) ci) (by omega)
    rw [e193_8, fI]
    by_cases c2 : mrd b 239 i = 10
    · have hb' : (!bl_ (mrd b 239 ((i : Nat) : Int))) = false := by unfold bl_; rw [decide_eq_true (Or.inr c2)]; rfl
      rw [hb', if_neg (by decide), ← ih (i + 1) (by omega)]
      simp only [e193_0, e193_1, e193_2, e193_5, e193_9, e193_12, e193_13, e193_16, e193_19, e193_20, e193_21, e193_24, e193_27, e193_29, e193_32, e193_33, e193_34, e193_37, e193_40, e193_42, e193_45, e193_46, e193_46i, e193_47, e193_50, e193_51, e193_52, e193_55, e193_59, e193_60, e193_63, e193_66, e193_67, e193_70, e193_71, e193_74, e193_77, e193_78, e193_79, e193_82, e193_83, e193_84, e193_85, e193_88, e193_91, e193_92, e193_93, e193_96, e193_99, e193_100, e193_101, e193_104, e193_105, e193_106, e193_110, e193_111, e193_114, e193_117, e193_120, e193_123, e193_124, e193_125, e193_128, e193_129, e193_132, e193_133, e193_135, e193_138, e193_139, e193_142, e193_145, e193_146, e193_147, e193_148, e193_151, e193_154, e193_155, e193_156, e193_159, e193_160, e193_163, e193_166, e193_169, e193_170, e193_170i, e193_171, e193_174, e193_175, e193_176, e193_179, e193_182, e193_183, e193_184, e193_187, e193_188, e193_191, e193_192, e193_195, e193_198, e193_199, e193_202, e193_205, e193_206, e193_207, e193_211, e193_212, e193_215, e193_218, e193_221, e193_224, e193_225, e193_228, e193_229, e193_232, e193_233, e193_234, e193_237, e193_238, e193_240, e193_241, e193_244, e193_245, e193_246, e193_247, e193_250, e193_253, e193_254, e193_256, e193_257, e193_260, e193_261, e193_261i, e193_262, e193_265, e193_266, e193_267, e193_270, e193_273, e193_274, e193_275, e193_278, e193_279, e193_282, e193_283, e193_284, e193_287, e193_288, e193_291, e193_292, e193_295, e193_298, e193_299, e193_300, e193_303, e193_304, e193_305, e193_308, e193_309, e193_310, e193_313, e193_314, e193_315, e193_316, e193_319, e193_322, e193_323, e193_326, e193_327, e193_330, psh0, psh1, psh3, true_or, or_true, eq_self, Option.bind_some, List.length_nil, List.length_cons, Nat.reduceAdd, Nat.reduceLeDiff, Nat.zero_le, ↓reduceIte, Int.reduceLT, Int.reduceEq, Int.reduceLE, Int.reduceNeg, Int.reduceAdd, Int.reduceMul, Int.reduceSub, ne_eq, not_true_eq_false, not_false_eq_true, and_true, true_and, and_false, false_and, c3lt, c3gt, c3eq, Bool.false_eq_true, isK_wr, inA_wr, inR_wr, hm.1, rde, q9, ci, gl, t5.mpr c2, w1, wrwr]
    · have c2' : ¬ lkF (mrd b 239) N i = 10 := fun z => c2 (t5.mp z)
      by_cases c1 : mrd b 239 i = 32
      · have hb' : (!bl_ (mrd b 239 ((i : Nat) : Int))) = false := by unfold bl_; rw [decide_eq_true (Or.inl c1)]; rfl
        rw [hb', if_neg (by decide), ← ih (i + 1) (by omega)]
        simp only [e193_0, e193_1, e193_2, e193_5, e193_9, e193_12, e193_13, e193_16, e193_19, e193_20, e193_21, e193_24, e193_27, e193_29, e193_32, e193_33, e193_34, e193_37, e193_40, e193_42, e193_45, e193_46, e193_46i, e193_47, e193_50, e193_51, e193_52, e193_55, e193_59, e193_60, e193_63, e193_66, e193_67, e193_70, e193_71, e193_74, e193_77, e193_78, e193_79, e193_82, e193_83, e193_84, e193_85, e193_88, e193_91, e193_92, e193_93, e193_96, e193_99, e193_100, e193_101, e193_104, e193_105, e193_106, e193_110, e193_111, e193_114, e193_117, e193_120, e193_123, e193_124, e193_125, e193_128, e193_129, e193_132, e193_133, e193_135, e193_138, e193_139, e193_142, e193_145, e193_146, e193_147, e193_148, e193_151, e193_154, e193_155, e193_156, e193_159, e193_160, e193_163, e193_166, e193_169, e193_170, e193_170i, e193_171, e193_174, e193_175, e193_176, e193_179, e193_182, e193_183, e193_184, e193_187, e193_188, e193_191, e193_192, e193_195, e193_198, e193_199, e193_202, e193_205, e193_206, e193_207, e193_211, e193_212, e193_215, e193_218, e193_221, e193_224, e193_225, e193_228, e193_229, e193_232, e193_233, e193_234, e193_237, e193_238, e193_240, e193_241, e193_244, e193_245, e193_246, e193_247, e193_250, e193_253, e193_254, e193_256, e193_257, e193_260, e193_261, e193_261i, e193_262, e193_265, e193_266, e193_267, e193_270, e193_273, e193_274, e193_275, e193_278, e193_279, e193_282, e193_283, e193_284, e193_287, e193_288, e193_291, e193_292, e193_295, e193_298, e193_299, e193_300, e193_303, e193_304, e193_305, e193_308, e193_309, e193_310, e193_313, e193_314, e193_315, e193_316, e193_319, e193_322, e193_323, e193_326, e193_327, e193_330, psh0, psh1, psh3, true_or, or_true, eq_self, Option.bind_some, List.length_nil, List.length_cons, Nat.reduceAdd, Nat.reduceLeDiff, Nat.zero_le, ↓reduceIte, Int.reduceLT, Int.reduceEq, Int.reduceLE, Int.reduceNeg, Int.reduceAdd, Int.reduceMul, Int.reduceSub, ne_eq, not_true_eq_false, not_false_eq_true, and_true, true_and, and_false, false_and, c3lt, c3gt, c3eq, Bool.false_eq_true, isK_wr, inA_wr, inR_wr, hm.1, rde, q9, ci, gl, c2', t4.mpr c1, w1, wrwr]
      · have c1' : ¬ lkF (mrd b 239) N i = 32 := fun z => c1 (t4.mp z)
        have hb' : (!bl_ (mrd b 239 ((i : Nat) : Int))) = true := by unfold bl_; rw [decide_eq_false (by omega)]; rfl
        rw [hb', if_pos rfl]
        simp only [e193_0, e193_1, e193_2, e193_5, e193_9, e193_12, e193_13, e193_16, e193_19, e193_20, e193_21, e193_24, e193_27, e193_29, e193_32, e193_33, e193_34, e193_37, e193_40, e193_42, e193_45, e193_46, e193_46i, e193_47, e193_50, e193_51, e193_52, e193_55, e193_59, e193_60, e193_63, e193_66, e193_67, e193_70, e193_71, e193_74, e193_77, e193_78, e193_79, e193_82, e193_83, e193_84, e193_85, e193_88, e193_91, e193_92, e193_93, e193_96, e193_99, e193_100, e193_101, e193_104, e193_105, e193_106, e193_110, e193_111, e193_114, e193_117, e193_120, e193_123, e193_124, e193_125, e193_128, e193_129, e193_132, e193_133, e193_135, e193_138, e193_139, e193_142, e193_145, e193_146, e193_147, e193_148, e193_151, e193_154, e193_155, e193_156, e193_159, e193_160, e193_163, e193_166, e193_169, e193_170, e193_170i, e193_171, e193_174, e193_175, e193_176, e193_179, e193_182, e193_183, e193_184, e193_187, e193_188, e193_191, e193_192, e193_195, e193_198, e193_199, e193_202, e193_205, e193_206, e193_207, e193_211, e193_212, e193_215, e193_218, e193_221, e193_224, e193_225, e193_228, e193_229, e193_232, e193_233, e193_234, e193_237, e193_238, e193_240, e193_241, e193_244, e193_245, e193_246, e193_247, e193_250, e193_253, e193_254, e193_256, e193_257, e193_260, e193_261, e193_261i, e193_262, e193_265, e193_266, e193_267, e193_270, e193_273, e193_274, e193_275, e193_278, e193_279, e193_282, e193_283, e193_284, e193_287, e193_288, e193_291, e193_292, e193_295, e193_298, e193_299, e193_300, e193_303, e193_304, e193_305, e193_308, e193_309, e193_310, e193_313, e193_314, e193_315, e193_316, e193_319, e193_322, e193_323, e193_326, e193_327, e193_330, psh0, psh1, psh3, true_or, or_true, eq_self, Option.bind_some, List.length_nil, List.length_cons, Nat.reduceAdd, Nat.reduceLeDiff, Nat.zero_le, ↓reduceIte, Int.reduceLT, Int.reduceEq, Int.reduceLE, Int.reduceNeg, Int.reduceAdd, Int.reduceMul, Int.reduceSub, ne_eq, not_true_eq_false, not_false_eq_true, and_true, true_and, and_false, false_and, c3lt, c3gt, c3eq, Bool.false_eq_true, isK_wr, inA_wr, inR_wr, hm.1, rde, q9, ci, gl, c1', c2']
/-- the word's value as the reference keeps it -/
def wvM (T : Int → Int) (q m : Nat) : Int := if m ≤ 8 then wv T q m else -1
theorem m_word (hx : RDM b N) {q : Nat} (h15 : mrd b 235 15 = q) (hq : q ≤ N) {l1 : AV} (n : Nat) : ∀ m : Nat, q + m + n = N → (∀ j : Nat, j < m → lte (mrd b 239 ((q + j : Nat) : Int)) = true) → EV (d + 1) 193 109 [(2, 235), l1] [] (mwr (mwr b 235 19 (wvM (mrd b 239) q m)) 235 16 ((q + m : Nat) : Int)) = EV (d + 1) 193 182 [(2, 235), l1] [] (mwr (mwr b 235 19 (wvM (mrd b 239) q (fI (fun j => !lte (mrd b 239 j)) (q + m) n - q))) 235 16 ((fI (fun j => !lte (mrd b 239 j)) (q + m) n : Nat) : Int)) := by
  obtain ⟨hm, e9, h9, hb⟩ := id hx
  have q15 : ∀ u v, mrd (mwr (mwr b 235 19 u) 235 16 v) 235 15 = q := fun u v => by rw [rdn2 (by decide), rdn2 (by decide)]; exact h15
  have q19 : ∀ u v, mrd (mwr (mwr b 235 19 u) 235 16 v) 235 19 = u := fun u v => by rw [rdn2 (by decide), rde]
  have gl : ∀ u v (i : Nat), EV d 189 0 [(2, 235), (0, (i : Int))] [] (mwr (mwr b 235 19 u) 235 16 v) = some ((0, lkF (mrd b 239) N i), mwr (mwr b 235 19 u) 235 16 v) := fun u v i => by
    rw [m_look2 ((hx.wr (by decide) (by decide)).wr (by decide) (by decide)) (by omega)]
    have : mrd (mwr (mwr b 235 19 u) 235 16 v) 239 = mrd b 239 := funext fun j => by rw [rdn1 (by decide), rdn1 (by decide)]
    rw [this]
  have sw9 : ∀ u u' v, mwr (mwr (mwr b 235 19 u) 235 16 v) 235 19 u' = mwr (mwr b 235 19 u') 235 16 v := fun u u' v => by
    refine Prod.ext (funext fun x => funext fun j => ?_) rfl
    show mrd (mwr (mwr (mwr b 235 19 u) 235 16 v) 235 19 u') x j = mrd (mwr (mwr b 235 19 u') 235 16 v) x j
    simp only [rd_wr]
    by_cases c1 : x = 235 ∧ j = 19
    · have c2 : ¬ (x = 235 ∧ j = 16) := by omega
      simp only [if_pos c1, if_neg c2]
    · simp only [if_neg c1]
  induction n with
  | zero =>
    intro m hm0 hl
    have hz : lkF (mrd b 239) N ((q + m : Nat) : Int) = 0 := by unfold lkF; rw [if_neg (by omega)]
    have hlt : lte 0 = false := by decide
    have gi := m_isLetter (d := d) (b := mwr (mwr b 235 19 (wvM (mrd b 239) q m)) 235 16 ((q + m : Nat) : Int)) (x := 0)
    rw [hlt, if_neg (by decide)] at gi
    have g2 := gl (wvM (mrd b 239) q m) ((q + m : Nat) : Int) (q + m)
    rw [hz] at g2
    rw [e193_109, fI, show q + m - q = m by omega]
    simp only [e193_110, e193_111, e193_114, e193_117, e193_120, psh0, psh1, psh3, true_or, or_true, eq_self, Option.bind_some, List.length_nil, List.length_cons, Nat.reduceAdd, Nat.reduceLeDiff, Nat.zero_le, ↓reduceIte, Int.reduceLT, Int.reduceEq, Int.reduceLE, Int.reduceNeg, Int.reduceAdd, Int.reduceMul, Int.reduceSub, ne_eq, not_true_eq_false, not_false_eq_true, and_true, true_and, and_false, false_and, c3lt, c3gt, c3eq, Bool.false_eq_true, isK_wr, inA_wr, inR_wr, hm.1, rde, g2, gi]
  | succ n ih =>
    intro m hm0 hl
    have ci : ((q + m : Nat) : Int) < N := by omega
    have w1 : w32 (((q + m : Nat) : Int) + 1) = ((q + (m + 1) : Nat) : Int) := by rw [w32_id (by omega) (by omega)]; omega
    have wd : w32 (((q + m : Nat) : Int) - (q : Int)) = (m : Int) := by rw [w32_id (by omega) (by omega)]; omega
    obtain ⟨t1, t2, t3, t4, t5, t6⟩ := lk_lte (T := mrd b 239) (i := q + m) (N := N) (hb _ (by omega) ci) (by omega)
    have gi := m_isLetter (d := d) (b := mwr (mwr b 235 19 (wvM (mrd b 239) q m)) 235 16 ((q + m : Nat) : Int)) (x := lkF (mrd b 239) N ((q + m : Nat) : Int))
    have g2 := gl (wvM (mrd b 239) q m) ((q + m : Nat) : Int) (q + m)
    rw [t1] at gi
    rw [e193_109, fI]
    by_cases ht : lte (mrd b 239 ((q + m : Nat) : Int)) = true
    · have hb' : (!lte (mrd b 239 ((q + m : Nat) : Int))) = false := by rw [ht]; rfl
      rw [if_pos ht] at gi
      have ih' := ih (m + 1) (by omega) (fun j hj => by
        by_cases e : j = m
        · rw [e]; exact ht
        · exact hl j (by omega))
      rw [hb', if_neg (by decide), show q + m + 1 = q + (m + 1) by omega, ← ih']
      have hlt := ht
      simp only [lte, decide_eq_true_eq] at hlt
      have hT := t6 (by omega)
      rw [hT] at g2 gi
      by_cases c8 : (m : Int) < 8
      · have bnd := wv_rng (T := mrd b 239) (q := q) m (by omega) hl
        have p := p32 (m := m) (by omega)
        have e1 : wvM (mrd b 239) q m = wv (mrd b 239) q m := if_pos (by omega)
        have e2 : wvM (mrd b 239) q (m + 1) = wv (mrd b 239) q (m + 1) := if_pos (by omega)
        rw [e1] at g2 gi ⊢
        rw [e2]
        have u1 : w64 (wv (mrd b 239) q m * 32) = wv (mrd b 239) q m * 32 := w64_id (by omega) (by omega)
        have u2 : w64 (wv (mrd b 239) q m * 32 + mrd b 239 ((q + m : Nat) : Int)) = wv (mrd b 239) q m * 32 + mrd b 239 ((q + m : Nat) : Int) := w64_id (by omega) (by omega)
        have u4 : w64 (wv (mrd b 239) q m * 32 + mrd b 239 ((q + m : Nat) : Int) - 96) = wv (mrd b 239) q (m + 1) := by
          rw [wv, w64_id (by omega) (by omega)]; omega
        simp only [e193_0, e193_1, e193_2, e193_5, e193_9, e193_12, e193_13, e193_16, e193_19, e193_20, e193_21, e193_24, e193_27, e193_29, e193_32, e193_33, e193_34, e193_37, e193_40, e193_42, e193_45, e193_46, e193_46i, e193_47, e193_50, e193_51, e193_52, e193_55, e193_59, e193_60, e193_63, e193_66, e193_67, e193_70, e193_71, e193_74, e193_77, e193_78, e193_79, e193_82, e193_83, e193_84, e193_85, e193_88, e193_91, e193_92, e193_93, e193_96, e193_99, e193_100, e193_101, e193_104, e193_105, e193_106, e193_110, e193_111, e193_114, e193_117, e193_120, e193_123, e193_124, e193_125, e193_128, e193_129, e193_132, e193_133, e193_135, e193_138, e193_139, e193_142, e193_145, e193_146, e193_147, e193_148, e193_151, e193_154, e193_155, e193_156, e193_159, e193_160, e193_163, e193_166, e193_169, e193_170, e193_170i, e193_171, e193_174, e193_175, e193_176, e193_179, e193_183, e193_184, e193_187, e193_188, e193_191, e193_192, e193_195, e193_198, e193_199, e193_202, e193_205, e193_206, e193_207, e193_211, e193_212, e193_215, e193_218, e193_221, e193_224, e193_225, e193_228, e193_229, e193_232, e193_233, e193_234, e193_237, e193_238, e193_240, e193_241, e193_244, e193_245, e193_246, e193_247, e193_250, e193_253, e193_254, e193_256, e193_257, e193_260, e193_261, e193_261i, e193_262, e193_265, e193_266, e193_267, e193_270, e193_273, e193_274, e193_275, e193_278, e193_279, e193_282, e193_283, e193_284, e193_287, e193_288, e193_291, e193_292, e193_295, e193_298, e193_299, e193_300, e193_303, e193_304, e193_305, e193_308, e193_309, e193_310, e193_313, e193_314, e193_315, e193_316, e193_319, e193_322, e193_323, e193_326, e193_327, e193_330, psh0, psh1, psh3, true_or, or_true, eq_self, Option.bind_some, List.length_nil, List.length_cons, Nat.reduceAdd, Nat.reduceLeDiff, Nat.zero_le, ↓reduceIte, Int.reduceLT, Int.reduceEq, Int.reduceLE, Int.reduceNeg, Int.reduceAdd, Int.reduceMul, Int.reduceSub, ne_eq, not_true_eq_false, not_false_eq_true, and_true, true_and, and_false, false_and, c3lt, c3gt, c3eq, Bool.false_eq_true, isK_wr, inA_wr, inR_wr, hm.1, rde, g2, gi, q15, q19, wd, c8, u1, u2, u4, sw9, w1, wrwr]
      · have e2 : wvM (mrd b 239) q (m + 1) = -1 := if_neg (by omega)
        rw [e2]
        simp only [e193_0, e193_1, e193_2, e193_5, e193_9, e193_12, e193_13, e193_16, e193_19, e193_20, e193_21, e193_24, e193_27, e193_29, e193_32, e193_33, e193_34, e193_37, e193_40, e193_42, e193_45, e193_46, e193_46i, e193_47, e193_50, e193_51, e193_52, e193_55, e193_59, e193_60, e193_63, e193_66, e193_67, e193_70, e193_71, e193_74, e193_77, e193_78, e193_79, e193_82, e193_83, e193_84, e193_85, e193_88, e193_91, e193_92, e193_93, e193_96, e193_99, e193_100, e193_101, e193_104, e193_105, e193_106, e193_110, e193_111, e193_114, e193_117, e193_120, e193_123, e193_124, e193_125, e193_128, e193_129, e193_132, e193_133, e193_135, e193_138, e193_139, e193_142, e193_145, e193_146, e193_147, e193_148, e193_151, e193_154, e193_155, e193_156, e193_159, e193_160, e193_163, e193_166, e193_169, e193_170, e193_170i, e193_171, e193_174, e193_175, e193_176, e193_179, e193_183, e193_184, e193_187, e193_188, e193_191, e193_192, e193_195, e193_198, e193_199, e193_202, e193_205, e193_206, e193_207, e193_211, e193_212, e193_215, e193_218, e193_221, e193_224, e193_225, e193_228, e193_229, e193_232, e193_233, e193_234, e193_237, e193_238, e193_240, e193_241, e193_244, e193_245, e193_246, e193_247, e193_250, e193_253, e193_254, e193_256, e193_257, e193_260, e193_261, e193_261i, e193_262, e193_265, e193_266, e193_267, e193_270, e193_273, e193_274, e193_275, e193_278, e193_279, e193_282, e193_283, e193_284, e193_287, e193_288, e193_291, e193_292, e193_295, e193_298, e193_299, e193_300, e193_303, e193_304, e193_305, e193_308, e193_309, e193_310, e193_313, e193_314, e193_315, e193_316, e193_319, e193_322, e193_323, e193_326, e193_327, e193_330, psh0, psh1, psh3, true_or, or_true, eq_self, Option.bind_some, List.length_nil, List.length_cons, Nat.reduceAdd, Nat.reduceLeDiff, Nat.zero_le, ↓reduceIte, Int.reduceLT, Int.reduceEq, Int.reduceLE, Int.reduceNeg, Int.reduceAdd, Int.reduceMul, Int.reduceSub, ne_eq, not_true_eq_false, not_false_eq_true, and_true, true_and, and_false, false_and, c3lt, c3gt, c3eq, Bool.false_eq_true, isK_wr, inA_wr, inR_wr, hm.1, rde, g2, gi, q15, q19, wd, c8, sw9, w1, wrwr]
    · have hb' : (!lte (mrd b 239 ((q + m : Nat) : Int))) = true := by rw [show lte (mrd b 239 ((q + m : Nat) : Int)) = false by simpa using ht]; rfl
      rw [if_neg ht] at gi
      rw [hb', if_pos rfl, show q + m - q = m by omega]
      simp only [e193_0, e193_1, e193_2, e193_5, e193_9, e193_12, e193_13, e193_16, e193_19, e193_20, e193_21, e193_24, e193_27, e193_29, e193_32, e193_33, e193_34, e193_37, e193_40, e193_42, e193_45, e193_46, e193_46i, e193_47, e193_50, e193_51, e193_52, e193_55, e193_59, e193_60, e193_63, e193_66, e193_67, e193_70, e193_71, e193_74, e193_77, e193_78, e193_79, e193_82, e193_83, e193_84, e193_85, e193_88, e193_91, e193_92, e193_93, e193_96, e193_99, e193_100, e193_101, e193_104, e193_105, e193_106, e193_110, e193_111, e193_114, e193_117, e193_120, e193_123, e193_124, e193_125, e193_128, e193_129, e193_132, e193_133, e193_135, e193_138, e193_139, e193_142, e193_145, e193_146, e193_147, e193_148, e193_151, e193_154, e193_155, e193_156, e193_159, e193_160, e193_163, e193_166, e193_169, e193_170, e193_170i, e193_171, e193_174, e193_175, e193_176, e193_179, e193_183, e193_184, e193_187, e193_188, e193_191, e193_192, e193_195, e193_198, e193_199, e193_202, e193_205, e193_206, e193_207, e193_211, e193_212, e193_215, e193_218, e193_221, e193_224, e193_225, e193_228, e193_229, e193_232, e193_233, e193_234, e193_237, e193_238, e193_240, e193_241, e193_244, e193_245, e193_246, e193_247, e193_250, e193_253, e193_254, e193_256, e193_257, e193_260, e193_261, e193_261i, e193_262, e193_265, e193_266, e193_267, e193_270, e193_273, e193_274, e193_275, e193_278, e193_279, e193_282, e193_283, e193_284, e193_287, e193_288, e193_291, e193_292, e193_295, e193_298, e193_299, e193_300, e193_303, e193_304, e193_305, e193_308, e193_309, e193_310, e193_313, e193_314, e193_315, e193_316, e193_319, e193_322, e193_323, e193_326, e193_327, e193_330, psh0, psh1, psh3, true_or, or_true, eq_self, Option.bind_some, List.length_nil, List.length_cons, Nat.reduceAdd, Nat.reduceLeDiff, Nat.zero_le, ↓reduceIte, Int.reduceLT, Int.reduceEq, Int.reduceLE, Int.reduceNeg, Int.reduceAdd, Int.reduceMul, Int.reduceSub, ne_eq, not_true_eq_false, not_false_eq_true, and_true, true_and, and_false, false_and, c3lt, c3gt, c3eq, Bool.false_eq_true, isK_wr, inA_wr, inR_wr, hm.1, rde, g2, gi]
theorem m_num (hx : RDM b N) {q : Nat} (h15 : mrd b 235 15 = q) (hq : q ≤ N) {l1 : AV} (n : Nat) : ∀ m : Nat, q + m + n = N → (∀ j : Nat, j < m → dgi (mrd b 239 ((q + j : Nat) : Int)) = true) → EV (d + 1) 193 210 [(2, 235), l1] [] (mwr (mwr b 235 17 (dgv (mrd b 239) q (min m 4))) 235 16 ((q + m : Nat) : Int)) = EV (d + 1) 193 273 [(2, 235), l1] [] (mwr (mwr b 235 17 (dgv (mrd b 239) q (min (fI (fun j => !dgi (mrd b 239 j)) (q + m) n - q) 4))) 235 16 ((fI (fun j => !dgi (mrd b 239 j)) (q + m) n : Nat) : Int)) := by
  obtain ⟨hm, e9, h9, hb⟩ := id hx
  have q15 : ∀ u v, mrd (mwr (mwr b 235 17 u) 235 16 v) 235 15 = q := fun u v => by rw [rdn2 (by decide), rdn2 (by decide)]; exact h15
  have q17 : ∀ u v, mrd (mwr (mwr b 235 17 u) 235 16 v) 235 17 = u := fun u v => by rw [rdn2 (by decide), rde]
  have gl : ∀ u v (i : Nat), EV d 189 0 [(2, 235), (0, (i : Int))] [] (mwr (mwr b 235 17 u) 235 16 v) = some ((0, lkF (mrd b 239) N i), mwr (mwr b 235 17 u) 235 16 v) := fun u v i => by
    rw [m_look2 ((hx.wr (by decide) (by decide)).wr (by decide) (by decide)) (by omega)]
    have : mrd (mwr (mwr b 235 17 u) 235 16 v) 239 = mrd b 239 := funext fun j => by rw [rdn1 (by decide), rdn1 (by decide)]
    rw [this]
  have sw9 : ∀ u u' v, mwr (mwr (mwr b 235 17 u) 235 16 v) 235 17 u' = mwr (mwr b 235 17 u') 235 16 v := fun u u' v => by
    refine Prod.ext (funext fun x => funext fun j => ?_) rfl
    show mrd (mwr (mwr (mwr b 235 17 u) 235 16 v) 235 17 u') x j = mrd (mwr (mwr b 235 17 u') 235 16 v) x j
    simp only [rd_wr]
    by_cases c1 : x = 235 ∧ j = 17
    · have c2 : ¬ (x = 235 ∧ j = 16) := by omega
      simp only [if_pos c1, if_neg c2]
    · simp only [if_neg c1]
  induction n with
  | zero =>
    intro m hm0 hl
    have hz : lkF (mrd b 239) N ((q + m : Nat) : Int) = 0 := by unfold lkF; rw [if_neg (by omega)]
    have hlt : dgi 0 = false := by decide
    have gi := m_isDigit (d := d) (b := mwr (mwr b 235 17 (dgv (mrd b 239) q (min m 4))) 235 16 ((q + m : Nat) : Int)) (x := 0)
    rw [hlt, if_neg (by decide)] at gi
    have g2 := gl (dgv (mrd b 239) q (min m 4)) ((q + m : Nat) : Int) (q + m)
    rw [hz] at g2
    rw [e193_210, fI, show q + m - q = m by omega]
    simp only [e193_211, e193_212, e193_215, e193_218, e193_221, psh0, psh1, psh3, true_or, or_true, eq_self, Option.bind_some, List.length_nil, List.length_cons, Nat.reduceAdd, Nat.reduceLeDiff, Nat.zero_le, ↓reduceIte, Int.reduceLT, Int.reduceEq, Int.reduceLE, Int.reduceNeg, Int.reduceAdd, Int.reduceMul, Int.reduceSub, ne_eq, not_true_eq_false, not_false_eq_true, and_true, true_and, and_false, false_and, c3lt, c3gt, c3eq, Bool.false_eq_true, isK_wr, inA_wr, inR_wr, hm.1, rde, g2, gi]
  | succ n ih =>
    intro m hm0 hl
    have ci : ((q + m : Nat) : Int) < N := by omega
    have w1 : w32 (((q + m : Nat) : Int) + 1) = ((q + (m + 1) : Nat) : Int) := by rw [w32_id (by omega) (by omega)]; omega
    have wd : w32 (((q + m : Nat) : Int) - (q : Int)) = (m : Int) := by rw [w32_id (by omega) (by omega)]; omega
    obtain ⟨t1, t2, t3, t4, t5, t6⟩ := lk_lte (T := mrd b 239) (i := q + m) (N := N) (hb _ (by omega) ci) (by omega)
    have gi := m_isDigit (d := d) (b := mwr (mwr b 235 17 (dgv (mrd b 239) q (min m 4))) 235 16 ((q + m : Nat) : Int)) (x := lkF (mrd b 239) N ((q + m : Nat) : Int))
    have g2 := gl (dgv (mrd b 239) q (min m 4)) ((q + m : Nat) : Int) (q + m)
    rw [t2] at gi
    rw [e193_210, fI]
    by_cases ht : dgi (mrd b 239 ((q + m : Nat) : Int)) = true
    · have hb' : (!dgi (mrd b 239 ((q + m : Nat) : Int))) = false := by rw [ht]; rfl
      rw [if_pos ht] at gi
      have ih' := ih (m + 1) (by omega) (fun j hj => by
        by_cases e : j = m
        · rw [e]; exact ht
        · exact hl j (by omega))
      rw [hb', if_neg (by decide), show q + m + 1 = q + (m + 1) by omega, ← ih']
      have hlt := ht
      simp only [dgi, decide_eq_true_eq] at hlt
      have hT := t6 (by omega)
      rw [hT] at g2 gi
      by_cases c8 : (m : Int) < 4
      · have bnd := dgv_rng (T := mrd b 239) (q := q) m (by omega) hl
        have p := p10 (m := m) (by omega)
        have e1 : min m 4 = m := by omega
        have e2 : min (m + 1) 4 = m + 1 := by omega
        rw [e1] at g2 gi ⊢
        rw [e2]
        have u1 : w32 (10 * dgv (mrd b 239) q m) = 10 * dgv (mrd b 239) q m := w32_id (by omega) (by omega)
        have u2 : w32 (10 * dgv (mrd b 239) q m + mrd b 239 ((q + m : Nat) : Int)) = 10 * dgv (mrd b 239) q m + mrd b 239 ((q + m : Nat) : Int) := w32_id (by omega) (by omega)
        have u4 : w32 (10 * dgv (mrd b 239) q m + mrd b 239 ((q + m : Nat) : Int) - 48) = dgv (mrd b 239) q (m + 1) := by
          rw [dgv, w32_id (by omega) (by omega)]; omega
        simp only [e193_0, e193_1, e193_2, e193_5, e193_9, e193_12, e193_13, e193_16, e193_19, e193_20, e193_21, e193_24, e193_27, e193_29, e193_32, e193_33, e193_34, e193_37, e193_40, e193_42, e193_45, e193_46, e193_46i, e193_47, e193_50, e193_51, e193_52, e193_55, e193_59, e193_60, e193_63, e193_66, e193_67, e193_70, e193_71, e193_74, e193_77, e193_78, e193_79, e193_82, e193_83, e193_84, e193_85, e193_88, e193_91, e193_92, e193_93, e193_96, e193_99, e193_100, e193_101, e193_104, e193_105, e193_106, e193_110, e193_111, e193_114, e193_117, e193_120, e193_123, e193_124, e193_125, e193_128, e193_129, e193_132, e193_133, e193_135, e193_138, e193_139, e193_142, e193_145, e193_146, e193_147, e193_148, e193_151, e193_154, e193_155, e193_156, e193_159, e193_160, e193_163, e193_166, e193_169, e193_170, e193_170i, e193_171, e193_174, e193_175, e193_176, e193_179, e193_182, e193_183, e193_184, e193_187, e193_188, e193_191, e193_192, e193_195, e193_198, e193_199, e193_202, e193_205, e193_206, e193_207, e193_211, e193_212, e193_215, e193_218, e193_221, e193_224, e193_225, e193_228, e193_229, e193_232, e193_233, e193_234, e193_237, e193_238, e193_240, e193_241, e193_244, e193_245, e193_246, e193_247, e193_250, e193_253, e193_254, e193_256, e193_257, e193_260, e193_261, e193_261i, e193_262, e193_265, e193_266, e193_267, e193_270, e193_274, e193_275, e193_278, e193_279, e193_282, e193_283, e193_284, e193_287, e193_288, e193_291, e193_292, e193_295, e193_298, e193_299, e193_300, e193_303, e193_304, e193_305, e193_308, e193_309, e193_310, e193_313, e193_314, e193_315, e193_316, e193_319, e193_322, e193_323, e193_326, e193_327, e193_330, psh0, psh1, psh3, true_or, or_true, eq_self, Option.bind_some, List.length_nil, List.length_cons, Nat.reduceAdd, Nat.reduceLeDiff, Nat.zero_le, ↓reduceIte, Int.reduceLT, Int.reduceEq, Int.reduceLE, Int.reduceNeg, Int.reduceAdd, Int.reduceMul, Int.reduceSub, ne_eq, not_true_eq_false, not_false_eq_true, and_true, true_and, and_false, false_and, c3lt, c3gt, c3eq, Bool.false_eq_true, isK_wr, inA_wr, inR_wr, hm.1, rde, g2, gi, q15, q17, wd, c8, u1, u2, u4, sw9, w1, wrwr]
      · have e1 : min m 4 = 4 := by omega
        have e2 : min (m + 1) 4 = 4 := by omega
        rw [e1] at g2 gi ⊢
        rw [e2]
        simp only [e193_0, e193_1, e193_2, e193_5, e193_9, e193_12, e193_13, e193_16, e193_19, e193_20, e193_21, e193_24, e193_27, e193_29, e193_32, e193_33, e193_34, e193_37, e193_40, e193_42, e193_45, e193_46, e193_46i, e193_47, e193_50, e193_51, e193_52, e193_55, e193_59, e193_60, e193_63, e193_66, e193_67, e193_70, e193_71, e193_74, e193_77, e193_78, e193_79, e193_82, e193_83, e193_84, e193_85, e193_88, e193_91, e193_92, e193_93, e193_96, e193_99, e193_100, e193_101, e193_104, e193_105, e193_106, e193_110, e193_111, e193_114, e193_117, e193_120, e193_123, e193_124, e193_125, e193_128, e193_129, e193_132, e193_133, e193_135, e193_138, e193_139, e193_142, e193_145, e193_146, e193_147, e193_148, e193_151, e193_154, e193_155, e193_156, e193_159, e193_160, e193_163, e193_166, e193_169, e193_170, e193_170i, e193_171, e193_174, e193_175, e193_176, e193_179, e193_182, e193_183, e193_184, e193_187, e193_188, e193_191, e193_192, e193_195, e193_198, e193_199, e193_202, e193_205, e193_206, e193_207, e193_211, e193_212, e193_215, e193_218, e193_221, e193_224, e193_225, e193_228, e193_229, e193_232, e193_233, e193_234, e193_237, e193_238, e193_240, e193_241, e193_244, e193_245, e193_246, e193_247, e193_250, e193_253, e193_254, e193_256, e193_257, e193_260, e193_261, e193_261i, e193_262, e193_265, e193_266, e193_267, e193_270, e193_274, e193_275, e193_278, e193_279, e193_282, e193_283, e193_284, e193_287, e193_288, e193_291, e193_292, e193_295, e193_298, e193_299, e193_300, e193_303, e193_304, e193_305, e193_308, e193_309, e193_310, e193_313, e193_314, e193_315, e193_316, e193_319, e193_322, e193_323, e193_326, e193_327, e193_330, psh0, psh1, psh3, true_or, or_true, eq_self, Option.bind_some, List.length_nil, List.length_cons, Nat.reduceAdd, Nat.reduceLeDiff, Nat.zero_le, ↓reduceIte, Int.reduceLT, Int.reduceEq, Int.reduceLE, Int.reduceNeg, Int.reduceAdd, Int.reduceMul, Int.reduceSub, ne_eq, not_true_eq_false, not_false_eq_true, and_true, true_and, and_false, false_and, c3lt, c3gt, c3eq, Bool.false_eq_true, isK_wr, inA_wr, inR_wr, hm.1, rde, g2, gi, q15, q17, wd, c8, w1, wrwr]
    · have hb' : (!dgi (mrd b 239 ((q + m : Nat) : Int))) = true := by rw [show dgi (mrd b 239 ((q + m : Nat) : Int)) = false by simpa using ht]; rfl
      rw [if_neg ht] at gi
      rw [hb', if_pos rfl, show q + m - q = m by omega]
      simp only [e193_0, e193_1, e193_2, e193_5, e193_9, e193_12, e193_13, e193_16, e193_19, e193_20, e193_21, e193_24, e193_27, e193_29, e193_32, e193_33, e193_34, e193_37, e193_40, e193_42, e193_45, e193_46, e193_46i, e193_47, e193_50, e193_51, e193_52, e193_55, e193_59, e193_60, e193_63, e193_66, e193_67, e193_70, e193_71, e193_74, e193_77, e193_78, e193_79, e193_82, e193_83, e193_84, e193_85, e193_88, e193_91, e193_92, e193_93, e193_96, e193_99, e193_100, e193_101, e193_104, e193_105, e193_106, e193_110, e193_111, e193_114, e193_117, e193_120, e193_123, e193_124, e193_125, e193_128, e193_129, e193_132, e193_133, e193_135, e193_138, e193_139, e193_142, e193_145, e193_146, e193_147, e193_148, e193_151, e193_154, e193_155, e193_156, e193_159, e193_160, e193_163, e193_166, e193_169, e193_170, e193_170i, e193_171, e193_174, e193_175, e193_176, e193_179, e193_182, e193_183, e193_184, e193_187, e193_188, e193_191, e193_192, e193_195, e193_198, e193_199, e193_202, e193_205, e193_206, e193_207, e193_211, e193_212, e193_215, e193_218, e193_221, e193_224, e193_225, e193_228, e193_229, e193_232, e193_233, e193_234, e193_237, e193_238, e193_240, e193_241, e193_244, e193_245, e193_246, e193_247, e193_250, e193_253, e193_254, e193_256, e193_257, e193_260, e193_261, e193_261i, e193_262, e193_265, e193_266, e193_267, e193_270, e193_274, e193_275, e193_278, e193_279, e193_282, e193_283, e193_284, e193_287, e193_288, e193_291, e193_292, e193_295, e193_298, e193_299, e193_300, e193_303, e193_304, e193_305, e193_308, e193_309, e193_310, e193_313, e193_314, e193_315, e193_316, e193_319, e193_322, e193_323, e193_326, e193_327, e193_330, psh0, psh1, psh3, true_or, or_true, eq_self, Option.bind_some, List.length_nil, List.length_cons, Nat.reduceAdd, Nat.reduceLeDiff, Nat.zero_le, ↓reduceIte, Int.reduceLT, Int.reduceEq, Int.reduceLE, Int.reduceNeg, Int.reduceAdd, Int.reduceMul, Int.reduceSub, ne_eq, not_true_eq_false, not_false_eq_true, and_true, true_and, and_false, false_and, c3lt, c3gt, c3eq, Bool.false_eq_true, isK_wr, inA_wr, inR_wr, hm.1, rde, g2, gi]
end

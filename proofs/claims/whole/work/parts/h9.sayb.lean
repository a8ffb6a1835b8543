/-! the reference's sayable: a set's row -/
def RQ (g0 g : AM) : Prop := g.2 = g0.2 ∧ ∀ a i, a ≠ 250 → mrd g a i = mrd g0 a i
theorem CM_rq {g g' : AM} (hm : CM g) (hsp : RQ g g') : CM g' := by
  refine ⟨(isK_eq hsp.1).mpr hm.1, Shp_eq hsp.1 hm.2.1, fun q hq => ?_⟩
  have hn : ∀ q ∈ refT, q.1 ≠ 250 := by decide +kernel
  exact (hsp.2 _ _ (hn q hq)).trans (hm.2.2 q hq)
theorem SF.rq {h h1 h2 : AM} (hf : SF h h1) (a : RQ h1 h2) : SF h h2 := by
  refine hf.st a.1 (fun x i hn => a.2 x i (fun z => hn ?_)) (a.2 _ _ (by decide))
  rw [z]; exact Or.inl (by decide +kernel)
def RowR (g g0 : AM) (N m st : Nat) : Prop := ∀ T : Nat, T ≠ 0 → T < st → ∀ c : Nat, c < 18 → mrd g 250 ((18 * T + c : Nat) : Int) = RV (okO g0) (vwM g0) m N T c
def kR (g0 : AM) (N m st c li : Nat) : Int := sm (fun l => if (st.testBit l && okO g0 (st - 2 ^ l) l) = true then KR (okO g0) (vwM g0) m N c (st - 2 ^ l) l else 0) li
theorem advR_nn {m v c : Nat} {g : Nat → Int} (m9 : m ≤ 9) (hv : v < 2) (hg : ∀ c, c < 18 → 0 ≤ g c) : ∀ j, j ≤ m → 0 ≤ advR m v g c j ∧ advR m v g c j ≤ advR m v g c m := by
  intro j hj
  have nn : ∀ r, r < m → 0 ≤ (if c = 9 * v then g (9 * (1 - v) + r) else 0) + (if c = 9 * v + r + 1 ∧ r + 1 < m then g (9 * v + r) else 0) := fun r hr => by
    have h1 := hg (9 * (1 - v) + r) (by omega)
    have h2 := hg (9 * v + r) (by omega)
    split <;> split <;> omega
  exact sm_mono nn (m - j) j (by omega)
section
variable {ok : Nat → Nat → Bool} {vw : Nat → Bool} {m N : Nat}
theorem KR_nn (N12 : N ≤ 12) (m1 : 1 ≤ m) (m9 : m ≤ 9) {U l c : Nat} (hU : U < 4096) : 0 ≤ KR ok vw m N c U l := by
  unfold KR
  by_cases z : U = 0
  · rw [if_pos z]
    split <;> omega
  · rw [if_neg z]
    exact (advR_nn m9 vn_lt (RV_B N12 m1 m9 hU).1 m (Nat.le_refl _)).1
end
theorem kR_bd {g0 : AM} {N m st c : Nat} (N12 : N ≤ 12) (m1 : 1 ≤ m) (m9 : m ≤ 9) (hst : st < 4096) (hc : c < 18) : ∀ li, li ≤ N → 0 ≤ kR g0 N m st c li ∧ kR g0 N m st c li ≤ 8916100448256 := by
  intro li hli
  have q := sm_mono (a := fun l => if (st.testBit l && okO g0 (st - 2 ^ l) l) = true then KR (okO g0) (vwM g0) m N c (st - 2 ^ l) l else 0) (n := N) (fun l hl => by
    split
    · exact KR_nn N12 m1 m9 (Nat.lt_of_le_of_lt (Nat.sub_le _ _) hst)
    · exact Int.le_refl _) (N - li) li (by omega)
  rw [← RV_rec] at q
  obtain ⟨b1, b2, b3⟩ := RV_B (ok := okO g0) (vw := vwM g0) N12 m1 m9 hst
  have := sm_mem (a := RV (okO g0) (vwM g0) m N st) 18 hc b1
  unfold kR
  omega
set_option maxHeartbeats 1000000 in
theorem m_sb_in {d : Nat} {g0 : AM} {N m st : Nat} {x A B : Int} (hm0 : CM g0) (hN : mrd g0 240 1 = N) (N12 : N ≤ 12) (hst : st < 2 ^ N) (st0 : st ≠ 0) (m1 : 1 ≤ m) (m9 : m ≤ 9) (hs : mrd g0 240 3 = m) (n : Nat) : ∀ (li : Nat) (g : AM), li + n = N → RQ g0 g → RowR g g0 N m st → (∀ c : Nat, c < 18 → mrd g 250 ((18 * st + c : Nat) : Int) = kR g0 N m st c li) → ∃ g', EV (d + 2) 302 86 [(2, 235), (0, x), (1, A), (3, 1), (1, B), (3, 1), (0, (st : Int)), (0, (li : Int))] [] g = EV (d + 2) 302 146 [(2, 235), (0, x), (1, A), (3, 1), (1, B), (3, 1), (0, (st : Int)), (0, (N : Int))] [] g' ∧ RQ g0 g' ∧ RowR g' g0 N m (st + 1) := by
  have hp := pow_13 N12
  induction n with
  | zero =>
    intro li g hi hq hU e1
    have e : li = N := by omega
    subst e
    have cm := CM_rq hm0 hq
    have i1 := inC cm (j := 1) (by decide) (by decide)
    have a2 : mrd g 240 1 = li := by rw [hq.2 _ _ (by decide)]; exact hN
    refine ⟨g, ?_, hq, fun T T0 hT c hc => ?_⟩
    · rw [e302_86]
      simp only [e302_0, e302_1, e302_2, e302_5, e302_6, e302_7, e302_10, e302_11, e302_12, e302_13, e302_16, e302_19, e302_22, e302_23, e302_24, e302_27, e302_28, e302_29, e302_32, e302_33, e302_34, e302_35, e302_37, e302_38, e302_42, e302_43, e302_44, e302_47, e302_48, e302_49, e302_50, e302_53, e302_54, e302_58, e302_60, e302_63, e302_64, e302_67, e302_69, e302_71, e302_72, e302_74, e302_75, e302_76, e302_77, e302_80, e302_83, e302_84, e302_88, e302_89, e302_92, e302_93, e302_94, e302_97, e302_99, e302_101, e302_104, e302_107, e302_108, e302_110, e302_111, e302_113, e302_114, e302_115, e302_116, e302_117, e302_119, e302_122, e302_125, e302_126, e302_128, e302_129, e302_131, e302_132, e302_133, e302_134, e302_135, e302_137, e302_140, e302_143, e302_148, e302_151, e302_152, e302_155, e302_158, e302_159, e302_160, e302_163, e302_165, e302_166, e302_167, e302_168, e302_169, e302_173, e302_175, e302_178, e302_180, e302_181, e302_184, e302_186, e302_188, e302_189, e302_191, e302_192, e302_193, e302_194, e302_196, e302_199, e302_202, e302_205, e302_208, e302_209, e302_210, e302_211, e302_214, e302_215, e302_217, e302_220, e302_223, e302_224, e302_226, e302_227, e302_230, psh0, psh1, psh3, true_or, or_true, eq_self, Option.bind_some, List.length_nil, List.length_cons, Nat.reduceAdd, Nat.reduceLeDiff, Nat.zero_le, ↓reduceIte, Int.reduceLT, Int.reduceEq, Int.reduceLE, Int.reduceNeg, Int.reduceAdd, Int.reduceMul, Int.reduceSub, ne_eq, not_true_eq_false, not_false_eq_true, and_true, true_and, and_false, false_and, c3lt, c3gt, c3eq, Bool.false_eq_true, isK_wr, inA_wr, inR_wr, cm.1, mC cm, i1, a2, Int.lt_irrefl]
    · by_cases e : T = st
      · rw [e, e1 c hc, RV_rec]
        rfl
      · exact hU T T0 (by omega) c hc
  | succ n ih =>
    intro li g hi hq hU e1
    have cm := CM_rq hm0 hq
    have i1 := inC cm (j := 1) (by decide) (by decide)
    have a2 : mrd g 240 1 = N := by rw [hq.2 _ _ (by decide)]; exact hN
    have ci : (li : Int) < N := by omega
    have w1 : w32 ((li : Int) + 1) = ((li + 1 : Nat) : Int) := by rw [w32_id (by omega) (by omega)]; omega
    have gh := m_has (d := d + 1) (h := g) (x := (st : Int)) (l := (li : Int)) (by omega) (by omega)
    rw [Int.toNat_natCast, bI_nat (by omega)] at gh
    have eS : ∀ c, kR g0 N m st c (li + 1) = kR g0 N m st c li + (if (st.testBit li && okO g0 (st - 2 ^ li) li) = true then KR (okO g0) (vwM g0) m N c (st - 2 ^ li) li else 0) := fun c => rfl
    cases hb : st.testBit li with
    | false =>
      rw [hb] at gh
      have eS' : ∀ c, kR g0 N m st c (li + 1) = kR g0 N m st c li := fun c => by rw [eS c, hb, Bool.false_and]; simp
      obtain ⟨g', f1, f2, f3⟩ := ih (li + 1) g (by omega) hq hU (fun c hc => by rw [e1 c hc, eS' c])
      refine ⟨g', ?_, f2, f3⟩
      rw [← f1, e302_86]
      simp only [e302_0, e302_1, e302_2, e302_5, e302_6, e302_7, e302_10, e302_11, e302_12, e302_13, e302_16, e302_19, e302_22, e302_23, e302_24, e302_27, e302_28, e302_29, e302_32, e302_33, e302_34, e302_35, e302_37, e302_38, e302_42, e302_43, e302_44, e302_47, e302_48, e302_49, e302_50, e302_53, e302_54, e302_58, e302_60, e302_63, e302_64, e302_67, e302_69, e302_71, e302_72, e302_74, e302_75, e302_76, e302_77, e302_80, e302_83, e302_84, e302_88, e302_89, e302_92, e302_93, e302_94, e302_97, e302_99, e302_101, e302_104, e302_107, e302_108, e302_110, e302_111, e302_113, e302_114, e302_115, e302_116, e302_117, e302_119, e302_122, e302_125, e302_126, e302_128, e302_129, e302_131, e302_132, e302_133, e302_134, e302_135, e302_137, e302_140, e302_143, e302_148, e302_151, e302_152, e302_155, e302_158, e302_159, e302_160, e302_163, e302_165, e302_166, e302_167, e302_168, e302_169, e302_173, e302_175, e302_178, e302_180, e302_181, e302_184, e302_186, e302_188, e302_189, e302_191, e302_192, e302_193, e302_194, e302_196, e302_199, e302_202, e302_205, e302_208, e302_209, e302_210, e302_211, e302_214, e302_215, e302_217, e302_220, e302_223, e302_224, e302_226, e302_227, e302_230, psh0, psh1, psh3, true_or, or_true, eq_self, Option.bind_some, List.length_nil, List.length_cons, Nat.reduceAdd, Nat.reduceLeDiff, Nat.zero_le, ↓reduceIte, Int.reduceLT, Int.reduceEq, Int.reduceLE, Int.reduceNeg, Int.reduceAdd, Int.reduceMul, Int.reduceSub, ne_eq, not_true_eq_false, not_false_eq_true, and_true, true_and, and_false, false_and, c3lt, c3gt, c3eq, Bool.false_eq_true, isK_wr, inA_wr, inR_wr, cm.1, mC cm, i1, a2, ci, gh, w1]
    | true =>
      rw [hb] at gh
      obtain ⟨h1, h2, h3⟩ := bit_del hb
      have hlt := del_lt hb
      have er := i_del (t := st) (l := li) (by omega) (by omega) hb
      obtain ⟨R, hR⟩ : ∃ R, R = st - 2 ^ li := ⟨_, rfl⟩
      simp only [← hR] at er hlt h3 eS h2
      have go := m_isOpenTo (d := d) (x := (R : Int)) (l := (li : Int)) cm (by omega) (by omega)
      rw [hq.2 240 _ (by decide)] at go
      by_cases co : opn (R : Int) (mrd g0 240 (52 + li)) (li : Int)
      · rw [if_pos co] at go
        have eS' : ∀ c, kR g0 N m st c (li + 1) = kR g0 N m st c li + KR (okO g0) (vwM g0) m N c R li := fun c => by
          rw [eS c, hb, if_pos (by unfold okO; rw [decide_eq_true co]; rfl)]
        have evw : vwM g li = vwM g0 li := by unfold vwM; rw [hq.2 240 _ (by decide)]
        have rowR : R ≠ 0 → ∀ c, c < 18 → mrd g 250 ((18 * R + c : Nat) : Int) = RV (okO g0) (vwM g0) m N R c := fun z c hc => hU R z hlt c hc
        have bd := fun c (hc : c < 18) => kR_bd (g0 := g0) (m := m) (st := st) (c := c) N12 m1 m9 (by omega) hc
        have adv9 : R ≠ 0 → ∀ c j, j ≤ m → advR m (vn (vwM g li)) (fun c => mrd g 250 ((18 * R + c : Nat) : Int)) c j = advR m (vn (vwM g0 li)) (RV (okO g0) (vwM g0) m N R) c j := fun z c j hj => by
          rw [evw]
          have hv := vn_lt (b := vwM g0 li)
          refine sm_congr j (fun r hr => ?_)
          have y1 := rowR z (9 * (1 - vn (vwM g0 li)) + r) (by omega)
          have y2 := rowR z (9 * vn (vwM g0 li) + r) (by omega)
          simp only [y1, y2]
        obtain ⟨g1, z1, z2, z3, z4, z5⟩ := m_says (d := d) (g := g) (U := R) (l := li) (m := m) cm (by omega) (by omega) h3 m1 m9 (by rw [hq.2 _ _ (by decide)]; exact hs) (fun z c hc => by
            rw [← h2, e1 c hc]
            have := bd c hc li (by omega)
            omega) (fun z c j hc hj => by
            rw [← h2, e1 c hc, adv9 z c j hj]
            have b1 := bd c hc li (by omega)
            have b2 := bd c hc (li + 1) (by omega)
            have eK : KR (okO g0) (vwM g0) m N c R li = advR m (vn (vwM g0 li)) (RV (okO g0) (vwM g0) m N R) c m := by unfold KR; rw [if_neg z]
            rw [eS' c, eK] at b2
            have b3 := advR_nn (c := c) m9 (vn_lt (b := vwM g0 li)) (RV_B (ok := okO g0) (vw := vwM g0) N12 m1 m9 (show R < 4096 by omega)).1 j hj
            omega)
        rw [← h2] at z4 z5
        have q1 : RQ g0 g1 := ⟨z2.trans hq.1, fun a i ha => by rw [z3 a i ha]; exact hq.2 a i ha⟩
        obtain ⟨g', f1, f2, f3⟩ := ih (li + 1) g1 (by omega) q1 (fun T T0 hT c hc => by
          rw [z4 _ (by omega)]
          exact hU T T0 hT c hc) (fun c hc => by
          rw [z5 c hc, e1 c hc, eS' c]
          congr 1
          unfold KR
          by_cases z : R = 0
          · rw [if_pos z, if_pos z, evw]
          · rw [if_neg z, if_neg z, adv9 z c m (Nat.le_refl _)])
        refine ⟨g', ?_, f2, f3⟩
        rw [← f1, e302_86]
        simp only [e302_0, e302_1, e302_2, e302_5, e302_6, e302_7, e302_10, e302_11, e302_12, e302_13, e302_16, e302_19, e302_22, e302_23, e302_24, e302_27, e302_28, e302_29, e302_32, e302_33, e302_34, e302_35, e302_37, e302_38, e302_42, e302_43, e302_44, e302_47, e302_48, e302_49, e302_50, e302_53, e302_54, e302_58, e302_60, e302_63, e302_64, e302_67, e302_69, e302_71, e302_72, e302_74, e302_75, e302_76, e302_77, e302_80, e302_83, e302_84, e302_88, e302_89, e302_92, e302_93, e302_94, e302_97, e302_99, e302_101, e302_104, e302_107, e302_108, e302_110, e302_111, e302_113, e302_114, e302_115, e302_116, e302_117, e302_119, e302_122, e302_125, e302_126, e302_128, e302_129, e302_131, e302_132, e302_133, e302_134, e302_135, e302_137, e302_140, e302_143, e302_148, e302_151, e302_152, e302_155, e302_158, e302_159, e302_160, e302_163, e302_165, e302_166, e302_167, e302_168, e302_169, e302_173, e302_175, e302_178, e302_180, e302_181, e302_184, e302_186, e302_188, e302_189, e302_191, e302_192, e302_193, e302_194, e302_196, e302_199, e302_202, e302_205, e302_208, e302_209, e302_210, e302_211, e302_214, e302_215, e302_217, e302_220, e302_223, e302_224, e302_226, e302_227, e302_230, psh0, psh1, psh3, true_or, or_true, eq_self, Option.bind_some, List.length_nil, List.length_cons, Nat.reduceAdd, Nat.reduceLeDiff, Nat.zero_le, ↓reduceIte, Int.reduceLT, Int.reduceEq, Int.reduceLE, Int.reduceNeg, Int.reduceAdd, Int.reduceMul, Int.reduceSub, ne_eq, not_true_eq_false, not_false_eq_true, and_true, true_and, and_false, false_and, c3lt, c3gt, c3eq, Bool.false_eq_true, isK_wr, inA_wr, inR_wr, cm.1, mC cm, i1, a2, ci, gh, er, go, z1, w1]
      · rw [if_neg co] at go
        have eS' : ∀ c, kR g0 N m st c (li + 1) = kR g0 N m st c li := fun c => by
          rw [eS c, if_neg (by unfold okO; rw [decide_eq_false co]; simp), Int.add_zero]
        obtain ⟨g', f1, f2, f3⟩ := ih (li + 1) g (by omega) hq hU (fun c hc => by rw [e1 c hc, eS' c])
        refine ⟨g', ?_, f2, f3⟩
        rw [← f1, e302_86]
        simp only [e302_0, e302_1, e302_2, e302_5, e302_6, e302_7, e302_10, e302_11, e302_12, e302_13, e302_16, e302_19, e302_22, e302_23, e302_24, e302_27, e302_28, e302_29, e302_32, e302_33, e302_34, e302_35, e302_37, e302_38, e302_42, e302_43, e302_44, e302_47, e302_48, e302_49, e302_50, e302_53, e302_54, e302_58, e302_60, e302_63, e302_64, e302_67, e302_69, e302_71, e302_72, e302_74, e302_75, e302_76, e302_77, e302_80, e302_83, e302_84, e302_88, e302_89, e302_92, e302_93, e302_94, e302_97, e302_99, e302_101, e302_104, e302_107, e302_108, e302_110, e302_111, e302_113, e302_114, e302_115, e302_116, e302_117, e302_119, e302_122, e302_125, e302_126, e302_128, e302_129, e302_131, e302_132, e302_133, e302_134, e302_135, e302_137, e302_140, e302_143, e302_148, e302_151, e302_152, e302_155, e302_158, e302_159, e302_160, e302_163, e302_165, e302_166, e302_167, e302_168, e302_169, e302_173, e302_175, e302_178, e302_180, e302_181, e302_184, e302_186, e302_188, e302_189, e302_191, e302_192, e302_193, e302_194, e302_196, e302_199, e302_202, e302_205, e302_208, e302_209, e302_210, e302_211, e302_214, e302_215, e302_217, e302_220, e302_223, e302_224, e302_226, e302_227, e302_230, psh0, psh1, psh3, true_or, or_true, eq_self, Option.bind_some, List.length_nil, List.length_cons, Nat.reduceAdd, Nat.reduceLeDiff, Nat.zero_le, ↓reduceIte, Int.reduceLT, Int.reduceEq, Int.reduceLE, Int.reduceNeg, Int.reduceAdd, Int.reduceMul, Int.reduceSub, ne_eq, not_true_eq_false, not_false_eq_true, and_true, true_and, and_false, false_and, c3lt, c3gt, c3eq, Bool.false_eq_true, isK_wr, inA_wr, inR_wr, cm.1, mC cm, i1, a2, ci, gh, er, go, w1]

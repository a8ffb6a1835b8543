section
variable {ok ok' : Nat → Nat → Bool} {N : Nat} {n : Int}
theorem G_congr (hok : ∀ T l, T < 2 ^ N → l < N → ok T l = true → T.testBit l = false) (he : ∀ T l, l < N → ok' T l = ok T l) : ∀ (m T : Nat), 2 ^ N - T ≤ m → T < 2 ^ N → Gy ok' N n T = Gy ok N n T ∧ fI (gP ok' N n T) 0 N = fI (gP ok N n T) 0 N := by
  have hok' : ∀ T l, T < 2 ^ N → l < N → ok' T l = true → T.testBit l = false := fun T l hT hl ho => hok T l hT hl (by rw [← he T l hl]; exact ho)
  intro m
  induction m with
  | zero => intro T z1 z2; omega
  | succ m ihm =>
    intro T z1 z2
    have key : fI (gP ok' N n T) 0 N = fI (gP ok N n T) 0 N := fI_congr N 0 (fun l _ hl => by
      unfold gP
      rw [he T l (by omega)]
      cases ho : ok T l with
      | false => rfl
      | true =>
        have hb := hok T l z2 (by omega) ho
        have hpl := Nat.two_pow_pos l
        rw [(ihm (T + 2 ^ l) (by omega) (ins_lt z2 (by omega) hb)).1])
    refine ⟨?_, key⟩
    rw [G_rec hok' z2, G_rec hok z2, key]
theorem pt_congr (hok : ∀ T l, T < 2 ^ N → l < N → ok T l = true → T.testBit l = false) (he : ∀ T l, l < N → ok' T l = ok T l) (N12 : N ≤ 12) (hG : Gy ok N n 0 = true) : ∀ p : Nat, (p : Int) ≤ n → pt ok' N n p = pt ok N n p ∧ ((p : Int) < n → wyF ok' N n p = wyF ok N n p) := by
  intro p
  induction p with
  | zero =>
    intro _
    refine ⟨rfl, fun h => ?_⟩
    have h0 : 0 < 2 ^ N := Nat.two_pow_pos N
    show ((fI (gP ok' N n 0) 0 N : Nat) : Int) = ((fI (gP ok N n 0) 0 N : Nat) : Int)
    rw [(G_congr hok he (2 ^ N) 0 (by omega) h0).2]
  | succ p ih =>
    intro hp
    obtain ⟨i1, i2⟩ := ih (by omega)
    have a1 := (pt_ok hok N12 hG p (by omega)).1
    have b1 := (pt_ok hok N12 hG (p + 1) hp).1
    have e : pt ok' N n (p + 1) = pt ok N n (p + 1) := by
      rw [pt, pt, i1, (G_congr hok he (2 ^ N) _ (by omega) a1).2]
    refine ⟨e, fun h => ?_⟩
    show ((fI (gP ok' N n (pt ok' N n (p + 1))) 0 N : Nat) : Int) = ((fI (gP ok N n (pt ok N n (p + 1))) 0 N : Nat) : Int)
    rw [e, (G_congr hok he (2 ^ N) _ (by omega) b1).2]
end
/-- the told name is laid and filled, whatever else of the class has changed -/
theorem m_told_ok {d : Nat} {h g : AM} {s t n : Int} (ds : DS h s) (cm : CM g) (c4 : ∀ i, mrd g 240 i = mrd h 240 i) (e37 : ∀ i, mrd g 237 i = mrd h 237 i) (e38 : ∀ i, mrd g 238 i = mrd h 238 i) (N : Nat) (hN : mrd h 240 1 = N) (cT : TS h t n = 0) : ∃ g', EV (d + 3) 289 0 [(2, 235), (0, t), (0, n), (3, 0)] [] g = some ((0, 1), g') ∧ g'.2 = g.2 ∧ (∀ a i, a ≠ 243 → a ≠ 244 → a ≠ 245 → a ≠ 246 → ¬ (a = 235 ∧ i = 27) → mrd g' a i = mrd g a i) ∧ CM g' ∧ mrd g' 235 27 = n ∧ (∀ p : Nat, (p : Int) < n → mrd g' 243 p = tdF h t p ∧ tdF h t p ≠ 0) ∧ RowsU g' g' N (2 ^ N) := by
  obtain ⟨d5, d6, d7, d8, dl, dc⟩ := ds
  have hRW : RW h t n 0 = 0 := by
    unfold TS at cT
    by_cases c : RW h t n 0 = 0
    · exact c
    · rw [if_neg c] at cT; exact cT
  have cT' := cT
  unfold TS at cT'
  rw [if_pos hRW] at cT'
  obtain ⟨ct, c3, c4', c5, c6⟩ := RW_0 hRW
  obtain ⟨m, rfl⟩ := Int.eq_ofNat_of_zero_le c5
  rw [show ((m : Int)).toNat = m from rfl] at cT'
  have ca : fI (bdP (tdF h t)) 0 m = m := by
    by_cases c : fI (bdP (tdF h t)) 0 m = m
    · exact c
    · rw [if_neg c] at cT'; omega
  have m5 : mrd g 235 5 = 237 := rf_235_5 cm.2.2
  have gt := m_isTray (d := d + 1) (c := t) cm.1
  rw [if_pos (by omega)] at gt
  have etd : tdF g t = tdF h t := funext fun p => e38 _
  have j2 : inA g 237 16 t := ⟨kn_237 cm.2.1, ct.1, by rw [ln_237 cm.2.1]; omega⟩
  have gl := m_told_loop (d := d + 2) cm ct.1 ct.2 m (by omega) m 0 (by omega)
  rw [show ((0 : Nat) : Int) = 0 from rfl, mff_0, etd, if_pos ca] at gl
  have hall := fI_all ca
  have hnz : ∀ p : Nat, (p : Int) < m → tdF h t p ≠ 0 := fun p hp => by
    have := hall p (by omega)
    unfold bdP at this
    rw [decide_eq_false_iff_not] at this
    have : 1 ≤ tdF h t p ∧ tdF h t p ≤ 26 := Classical.byContradiction fun z => this z
    omega
  obtain ⟨g1, hg1⟩ : ∃ g1, g1 = mwr (mff g 243 0 m (tdF h t)) 235 27 m := ⟨_, rfl⟩
  have cm1 : CM g1 := by rw [hg1]; exact CM_wr (by decide +kernel) (CM_ffA rn_243 cm)
  have e27 : mrd g1 235 27 = m := by rw [hg1, rde]
  have er : ∀ p : Nat, (p : Int) < m → mrd g1 243 p = tdF h t p := fun p hp => by
    rw [hg1, rdn1 (by decide), rd_ff, if_pos ⟨rfl, by omega, by omega⟩, Int.sub_zero]
  have e40 : ∀ i, mrd g1 240 i = mrd h 240 i := fun i => by rw [hg1, rdn1 (by decide), rdff (by decide), c4]
  have fr1 : FR g1 N := by
    refine ⟨cm1, by rw [e40]; exact hN, by omega, by rw [e27]; omega, fun p hp => ?_, fun l hl => ?_⟩
    · rw [e27] at hp
      rw [er p hp]
      exact hnz p hp
    · obtain ⟨p1, p2, p3, p4, p5, p6⟩ := dl l (by omega) (by omega)
      rw [e40, e40]
      omega
  obtain ⟨g2, f1, f2, f3⟩ := m_fill (d := d) fr1
  refine ⟨g2, ?_, by rw [f2.1, hg1]; rfl, fun a i y1 y2 y3 y4 y5 => ?_, CM_fq cm1 f2, ?_, fun p hp => ⟨?_, hnz p hp⟩, RowsU_self f2 fr1 f3⟩
  · have gk : isK (mff g 243 0 m (tdF h t)) 235 11 := cm.1
    have c3' : ¬ mrd h 237 t < 0 := by omega
    have c4'' : ¬ mrd h 237 t < m := by omega
    have c56 : 0 ≤ (m : Int) ∧ (m : Int) ≤ 12 := by omega
    simp only [e289_0, e289_1, e289_2, e289_5, e289_8, e289_9, e289_10, e289_13, e289_14, e289_15, e289_18, e289_19, e289_20, e289_23, e289_24, e289_25, e289_28, e289_29, e289_30, e289_33, e289_34, e289_35, e289_36, e289_39, e289_40, e289_41, e289_44, e289_45, e289_46, e289_47, e289_48, e289_51, e289_54, e289_57, e289_58, e289_59, e289_62, e289_63, e289_64, e289_66, e289_67, e289_70, e289_71, e289_72, e289_73, e289_76, e289_77, e289_80, e289_83, e289_86, e289_87, e289_88, e289_91, e289_92, e289_93, e289_96, e289_97, e289_98, e289_99, e289_100, e289_103, e289_104, e289_105, e289_108, e289_112, e289_113, e289_116, e289_117, e289_120, e289_121, psh0, psh1, psh3, true_or, or_true, eq_self, Option.bind_some, List.length_nil, List.length_cons, Nat.reduceAdd, Nat.reduceLeDiff, Nat.zero_le, ↓reduceIte, Int.reduceLT, Int.reduceEq, Int.reduceLE, Int.reduceNeg, Int.reduceAdd, Int.reduceMul, Int.reduceSub, ne_eq, not_true_eq_false, not_false_eq_true, and_true, true_and, and_false, false_and, c3lt, c3gt, c3eq, Bool.false_eq_true, isK_wr, inA_wr, inR_wr, cm.1, gt, m5, j2, e37, c3', c4'', m_isIn, c56]
    refine gl.trans ?_
    rw [e289_111]
    simp only [e289_0, e289_1, e289_2, e289_5, e289_8, e289_9, e289_10, e289_13, e289_14, e289_15, e289_18, e289_19, e289_20, e289_23, e289_24, e289_25, e289_28, e289_29, e289_30, e289_33, e289_34, e289_35, e289_36, e289_39, e289_40, e289_41, e289_44, e289_45, e289_46, e289_47, e289_48, e289_51, e289_54, e289_57, e289_58, e289_59, e289_62, e289_63, e289_64, e289_66, e289_67, e289_70, e289_71, e289_72, e289_73, e289_76, e289_77, e289_80, e289_83, e289_86, e289_87, e289_88, e289_91, e289_92, e289_93, e289_96, e289_97, e289_98, e289_99, e289_100, e289_103, e289_104, e289_105, e289_108, e289_112, e289_113, e289_116, e289_117, e289_120, e289_121, psh0, psh1, psh3, true_or, or_true, eq_self, Option.bind_some, List.length_nil, List.length_cons, Nat.reduceAdd, Nat.reduceLeDiff, Nat.zero_le, ↓reduceIte, Int.reduceLT, Int.reduceEq, Int.reduceLE, Int.reduceNeg, Int.reduceAdd, Int.reduceMul, Int.reduceSub, ne_eq, not_true_eq_false, not_false_eq_true, and_true, true_and, and_false, false_and, c3lt, c3gt, c3eq, Bool.false_eq_true, isK_wr, inA_wr, inR_wr, gk, ← hg1, cm1.1, f1]
  · rw [f2.2 a i y2 y3 y4, hg1, rd_wr, if_neg y5, rdff y1]
  · rw [f2.2 _ _ (by decide) (by decide) (by decide)]; exact e27
  · rw [f2.2 _ _ (by decide) (by decide) (by decide)]
    exact er p hp
set_option maxHeartbeats 4000000 in
theorem op_first : Op_first Inv := by
  intro d h t n hI i0 i1
  obtain ⟨s, e8, hs, k0, kM, cs, ds⟩ := ctx hI
  have ds' := ds
  have ks := cs.1
  have r1 := cs.2.2.1
  have r2 := cs.2.2.2.1
  have r3 := cs.2.2.2.2.1
  have kl := cs.2.2.2.2.2.2.2.2.2.2.2.1
  have kc := cs.2.2.2.2.2.2.2.2.2.2.2.2
  obtain ⟨d5, d6, d7, d8, dl, dc⟩ := ds
  have hm : ∀ v, CM (mwr (mwr (mwr h 0 11 v) 235 1 0) 235 0 0) := fun v => CM_q (CM_of hI)
  obtain ⟨N, hN⟩ : ∃ N : Nat, mrd h 240 1 = N := ⟨(mrd h 240 1).toNat, by omega⟩
  obtain ⟨h1, g1, g2, g3⟩ := x_askTold (d := d + 57) (t := t) (n := n) hI
  have hf1 := (SF.rf hI).sc g2
  have x6 : mrd h 0 6 = 148 := rf_0_6 hI.2.1.1
  by_cases cT : TS h t n = 0
  · obtain ⟨q1, q2⟩ := g3 cT
    rw [cT] at g1
    have hn := TS_n cT
    obtain ⟨L, rfl⟩ := Int.eq_ofNat_of_zero_le hn.1
    have hp := pow_13 (n := N) (by omega)
    obtain ⟨ok, hokd⟩ : ∃ ok, ok = okT h L (fun p => tdF h t p) := ⟨_, rfl⟩
    have hb : ∀ T l, T < 2 ^ N → l < N → ok T l = true → T.testBit l = false := by rw [hokd]; exact okF_hb (by omega)
    have heq1 : ∀ T l, l < N → okX h1 s T l = ok T l := fun T l hl => by rw [hokd]; exact okX_T hs ds' hf1 hN q1 q2 hl
    obtain ⟨hA, sA, h2, c1, c2⟩ := x_findFirst (d := d + 56) hf1.2.1 hf1.2.2.1 (hf1.cm hI).2.2 hs (by rw [hf1.s hs (by omega), d6.1, hN]) (by omega) L q1 (by omega) heq1 hb
    have hfA := hf1.sc sA
    have e8' : mrd h1 0 8 = s := hf1.e8.trans e8
    have x6' : mrd h1 0 6 = 148 := (fr0 hf1.1 (by decide)).trans x6
    have gw := G_W (n := (L : Int)) hb (by omega) (by omega)
    rcases c2 with ⟨cg, rfl⟩ | ⟨cg, ch⟩
    · rw [cg] at c1
      have c1' : EV (d + 59) 90 0 [(2, 148), (2, s), (3, 0), (3, 0), (3, 0)] [] h1 = some ((0, 0), h2) := c1
      have hz : alF (Wy ok N) L (2 ^ N) = 0 := Classical.byContradiction fun z => by
        have := gw.mpr z
        rw [cg] at this
        cases this
      refine opSF hI (-1) 8 ⟨mwr h2 0 11 8, ?_, hfA.wr Scr_st (by omega), rde⟩ (fun h3 hf3 => ?_)
      · simp only [e142_0, e142_1, e142_2, e142_3, e142_6, e142_7, e142_8, e142_11, e142_12, e142_13, e142_16, e142_17, e142_18, e142_21, e142_22, e142_25, e142_28, e142_31, e142_32, e142_33, e142_36, e142_39, e142_42, e142_45, e142_46, e142_48, e142_51, psh0, psh1, psh3, true_or, or_true, eq_self, Option.bind_some, List.length_nil, List.length_cons, Nat.reduceAdd, Nat.reduceLeDiff, Nat.zero_le, ↓reduceIte, Int.reduceLT, Int.reduceEq, Int.reduceLE, Int.reduceNeg, Int.reduceAdd, Int.reduceMul, Int.reduceSub, ne_eq, not_true_eq_false, not_false_eq_true, and_true, true_and, and_false, false_and, c3lt, c3gt, c3eq, Bool.false_eq_true, isK_wr, inA_wr, inR_wr, k0, g1, hf1.k0, x6', e8', kn_148 hf1.2.1, c1', hfA.k0, x_refuse]
      · have cm2 := hf3.cm hI
        have hfq : SF h (mwr (mwr h3 235 1 0) 235 0 0) := hf3.q
        obtain ⟨g', f1, f2, f3, f4, f5⟩ := m_isTold (d := d + 56) (t := t) (n := (L : Int)) hI hfq N hN
        obtain ⟨f6, l1, l2, l3, l4⟩ := f4 cT
        rw [if_pos cT] at f1
        have ga := ms_allWays (d := d + 57) (x := (L : Int)) (n := (L : Int)) (f := fun p => tdF h t p) hI f2 hN (by omega) l1 l2 l3
        rw [← hokd, hz] at ga
        refine ⟨mwr g' 235 0 8, ?_, f2.wr Scr_m0 (by omega), rde, by rw [rdn1 (by decide), f3]; exact q00.2⟩
        simp only [e294_0, e294_1, e294_2, e294_5, e294_6, e294_7, e294_10, e294_11, e294_12, e294_13, e294_16, e294_19, e294_20, e294_21, e294_22, e294_23, e294_26, e294_27, e294_28, e294_31, e294_32, e294_34, e294_37, e294_38, e294_39, e294_40, e294_43, e294_44, e294_45, e294_46, e294_47, e294_48, e294_50, e294_53, e294_54, e294_57, e294_59, e294_60, e294_63, e294_64, e294_66, e294_67, e294_70, e294_71, e294_74, e294_75, e294_75z, e294_76, e294_78, e294_79, e294_82, e294_85, e294_86, e294_90, e294_91, e294_94, e294_95, e294_96, e294_99, e294_100, e294_101, e294_103, e294_106, e294_109, e294_110, e294_113, e294_114, e294_116, e294_117, e294_118, e294_119, e294_122, e294_124, e294_125, e294_128, e294_129, e294_132, e294_133, e294_134, e294_136, e294_137, e294_138, e294_138z, e294_139, e294_142, e294_143, e294_146, e294_147, e294_148, e294_148z, e294_149, e294_152, e294_155, e294_158, e294_161, e294_162, e294_163, e294_164, e294_168, e294_169, e294_172, e294_173, e294_176, e294_177, e294_179, e294_182, e294_185, e294_186, e294_189, e294_190, e294_192, e294_193, e294_194, e294_195, e294_198, e294_200, e294_201, e294_204, e294_205, e294_208, e294_209, e294_210, e294_212, e294_213, e294_214, e294_214z, e294_215, e294_218, e294_221, e294_224, e294_225, e294_228, e294_230, e294_232, e294_233, e294_234, e294_235, e294_237, e294_238, e294_239, e294_240, e294_243, e294_246, e294_247, e294_248, e294_251, e294_252, psh0, psh1, psh3, true_or, or_true, eq_self, Option.bind_some, List.length_nil, List.length_cons, Nat.reduceAdd, Nat.reduceLeDiff, Nat.zero_le, ↓reduceIte, Int.reduceLT, Int.reduceEq, Int.reduceLE, Int.reduceNeg, Int.reduceAdd, Int.reduceMul, Int.reduceSub, ne_eq, not_true_eq_false, not_false_eq_true, and_true, true_and, and_false, false_and, c3lt, c3gt, c3eq, Bool.false_eq_true, isK_wr, inA_wr, inR_wr, cm2.1, f1, l4.1, ga, m_refuse]
    · rw [cg] at c1
      have c1' : EV (d + 59) 90 0 [(2, 148), (2, s), (3, 0), (3, 0), (3, 0)] [] h1 = some ((0, 1), h2) := c1
      have hnz := gw.mp cg
      have fr2 : ∀ a i, a ≠ 150 → ¬ (a = 148 ∧ i = 3) → mrd h2 a i = mrd hA a i := fun a i y1 y2 => by rw [ch, rd_wr, if_neg y2, rdff y1]
      have k02 : isK h2 0 10 := by rw [ch]; exact hfA.k0
      have k148' : isK h2 148 7 := by rw [ch]; exact kn_148 hfA.2.1
      have x6'' : mrd h2 0 6 = 148 := by rw [fr2 0 6 (by decide) (by omega)]; exact (fr0 hfA.1 (by decide)).trans x6
      have v3 : mrd h2 148 3 = L := by rw [ch, rde]
      obtain ⟨G, hG⟩ : ∃ G, G = mwr (mwr (mwr h2 0 11 0) 235 1 0) 235 0 0 := ⟨_, rfl⟩
      have cm2 : CM h2 := by
        have := hfA.cm hI
        rw [ch]
        exact CM_wr (by decide +kernel) (CM_ffA (by decide +kernel) this)
      have cmG : CM G := by rw [hG]; exact CM_q cm2
      have frG : ∀ a i, a ≠ 150 → ¬ (a = 148 ∧ i = 3) → ¬ Scr a i → mrd G a i = mrd h a i := fun a i y1 y2 y3 => by
        rw [hG, Scr_q y3, fr2 a i y1 y2]
        exact hfA.1 a i y3
      have c40 : ∀ i, mrd G 240 i = mrd h 240 i := fun i => frG _ _ (by decide) (by omega) (ns_A ns240)
      obtain ⟨g', f1, f2, f3, f4, f5, f6, f7⟩ := m_told_ok (d := d + 56) (t := t) (n := (L : Int)) ds' cmG c40 (fun i => frG _ _ (by decide) (by omega) (ns_A (by decide +kernel))) (fun i => frG _ _ (by decide) (by omega) (ns_A (by decide +kernel))) N hN cT
      have c40' : ∀ i, mrd g' 240 i = mrd h 240 i := fun i => by rw [f3 _ _ (by decide) (by decide) (by decide) (by decide) (by omega)]; exact c40 i
      have heqR : ∀ T l, l < N → okR g' T l = ok T l := fun T l hl => by
        rw [hokd]
        unfold okR okT
        rw [f5]
        exact okF_congr (fun p hp => (f6 p hp).1) (c40' _) (c40' _)
      have eW := Wy_congr (N := N) heqR
      have ga := m_allWays (d := d + 57) (x := (L : Int)) (w := Wy ok N) f4 (by rw [c40']; exact hN) (by omega) (fun T hT => ⟨(f7 T hT).1.trans (eW T), W_B (by omega) (by omega)⟩)
      have ff : FF g' N L := ⟨f4, by rw [c40']; exact hN, by omega, f5, by omega, fun p hp => by rw [(f6 p (by omega)).1]; exact (f6 p (by omega)).2⟩
      have eN := shl_pow N (by omega)
      have hp0 := Nat.two_pow_pos N
      have wN : w32 (((2 ^ N : Nat) : Int) - 1) = ((2 ^ N : Nat) : Int) - 1 := w32_id (by omega) (by omega)
      have i1 := inC f4 (j := 1) (by decide) (by decide)
      have a2 : mrd g' 240 1 = N := by rw [c40']; exact hN
      obtain ⟨gB, l4', l5', b1, b2, b3⟩ := m_first_1 (d := d + 58) (t := t) ff (2 ^ N) g' (3, 0) (3, 0) (Nat.le_refl _) ⟨rfl, fun _ _ _ => rfl⟩ (fun T t1 t2 => by omega)
      obtain ⟨ffB, eokB⟩ := FF_hq ff b2
      have heqB : ∀ T l, l < N → okR gB T l = ok T l := by rw [eokB]; exact heqR
      rw [← eokB] at b3
      have gG0 : Gy (okR gB) N L 0 = true := by rw [(G_congr hb heqB (2 ^ N) 0 (by omega) hp0).1]; exact cg
      have b4 := m_first_2 (d := d + 58) (t := t) ffB gG0 b3 L 0 l5' (by omega)
      rw [show ((0 : Nat) : Int) = 0 from rfl, mff_0] at b4
      have cmB := ffB.1
      refine ⟨L, mwr h2 0 11 0, mwr (mff gB 247 0 L (wyF (okR gB) N L)) 235 32 L, ?_, ?_, ?_⟩
      · simp only [e142_0, e142_1, e142_2, e142_3, e142_6, e142_7, e142_8, e142_11, e142_12, e142_13, e142_16, e142_17, e142_18, e142_21, e142_22, e142_25, e142_28, e142_31, e142_32, e142_33, e142_36, e142_39, e142_42, e142_45, e142_46, e142_48, e142_51, psh0, psh1, psh3, true_or, or_true, eq_self, Option.bind_some, List.length_nil, List.length_cons, Nat.reduceAdd, Nat.reduceLeDiff, Nat.zero_le, ↓reduceIte, Int.reduceLT, Int.reduceEq, Int.reduceLE, Int.reduceNeg, Int.reduceAdd, Int.reduceMul, Int.reduceSub, ne_eq, not_true_eq_false, not_false_eq_true, and_true, true_and, and_false, false_and, c3lt, c3gt, c3eq, Bool.false_eq_true, isK_wr, inA_wr, inR_wr, k0, g1, hf1.k0, x6', e8', kn_148 hf1.2.1, c1', k02, x6'', k148', v3, x_answer]
      · simp only [e294_0, e294_1, e294_2, e294_5, e294_6, e294_7, e294_10, e294_11, e294_12, e294_13, e294_16, e294_19, e294_20, e294_21, e294_22, e294_23, e294_26, e294_27, e294_28, e294_31, e294_32, e294_34, e294_37, e294_38, e294_39, e294_40, e294_43, e294_44, e294_45, e294_46, e294_47, e294_48, e294_50, e294_53, e294_54, e294_57, e294_59, e294_60, e294_63, e294_64, e294_66, e294_67, e294_70, e294_71, e294_74, e294_75, e294_75z, e294_76, e294_78, e294_79, e294_82, e294_85, e294_86, e294_90, e294_91, e294_94, e294_95, e294_96, e294_99, e294_100, e294_101, e294_103, e294_106, e294_109, e294_110, e294_113, e294_114, e294_116, e294_117, e294_118, e294_119, e294_122, e294_124, e294_125, e294_128, e294_129, e294_132, e294_133, e294_134, e294_136, e294_137, e294_138, e294_138z, e294_139, e294_142, e294_143, e294_146, e294_147, e294_148, e294_148z, e294_149, e294_152, e294_155, e294_158, e294_162, e294_163, e294_164, e294_168, e294_169, e294_172, e294_173, e294_176, e294_177, e294_179, e294_182, e294_185, e294_186, e294_189, e294_190, e294_192, e294_193, e294_194, e294_195, e294_198, e294_200, e294_201, e294_204, e294_205, e294_208, e294_209, e294_210, e294_212, e294_213, e294_214, e294_214z, e294_215, e294_218, e294_221, e294_224, e294_225, e294_228, e294_230, e294_232, e294_233, e294_234, e294_235, e294_237, e294_238, e294_239, e294_240, e294_243, e294_246, e294_247, e294_248, e294_251, e294_252, psh0, psh1, psh3, true_or, or_true, eq_self, Option.bind_some, List.length_nil, List.length_cons, Nat.reduceAdd, Nat.reduceLeDiff, Nat.zero_le, ↓reduceIte, Int.reduceLT, Int.reduceEq, Int.reduceLE, Int.reduceNeg, Int.reduceAdd, Int.reduceMul, Int.reduceSub, ne_eq, not_true_eq_false, not_false_eq_true, and_true, true_and, and_false, false_and, c3lt, c3gt, c3eq, Bool.false_eq_true, isK_wr, inA_wr, inR_wr, cm2.1, ← hG, cmG.1, f1, f4.1, ga, hnz, mC f4, i1, a2, eN, wN]
        refine b1.trans ?_
        rw [e294_161]
        simp only [e294_0, e294_1, e294_2, e294_5, e294_6, e294_7, e294_10, e294_11, e294_12, e294_13, e294_16, e294_19, e294_20, e294_21, e294_22, e294_23, e294_26, e294_27, e294_28, e294_31, e294_32, e294_34, e294_37, e294_38, e294_39, e294_40, e294_43, e294_44, e294_45, e294_46, e294_47, e294_48, e294_50, e294_53, e294_54, e294_57, e294_59, e294_60, e294_63, e294_64, e294_66, e294_67, e294_70, e294_71, e294_74, e294_75, e294_75z, e294_76, e294_78, e294_79, e294_82, e294_85, e294_86, e294_90, e294_91, e294_94, e294_95, e294_96, e294_99, e294_100, e294_101, e294_103, e294_106, e294_109, e294_110, e294_113, e294_114, e294_116, e294_117, e294_118, e294_119, e294_122, e294_124, e294_125, e294_128, e294_129, e294_132, e294_133, e294_134, e294_136, e294_137, e294_138, e294_138z, e294_139, e294_142, e294_143, e294_146, e294_147, e294_148, e294_148z, e294_149, e294_152, e294_155, e294_158, e294_162, e294_163, e294_164, e294_168, e294_169, e294_172, e294_173, e294_176, e294_177, e294_179, e294_182, e294_185, e294_186, e294_189, e294_190, e294_192, e294_193, e294_194, e294_195, e294_198, e294_200, e294_201, e294_204, e294_205, e294_208, e294_209, e294_210, e294_212, e294_213, e294_214, e294_214z, e294_215, e294_218, e294_221, e294_224, e294_225, e294_228, e294_230, e294_232, e294_233, e294_234, e294_235, e294_237, e294_238, e294_239, e294_240, e294_243, e294_246, e294_247, e294_248, e294_251, e294_252, psh0, psh1, psh3, true_or, or_true, eq_self, Option.bind_some, List.length_nil, List.length_cons, Nat.reduceAdd, Nat.reduceLeDiff, Nat.zero_le, ↓reduceIte, Int.reduceLT, Int.reduceEq, Int.reduceLE, Int.reduceNeg, Int.reduceAdd, Int.reduceMul, Int.reduceSub, ne_eq, not_true_eq_false, not_false_eq_true, and_true, true_and, and_false, false_and, c3lt, c3gt, c3eq, Bool.false_eq_true, isK_wr, inA_wr, inR_wr]
        exact b4
      · have frB : ∀ a i, a ≠ 150 → a ≠ 247 → ¬ (a = 148 ∧ i = 3) → ¬ (a = 235 ∧ i = 32) → ¬ Scr a i → mrd (mwr (mff gB 247 0 L (wyF (okR gB) N L)) 235 32 L) a i = mrd h a i := fun a i y1 y2 y3 y4 y5 => by
          have n43 : a ≠ 243 := fun z => y5 (by rw [z]; exact Or.inl (by decide +kernel))
          have n44 : a ≠ 244 := fun z => y5 (by rw [z]; exact Or.inl (by decide +kernel))
          have n45 : a ≠ 245 := fun z => y5 (by rw [z]; exact Or.inl (by decide +kernel))
          have n46 : a ≠ 246 := fun z => y5 (by rw [z]; exact Or.inl (by decide +kernel))
          have n48 : a ≠ 248 := fun z => y5 (by rw [z]; exact Or.inl (by decide +kernel))
          have n27 : ¬ (a = 235 ∧ i = 27) := fun z => y5 (by rw [z.1, z.2]; exact Or.inr (Or.inr (by decide +kernel)))
          rw [rd_wr, if_neg y4, rdff y2, b2.2 a i n48, f3 a i n43 n44 n45 n46 n27]
          exact frG a i y1 y3 y5
        have e22 : (mwr (mff gB 247 0 L (wyF (okR gB) N L)) 235 32 L).2 = hA.2 := by
          show gB.2 = hA.2
          rw [b2.1, f2, hG]
          show h2.2 = hA.2
          rw [ch]
          rfl
        refine Inv_mk hI (Rel_fst (m := h.1) (fun a i y5 y6 => ?_) hI.2.1 ?_) ?_ ?_ (RSum_eq e22 ?_ hfA.2.2.1) ?_
        · refine frB a i (fun z => y6 ?_) (fun z => y6 ?_) (fun z => y6 ?_) (fun z => y6 ?_) y5
          · rw [z]; exact Or.inl (by decide)
          · rw [z]; exact Or.inl (by decide)
          · rw [z.1, z.2]; exact Or.inr (Or.inl (by decide))
          · rw [z.1, z.2]; exact Or.inr (Or.inl (by decide))
        · refine ⟨⟨?_, ?_, ?_⟩, fun p p0 p1 => ?_⟩
          · show mrd _ 148 3 = mrd _ 235 32
            rw [rde, rdn1 (by decide), rdff (by decide), b2.2 _ _ (by decide), f3 _ _ (by decide) (by decide) (by decide) (by decide) (by omega), hG, rdq (by decide) (by decide)]
            exact v3
          · show 0 ≤ mrd _ 148 3
            rw [rdn1 (by decide), rdff (by decide), b2.2 _ _ (by decide), f3 _ _ (by decide) (by decide) (by decide) (by decide) (by omega), hG, rdq (by decide) (by decide), v3]
            omega
          · show mrd _ 148 3 ≤ 12
            rw [rdn1 (by decide), rdff (by decide), b2.2 _ _ (by decide), f3 _ _ (by decide) (by decide) (by decide) (by decide) (by omega), hG, rdq (by decide) (by decide), v3]
            omega
          · have p1' : p < L := by
              have : p < mrd (mwr (mff gB 247 0 L (wyF (okR gB) N L)) 235 32 L) 148 3 := p1
              rw [rdn1 (by decide), rdff (by decide), b2.2 _ _ (by decide), f3 _ _ (by decide) (by decide) (by decide) (by decide) (by omega), hG, rdq (by decide) (by decide), v3] at this
              exact this
            show mrd _ 150 p = mrd _ 247 p
            obtain ⟨q, rfl⟩ := Int.eq_ofNat_of_zero_le p0
            have ec := (pt_congr (n := (L : Int)) hb heqB (by omega) cg q (by omega)).2 p1'
            rw [rdn1 (by decide), rdff (by decide), b2.2 _ _ (by decide), f3 _ _ (by decide) (by decide) (by decide) (by decide) (by omega), hG, rdq (by decide) (by decide), ch, rdn1 (by decide), rd_ff, if_pos ⟨rfl, by omega, by omega⟩, rdn1 (by decide), rd_ff, if_pos ⟨rfl, by omega, by omega⟩, Int.sub_zero]
            exact ec.symm
        · rw [rdn1 (by decide), rdff (by decide), b2.2 _ _ (by decide), f3 _ _ (by decide) (by decide) (by decide) (by decide) (by omega), hG, rdn1 (by decide), rdn1 (by decide), rde]
          rw [rdn2 (by decide), rdff (by decide), b2.2 _ _ (by decide), f3 _ _ (by decide) (by decide) (by decide) (by decide) (by omega), hG, rde]
        · have := hfA.2.1
          unfold Shp mnx at this ⊢
          rw [e22]; exact this
        · rw [rdn1 (by decide), rdff (by decide), b2.2 _ _ (by decide), f3 _ _ (by decide) (by decide) (by decide) (by decide) (by omega), hG, rdq (by decide) (by decide)]
          exact fr2 _ _ (by decide) (by omega)
        · rw [e22]; exact hfA.2.2.2
  · refine opSF hI (-1) (TS h t n) ⟨mwr h1 0 11 (TS h t n), ?_, hf1.wr Scr_st (by omega), rde⟩ (fun h2 hf2 => ?_)
    · simp only [e142_0, e142_1, e142_2, e142_3, e142_6, e142_7, e142_8, e142_11, e142_12, e142_13, e142_16, e142_17, e142_18, e142_21, e142_22, e142_25, e142_28, e142_31, e142_32, e142_33, e142_36, e142_39, e142_42, e142_45, e142_46, e142_48, e142_51, psh0, psh1, psh3, true_or, or_true, eq_self, Option.bind_some, List.length_nil, List.length_cons, Nat.reduceAdd, Nat.reduceLeDiff, Nat.zero_le, ↓reduceIte, Int.reduceLT, Int.reduceEq, Int.reduceLE, Int.reduceNeg, Int.reduceAdd, Int.reduceMul, Int.reduceSub, ne_eq, not_true_eq_false, not_false_eq_true, and_true, true_and, and_false, false_and, c3lt, c3gt, c3eq, Bool.false_eq_true, isK_wr, inA_wr, inR_wr, k0, g1, cT, hf1.k0, x_refuse]
    · have cm2 := hf2.cm hI
      have hfq : SF h (mwr (mwr h2 235 1 0) 235 0 0) := hf2.q
      obtain ⟨g', f1, f2, f3, f4, f5⟩ := m_isTold (d := d + 56) (t := t) (n := n) hI hfq N hN
      rw [if_neg cT] at f1
      refine ⟨g', ?_, f2, f5 cT, by rw [f3]; exact q00.2⟩
      simp only [e294_0, e294_1, e294_2, e294_5, e294_6, e294_7, e294_10, e294_11, e294_12, e294_13, e294_16, e294_19, e294_20, e294_21, e294_22, e294_23, e294_26, e294_27, e294_28, e294_31, e294_32, e294_34, e294_37, e294_38, e294_39, e294_40, e294_43, e294_44, e294_45, e294_46, e294_47, e294_48, e294_50, e294_53, e294_54, e294_57, e294_59, e294_60, e294_63, e294_64, e294_66, e294_67, e294_70, e294_71, e294_74, e294_75, e294_75z, e294_76, e294_78, e294_79, e294_82, e294_85, e294_86, e294_90, e294_91, e294_94, e294_95, e294_96, e294_99, e294_100, e294_101, e294_103, e294_106, e294_109, e294_110, e294_113, e294_114, e294_116, e294_117, e294_118, e294_119, e294_122, e294_124, e294_125, e294_128, e294_129, e294_132, e294_133, e294_134, e294_136, e294_137, e294_138, e294_138z, e294_139, e294_142, e294_143, e294_146, e294_147, e294_148, e294_148z, e294_149, e294_152, e294_155, e294_158, e294_161, e294_162, e294_163, e294_164, e294_168, e294_169, e294_172, e294_173, e294_176, e294_177, e294_179, e294_182, e294_185, e294_186, e294_189, e294_190, e294_192, e294_193, e294_194, e294_195, e294_198, e294_200, e294_201, e294_204, e294_205, e294_208, e294_209, e294_210, e294_212, e294_213, e294_214, e294_214z, e294_215, e294_218, e294_221, e294_224, e294_225, e294_228, e294_230, e294_232, e294_233, e294_234, e294_235, e294_237, e294_238, e294_239, e294_240, e294_243, e294_246, e294_247, e294_248, e294_251, e294_252, psh0, psh1, psh3, true_or, or_true, eq_self, Option.bind_some, List.length_nil, List.length_cons, Nat.reduceAdd, Nat.reduceLeDiff, Nat.zero_le, ↓reduceIte, Int.reduceLT, Int.reduceEq, Int.reduceLE, Int.reduceNeg, Int.reduceAdd, Int.reduceMul, Int.reduceSub, ne_eq, not_true_eq_false, not_false_eq_true, and_true, true_and, and_false, false_and, c3lt, c3gt, c3eq, Bool.false_eq_true, isK_wr, inA_wr, inR_wr, cm2.1, f1]

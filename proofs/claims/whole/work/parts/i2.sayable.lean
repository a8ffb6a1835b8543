/-! sayable -/
set_option maxHeartbeats 2000000 in
theorem op_sayable : Op_sayable Inv := by
  intro d h n hI i0
  obtain ⟨s, e8, hs, k0, kM, cs, ds⟩ := ctx hI
  have ds' := ds
  have ks := cs.1
  have r1 := cs.2.2.1
  have r2 := cs.2.2.2.1
  have r3 := cs.2.2.2.2.1
  have kl := cs.2.2.2.2.2.2.2.2.2.2.2.1
  have kc := cs.2.2.2.2.2.2.2.2.2.2.2.2
  obtain ⟨d5, d6, d7, d8, dl, dc⟩ := ds
  have hm : ∀ v, CM (mwr (mwr (mwr h 0 11 v) 235 1 0) 235 0 0) := fun v => CM_q (CM_of hI)
  have x6 : mrd h 0 6 = 148 := rf_0_6 hI.2.1.1
  have k148 := kn_148 hI.1
  obtain ⟨N, hN⟩ : ∃ N : Nat, mrd h 240 1 = N := ⟨(mrd h 240 1).toNat, by omega⟩
  have N12 : N ≤ 12 := by omega
  have hp := pow_13 N12
  by_cases hc : 1 ≤ n ∧ n ≤ 12
  · obtain ⟨M, rfl⟩ := Int.eq_ofNat_of_zero_le (show 0 ≤ n by omega)
    have c0 : ¬ (M : Int) < 1 := by omega
    have c1 : ¬ 12 < (M : Int) := by omega
    have eA : alF (Wy (okT h M (fun _ => 0)) N) M (2 ^ N) = alF (Wy (okO h) N) M (2 ^ N) := alF_congr2 _ (fun u hu hcu => W_lim N12 u hu (by omega))
    obtain ⟨h1, g1, g2, g3, g4, g5⟩ := x_hearAny (d := d + 59) hI M (by omega)
    obtain ⟨h3, b1, b2, b3⟩ := xs_count (d := d + 57) (n := M) (f := fun _ => 0) hI hs ds' g2 hN g4 (by omega) g5
    rw [eA] at b1
    have hf3 : SF h h3 := g2.sc b2
    have e8' : mrd h1 0 8 = s := g2.e8.trans e8
    have x6' : mrd h1 0 6 = 148 := (fr0 g2.1 (by decide)).trans x6
    have e83 : mrd h3 0 8 = s := hf3.e8.trans e8
    have x63 : mrd h3 0 6 = 148 := (fr0 hf3.1 (by decide)).trans x6
    obtain ⟨A, hA⟩ : ∃ A : Nat, alF (Wy (okO h) N) M (2 ^ N) = A := ⟨(alF (Wy (okO h) N) M (2 ^ N)).toNat, by
      have := alF_bd (w := Wy (okO h) N) (len := M) (2 ^ N) (by omega) (fun u hu => W_B N12 (by omega))
      omega⟩
    have hAb : A < 2 ^ 63 := by
      have := alF_bd (w := Wy (okO h) N) (len := M) (2 ^ N) (by omega) (fun u hu => W_B N12 (by omega))
      rw [hA] at this
      have : (2 : Nat) ^ 63 = 9223372036854775808 := by decide
      omega
    obtain ⟨sn, hsn⟩ : ∃ sn : Nat, mrd h 240 3 = sn := ⟨(mrd h 240 3).toNat, by omega⟩
    obtain ⟨B, hB⟩ : ∃ B : Nat, alF (rR h sn N) M (2 ^ N) = B := ⟨(alF (rR h sn N) M (2 ^ N)).toNat, by
      have := alF_bd (w := rR h sn N) (len := M) (2 ^ N) (by omega) (fun u hu => (RV_B N12 (by omega) (by omega) (by omega)).2)
      omega⟩
    have hBb : B < 2 ^ 63 := by
      have := alF_bd (w := rR h sn N) (len := M) (2 ^ N) (by omega) (fun u hu => (RV_B N12 (by omega) (by omega) (by omega)).2)
      rw [hB] at this
      have : (2 : Nat) ^ 63 = 9223372036854775808 := by decide
      omega
    -- the reference, up to 208, from any memory like h
    have ref : ∀ h2 : AM, CM h2 → (∀ i, mrd h2 240 i = mrd h 240 i) → ∃ g' l7, EV (d + 60) 302 28 [(2, 235), (0, (M : Int)), (3, 0), (3, 0), (3, 0), (3, 0), (3, 0), (3, 0)] [] h2 = EV (d + 60) 302 208 [(2, 235), (0, (M : Int)), (1, (A : Int)), (3, 1), (1, (B : Int)), (3, 1), (0, ((2 ^ N : Nat) : Int)), l7] [] g' ∧ g'.2 = h2.2 ∧ ∀ a i, a ≠ 249 → a ≠ 250 → mrd g' a i = mrd h2 a i := by
      intro h2 cm e4
      have eo : okO h2 = okO h := by unfold okO; simp only [e4]
      obtain ⟨g', f1, f2, f3⟩ := m_fillOrders (d := d + 57) cm (by rw [e4]; exact hN) N12
      have e4' : ∀ i, mrd g' 240 i = mrd h 240 i := fun i => by rw [f2.2 _ _ (by decide), e4]
      have eo' : okO g' = okO h := by unfold okO; simp only [e4']
      have ev' : vwM g' = vwM h := by unfold vwM; simp only [e4']
      have er : rR g' sn N = rR h sn N := by unfold rR; rw [eo', ev']
      obtain ⟨g2, l7, z1, z2⟩ := m_sb_out (d := d + 58) (x := (M : Int)) (m := sn) (CM_oq cm f2) (by rw [e4']; exact hN) N12 (by omega) (by omega) (by rw [e4']; exact hsn) (fun T hT => by rw [f3 T hT, eo, eo']) (2 ^ N - 1) 1 g' (3, 0) (by have := Nat.two_pow_pos N; omega) (Nat.le_refl _) ⟨rfl, fun _ _ _ => rfl⟩ (fun T T0 hT => absurd hT (by omega))
      have q0 : ∀ w : Nat → Int, alF w M 1 = 0 := fun w => by
        have hz : cB ((0 : Nat) : Int) 12 = 0 := by decide +kernel
        rw [alF, alF, hz, if_neg (by omega)]
        rfl
      rw [q0, q0, eo', er, hA, hB] at z1
      have z1 : EV (d + 60) 302 40 [(2, 235), (0, (M : Int)), (1, 0), (3, 1), (1, 0), (3, 1), (0, 1), (3, 0)] [] g' = _ := z1
      refine ⟨g2, l7, ?_, z2.1.trans f2.1, fun a i n1 n2 => by rw [z2.2 a i n2, f2.2 a i n1]⟩
      rw [← z1, e302_28]
      simp only [e302_29, e302_32, e302_33, e302_34, e302_35, e302_37, e302_38, psh0, psh1, psh3, true_or, or_true, eq_self, Option.bind_some, List.length_nil, List.length_cons, Nat.reduceAdd, Nat.reduceLeDiff, Nat.zero_le, ↓reduceIte, Int.reduceLT, Int.reduceEq, Int.reduceLE, Int.reduceNeg, Int.reduceAdd, Int.reduceMul, Int.reduceSub, ne_eq, not_true_eq_false, not_false_eq_true, and_true, true_and, and_false, false_and, c3lt, c3gt, c3eq, Bool.false_eq_true, isK_wr, inA_wr, inR_wr, cm.1, f1]
    have pre208 : ∀ h2 : AM, CM h2 → (∀ i, mrd h2 240 i = mrd h 240 i) → ∃ g' l7, EV (d + 60) 302 0 [(2, 235), (0, (M : Int)), (3, 0), (3, 0), (3, 0), (3, 0), (3, 0), (3, 0)] [] h2 = EV (d + 60) 302 208 [(2, 235), (0, (M : Int)), (1, (A : Int)), (3, 1), (1, (B : Int)), (3, 1), (0, ((2 ^ N : Nat) : Int)), l7] [] g' ∧ g'.2 = h2.2 ∧ ∀ a i, a ≠ 249 → a ≠ 250 → mrd g' a i = mrd (mwr (mwr h2 235 1 0) 235 0 0) a i := by
      intro h2 cm e4
      obtain ⟨g', l7, r1, r2, r3⟩ := ref (mwr (mwr h2 235 1 0) 235 0 0) (CM_wr rn_m0 (CM_wr rn_m1 cm)) (fun i => by rw [rdn1 (by decide), rdn1 (by decide)]; exact e4 i)
      refine ⟨g', l7, ?_, r2, r3⟩
      rw [← r1]
      simp only [e302_0, e302_1, e302_2, e302_5, e302_6, e302_7, e302_10, e302_11, e302_12, e302_13, e302_16, e302_19, psh0, psh1, psh3, true_or, or_true, eq_self, Option.bind_some, List.length_nil, List.length_cons, Nat.reduceAdd, Nat.reduceLeDiff, Nat.zero_le, ↓reduceIte, Int.reduceLT, Int.reduceEq, Int.reduceLE, Int.reduceNeg, Int.reduceAdd, Int.reduceMul, Int.reduceSub, ne_eq, not_true_eq_false, not_false_eq_true, and_true, true_and, and_false, false_and, c3lt, c3gt, c3eq, Bool.false_eq_true, isK_wr, inA_wr, inR_wr, cm.1, m_isIn, hc]
    have xpre : EV (d + 60) 148 0 [(2, 0), (0, (M : Int)), (3, 0), (3, 0)] [] h = EV (d + 60) 148 37 [(2, 0), (0, (M : Int)), (1, (A : Int)), (3, 1)] [] h3 := by
      rw [hA] at b1
      simp only [e148_0, e148_1, e148_2, e148_5, e148_6, e148_8, e148_11, e148_12, e148_13, e148_16, e148_17, e148_18, e148_21, e148_22, e148_25, e148_26, e148_29, e148_30, e148_33, e148_36, e148_38, e148_39, e148_40, e148_43, e148_44, e148_46, e148_49, e148_50, e148_51, e148_52, e148_55, e148_56, e148_59, e148_62, e148_63, e148_66, e148_67, e148_70, psh0, psh1, psh3, true_or, or_true, eq_self, Option.bind_some, List.length_nil, List.length_cons, Nat.reduceAdd, Nat.reduceLeDiff, Nat.zero_le, ↓reduceIte, Int.reduceLT, Int.reduceEq, Int.reduceLE, Int.reduceNeg, Int.reduceAdd, Int.reduceMul, Int.reduceSub, ne_eq, not_true_eq_false, not_false_eq_true, and_true, true_and, and_false, false_and, c3lt, c3gt, c3eq, Bool.false_eq_true, isK_wr, inA_wr, inR_wr, k0, c0, c1, x6, k148, g1, g2.k0, x6', e8', kn_148 g2.2.1, b1]
    by_cases a0 : A = 0
    · have a0' : (A : Int) = 0 := by omega
      refine opSF hI 0 8 ⟨mwr h3 0 11 8, ?_, hf3.wr Scr_st (by omega), rde⟩ (fun h2 hf2 => ?_)
      · rw [xpre, e148_37]
        simp only [e148_0, e148_1, e148_2, e148_5, e148_6, e148_8, e148_11, e148_12, e148_13, e148_16, e148_17, e148_18, e148_21, e148_22, e148_25, e148_26, e148_29, e148_30, e148_33, e148_36, e148_38, e148_39, e148_40, e148_43, e148_44, e148_46, e148_49, e148_50, e148_51, e148_52, e148_55, e148_56, e148_59, e148_62, e148_63, e148_66, e148_67, e148_70, psh0, psh1, psh3, true_or, or_true, eq_self, Option.bind_some, List.length_nil, List.length_cons, Nat.reduceAdd, Nat.reduceLeDiff, Nat.zero_le, ↓reduceIte, Int.reduceLT, Int.reduceEq, Int.reduceLE, Int.reduceNeg, Int.reduceAdd, Int.reduceMul, Int.reduceSub, ne_eq, not_true_eq_false, not_false_eq_true, and_true, true_and, and_false, false_and, c3lt, c3gt, c3eq, Bool.false_eq_true, isK_wr, inA_wr, inR_wr, hf3.k0, a0', x_deny]
      · obtain ⟨g', l7, r1, r2, r3⟩ := pre208 h2 (hf2.cm hI) (fun i => hf2.c i)
        have kg : isK g' 235 11 := (isK_eq r2).mpr (hf2.cm hI).1
        have hfg : SF h g' := (hf2.q (v := 0) (w := 0)).st r2 (fun a i hn => r3 a i (fun z => hn (by rw [z]; exact Or.inl (by decide +kernel))) (fun z => hn (by rw [z]; exact Or.inl (by decide +kernel)))) (r3 _ _ (by decide) (by decide))
        refine ⟨mwr g' 235 0 8, ?_, hfg.wr Scr_m0 (by omega), rde, ?_⟩
        · rw [r1, e302_208]
          simp only [e302_0, e302_1, e302_2, e302_5, e302_6, e302_7, e302_10, e302_11, e302_12, e302_13, e302_16, e302_19, e302_22, e302_23, e302_24, e302_27, e302_28, e302_29, e302_32, e302_33, e302_34, e302_35, e302_37, e302_38, e302_42, e302_43, e302_44, e302_47, e302_48, e302_49, e302_50, e302_53, e302_54, e302_58, e302_60, e302_63, e302_64, e302_67, e302_69, e302_71, e302_72, e302_74, e302_75, e302_76, e302_77, e302_80, e302_83, e302_84, e302_88, e302_89, e302_92, e302_93, e302_94, e302_97, e302_99, e302_101, e302_104, e302_107, e302_108, e302_110, e302_111, e302_113, e302_114, e302_115, e302_116, e302_117, e302_119, e302_122, e302_125, e302_126, e302_128, e302_129, e302_131, e302_132, e302_133, e302_134, e302_135, e302_137, e302_140, e302_143, e302_148, e302_151, e302_152, e302_155, e302_158, e302_159, e302_160, e302_163, e302_165, e302_166, e302_167, e302_168, e302_169, e302_173, e302_175, e302_178, e302_180, e302_181, e302_184, e302_186, e302_188, e302_189, e302_191, e302_192, e302_193, e302_194, e302_196, e302_199, e302_202, e302_205, e302_209, e302_210, e302_211, e302_214, e302_215, e302_217, e302_220, e302_223, e302_224, e302_226, e302_227, e302_230, psh0, psh1, psh3, true_or, or_true, eq_self, Option.bind_some, List.length_nil, List.length_cons, Nat.reduceAdd, Nat.reduceLeDiff, Nat.zero_le, ↓reduceIte, Int.reduceLT, Int.reduceEq, Int.reduceLE, Int.reduceNeg, Int.reduceAdd, Int.reduceMul, Int.reduceSub, ne_eq, not_true_eq_false, not_false_eq_true, and_true, true_and, and_false, false_and, c3lt, c3gt, c3eq, Bool.false_eq_true, isK_wr, inA_wr, inR_wr, kg, a0', m_no]
        · rw [rdn1 (by decide), r3 _ _ (by decide) (by decide), rdn1 (by decide), rdn1 (by decide)]
    · have a0' : ¬ (A : Int) = 0 := by omega
      have e61 : mrd h1 s 6 = N := (congrFun (Fr_A g2.1 (nsS s (by rcases hs with rfl | rfl <;> decide))) 6).trans (d6.1.trans hN)
      obtain ⟨h3', y1, y2⟩ := x_count2 (d := d + 57) (h := h1) g2.2.1 g2.2.2.1 (g2.cm hI).2.2 hs e61 N12 (by rw [g4]; omega)
      have eh : h3' = h3 := by
        rw [b1] at y1
        exact (Prod.mk.inj (Option.some.inj y1)).2.symm
      rw [eh] at y2
      have l3 : mrd h3 148 2 = M := by rw [y2 _ _ (by decide) (by decide) (by omega)]; exact g4
      have t3 : ∀ p : Nat, (p : Int) < M → mrd h3 149 p = 0 := fun p hp => by rw [y2 _ _ (by decide) (by decide) (by omega)]; exact g5 p hp
      have fS : ∀ i, mrd h3 s i = mrd h s i := fun i => congrFun (Fr_A hf3.1 (nsS s (by rcases hs with rfl | rfl <;> decide))) i
      obtain ⟨m, hm⟩ : ∃ m : Nat, (if (M : Int) < (sn : Int) then (M : Int) else (sn : Int)) = m := ⟨(if (M : Int) < (sn : Int) then (M : Int) else (sn : Int)).toNat, by split <;> omega⟩
      have s8 : mrd h3 s 8 = sn := by rw [fS]; exact d8.1.trans hsn
      have m1 : 1 ≤ m := by split at hm <;> omega
      have m9 : m ≤ 9 := by split at hm <;> omega
      obtain ⟨h4, k1, k2⟩ := x_countSaid (d := d + 57) (h := h3) (m := m) hf3.2.1 hf3.2.2.1 (hf3.cm hI).2.2 hs (by rw [fS]; exact d6.1.trans hN) N12 (by rw [l3]; omega) m1 m9 (by rw [l3, s8]; exact hm)
      have eB := say_eq (h := h) (s := s) (n := M) (N := N) (m := m) (sn := sn) (ok := okX h3 s) (vw := vwX h3 s) N12 (by omega) m1 (by split at hm <;> omega) (by omega) (by split at hm <;> omega) (fun T l hl => okX_T hs ds' hf3 hN l3 t3 hl) (fun l hl => by
        have q := (dl l (by omega) (by omega)).2.1
        unfold vwX vwM
        have z : mrd h3 (s + 13 + l) 2 = mrd h (s + 13 + l) 2 := congrFun (Fr_A hf3.1 (nsL s (by rcases hs with rfl | rfl <;> decide) l (by omega))) 2
        rw [z, q])
      rw [l3, eB, hB] at k1
      have hf4 : SF h h4 := hf3.sc k2
      obtain ⟨P, hP⟩ : ∃ P : Int, ((B / Nat.gcd B A : Nat) : Int) = P := ⟨_, rfl⟩
      obtain ⟨Q, hQ⟩ : ∃ Q : Int, ((A / Nat.gcd B A : Nat) : Int) = Q := ⟨_, rfl⟩
      have gx := x_tellFraction (d := d + 59) (h := h4) (a := B) (b := A) hf4.k0 hBb hAb (by omega)
      rw [hP, hQ] at gx
      obtain ⟨h5, hh5⟩ : ∃ h5, h5 = mwr (mwr (mwr h4 0 12 P) 0 13 Q) 0 11 0 := ⟨_, rfl⟩
      have rn12 : refT.all (fun q => !(q.1 == 0 && q.2.1 == 12)) = true := by decide +kernel
      have rn13 : refT.all (fun q => !(q.1 == 0 && q.2.1 == 13)) = true := by decide +kernel
      have cm5 : CM h5 := by rw [hh5]; exact CM_wr rn_st (CM_wr rn13 (CM_wr rn12 (hf4.cm hI)))
      obtain ⟨g', l7, r1, r2, r3⟩ := pre208 h5 cm5 (fun i => by rw [hh5, rdn1 (by decide), rdn1 (by decide), rdn1 (by decide)]; exact hf4.c i)
      have kg : isK g' 235 11 := (isK_eq r2).mpr cm5.1
      have gm := m_fraction (d := d + 58) (h := g') (a := B) (b := A) kg hBb hAb (by omega)
      rw [hP, hQ] at gm
      have e22 : (mwr (mwr g' 235 2 P) 235 3 Q).2 = h4.2 := by rw [show (mwr (mwr g' 235 2 P) 235 3 Q).2 = g'.2 from rfl, r2, hh5]; rfl
      refine ⟨1, h5, mwr (mwr g' 235 2 P) 235 3 Q, ?_, ?_, ?_⟩
      · rw [xpre, e148_37, hh5]
        simp only [e148_0, e148_1, e148_2, e148_5, e148_6, e148_8, e148_11, e148_12, e148_13, e148_16, e148_17, e148_18, e148_21, e148_22, e148_25, e148_26, e148_29, e148_30, e148_33, e148_36, e148_38, e148_39, e148_40, e148_43, e148_44, e148_46, e148_49, e148_50, e148_51, e148_52, e148_55, e148_56, e148_59, e148_62, e148_63, e148_66, e148_67, e148_70, psh0, psh1, psh3, true_or, or_true, eq_self, Option.bind_some, List.length_nil, List.length_cons, Nat.reduceAdd, Nat.reduceLeDiff, Nat.zero_le, ↓reduceIte, Int.reduceLT, Int.reduceEq, Int.reduceLE, Int.reduceNeg, Int.reduceAdd, Int.reduceMul, Int.reduceSub, ne_eq, not_true_eq_false, not_false_eq_true, and_true, true_and, and_false, false_and, c3lt, c3gt, c3eq, Bool.false_eq_true, isK_wr, inA_wr, inR_wr, hf3.k0, hf4.k0, a0', e83, x63, kn_148 hf3.2.1, k1, gx, x_agree]
      · rw [r1, e302_208]
        simp only [e302_0, e302_1, e302_2, e302_5, e302_6, e302_7, e302_10, e302_11, e302_12, e302_13, e302_16, e302_19, e302_22, e302_23, e302_24, e302_27, e302_28, e302_29, e302_32, e302_33, e302_34, e302_35, e302_37, e302_38, e302_42, e302_43, e302_44, e302_47, e302_48, e302_49, e302_50, e302_53, e302_54, e302_58, e302_60, e302_63, e302_64, e302_67, e302_69, e302_71, e302_72, e302_74, e302_75, e302_76, e302_77, e302_80, e302_83, e302_84, e302_88, e302_89, e302_92, e302_93, e302_94, e302_97, e302_99, e302_101, e302_104, e302_107, e302_108, e302_110, e302_111, e302_113, e302_114, e302_115, e302_116, e302_117, e302_119, e302_122, e302_125, e302_126, e302_128, e302_129, e302_131, e302_132, e302_133, e302_134, e302_135, e302_137, e302_140, e302_143, e302_148, e302_151, e302_152, e302_155, e302_158, e302_159, e302_160, e302_163, e302_165, e302_166, e302_167, e302_168, e302_169, e302_173, e302_175, e302_178, e302_180, e302_181, e302_184, e302_186, e302_188, e302_189, e302_191, e302_192, e302_193, e302_194, e302_196, e302_199, e302_202, e302_205, e302_209, e302_210, e302_211, e302_214, e302_215, e302_217, e302_220, e302_223, e302_224, e302_226, e302_227, e302_230, psh0, psh1, psh3, true_or, or_true, eq_self, Option.bind_some, List.length_nil, List.length_cons, Nat.reduceAdd, Nat.reduceLeDiff, Nat.zero_le, ↓reduceIte, Int.reduceLT, Int.reduceEq, Int.reduceLE, Int.reduceNeg, Int.reduceAdd, Int.reduceMul, Int.reduceSub, ne_eq, not_true_eq_false, not_false_eq_true, and_true, true_and, and_false, false_and, c3lt, c3gt, c3eq, Bool.false_eq_true, isK_wr, inA_wr, inR_wr, kg, a0', gm]
      · have hr : ∀ a i, a ≠ 249 → a ≠ 250 → mrd (mwr (mwr g' 235 2 P) 235 3 Q) a i = if a = 235 ∧ i = 3 then Q else if a = 235 ∧ i = 2 then P else if a = 235 ∧ i = 0 then 0 else if a = 235 ∧ i = 1 then 0 else if a = 0 ∧ i = 11 then 0 else if a = 0 ∧ i = 13 then Q else if a = 0 ∧ i = 12 then P else mrd h4 a i := fun a i n1 n2 => by
          rw [rd_wr, rd_wr, r3 a i n1 n2, hh5]
          simp only [rd_wr]
        refine Inv_mk hI (Rel_num ?_ hI.2.1 ⟨?_, ?_, ?_, ?_⟩) ?_ (Shp_eq e22 hf4.2.1) (RSum_eq e22 ?_ hf4.2.2.1) (by rw [e22]; exact hf4.2.2.2)
        · intro a i hn hx
          have q1 : a ≠ 249 := fun z => hn (by rw [z]; exact Or.inl (by decide +kernel))
          have q2 : a ≠ 250 := fun z => hn (by rw [z]; exact Or.inl (by decide +kernel))
          have x1 : ∀ b j, (b, j) ∈ nuC → ¬ (a = b ∧ i = j) := fun b j hm z => hx (Or.inr (Or.inl (by rw [z.1, z.2]; exact hm)))
          show mrd (mwr (mwr g' 235 2 P) 235 3 Q) a i = mrd h a i
          rw [hr a i q1 q2, if_neg (x1 _ _ (by decide)), if_neg (x1 _ _ (by decide)), if_neg (fun z => hn (by rw [z.1, z.2]; exact Scr_m0)), if_neg (fun z => hn (by rw [z.1, z.2]; exact Scr_m1)), if_neg (fun z => hn (by rw [z.1, z.2]; exact Scr_st)), if_neg (x1 _ _ (by decide)), if_neg (x1 _ _ (by decide))]
          exact hf4.1 a i hn
        · show mrd (mwr (mwr g' 235 2 P) 235 3 Q) 0 14 = mrd (mwr (mwr g' 235 2 P) 235 3 Q) 235 10
          rw [hr _ _ (by decide) (by decide), hr _ _ (by decide) (by decide)]
          simp
          have := (Rel_fr hf4.1 hI.2.1).2.1.1
          exact this
        · show mrd (mwr (mwr g' 235 2 P) 235 3 Q) 0 15 = mrd (mwr (mwr g' 235 2 P) 235 3 Q) 235 11
          rw [hr _ _ (by decide) (by decide), hr _ _ (by decide) (by decide)]
          simp
          exact (Rel_fr hf4.1 hI.2.1).2.1.2.1
        · show mrd (mwr (mwr g' 235 2 P) 235 3 Q) 0 12 = mrd (mwr (mwr g' 235 2 P) 235 3 Q) 235 2
          rw [hr _ _ (by decide) (by decide), hr _ _ (by decide) (by decide)]
          simp
        · show mrd (mwr (mwr g' 235 2 P) 235 3 Q) 0 13 = mrd (mwr (mwr g' 235 2 P) 235 3 Q) 235 3
          rw [hr _ _ (by decide) (by decide), hr _ _ (by decide) (by decide)]
          simp
        · rw [hr _ _ (by decide) (by decide), hr _ _ (by decide) (by decide)]
          simp
        · rw [hr _ _ (by decide) (by decide)]
          simp
  · refine opq hI 0 5 ?_ ?_
    · by_cases c0 : n < 1
      · simp only [e148_0, e148_1, e148_2, e148_5, e148_6, e148_8, e148_11, e148_12, e148_13, e148_16, e148_17, e148_18, e148_21, e148_22, e148_25, e148_26, e148_29, e148_30, e148_33, e148_36, e148_37, e148_38, e148_39, e148_40, e148_43, e148_44, e148_46, e148_49, e148_50, e148_51, e148_52, e148_55, e148_56, e148_59, e148_62, e148_63, e148_66, e148_67, e148_70, psh0, psh1, psh3, true_or, or_true, eq_self, Option.bind_some, List.length_nil, List.length_cons, Nat.reduceAdd, Nat.reduceLeDiff, Nat.zero_le, ↓reduceIte, Int.reduceLT, Int.reduceEq, Int.reduceLE, Int.reduceNeg, Int.reduceAdd, Int.reduceMul, Int.reduceSub, ne_eq, not_true_eq_false, not_false_eq_true, and_true, true_and, and_false, false_and, c3lt, c3gt, c3eq, Bool.false_eq_true, isK_wr, inA_wr, inR_wr, k0, c0, x_deny]
      · have c1 : 12 < n := by omega
        simp only [e148_0, e148_1, e148_2, e148_5, e148_6, e148_8, e148_11, e148_12, e148_13, e148_16, e148_17, e148_18, e148_21, e148_22, e148_25, e148_26, e148_29, e148_30, e148_33, e148_36, e148_37, e148_38, e148_39, e148_40, e148_43, e148_44, e148_46, e148_49, e148_50, e148_51, e148_52, e148_55, e148_56, e148_59, e148_62, e148_63, e148_66, e148_67, e148_70, psh0, psh1, psh3, true_or, or_true, eq_self, Option.bind_some, List.length_nil, List.length_cons, Nat.reduceAdd, Nat.reduceLeDiff, Nat.zero_le, ↓reduceIte, Int.reduceLT, Int.reduceEq, Int.reduceLE, Int.reduceNeg, Int.reduceAdd, Int.reduceMul, Int.reduceSub, ne_eq, not_true_eq_false, not_false_eq_true, and_true, true_and, and_false, false_and, c3lt, c3gt, c3eq, Bool.false_eq_true, isK_wr, inA_wr, inR_wr, k0, c0, c1, x_deny]
    · simp only [e302_0, e302_1, e302_2, e302_5, e302_6, e302_7, e302_10, e302_11, e302_12, e302_13, e302_16, e302_19, e302_22, e302_23, e302_24, e302_27, e302_28, e302_29, e302_32, e302_33, e302_34, e302_35, e302_37, e302_38, e302_42, e302_43, e302_44, e302_47, e302_48, e302_49, e302_50, e302_53, e302_54, e302_58, e302_60, e302_63, e302_64, e302_67, e302_69, e302_71, e302_72, e302_74, e302_75, e302_76, e302_77, e302_80, e302_83, e302_84, e302_88, e302_89, e302_92, e302_93, e302_94, e302_97, e302_99, e302_101, e302_104, e302_107, e302_108, e302_110, e302_111, e302_113, e302_114, e302_115, e302_116, e302_117, e302_119, e302_122, e302_125, e302_126, e302_128, e302_129, e302_131, e302_132, e302_133, e302_134, e302_135, e302_137, e302_140, e302_143, e302_148, e302_151, e302_152, e302_155, e302_158, e302_159, e302_160, e302_163, e302_165, e302_166, e302_167, e302_168, e302_169, e302_173, e302_175, e302_178, e302_180, e302_181, e302_184, e302_186, e302_188, e302_189, e302_191, e302_192, e302_193, e302_194, e302_196, e302_199, e302_202, e302_205, e302_208, e302_209, e302_210, e302_211, e302_214, e302_215, e302_217, e302_220, e302_223, e302_224, e302_226, e302_227, e302_230, psh0, psh1, psh3, true_or, or_true, eq_self, Option.bind_some, List.length_nil, List.length_cons, Nat.reduceAdd, Nat.reduceLeDiff, Nat.zero_le, ↓reduceIte, Int.reduceLT, Int.reduceEq, Int.reduceLE, Int.reduceNeg, Int.reduceAdd, Int.reduceMul, Int.reduceSub, ne_eq, not_true_eq_false, not_false_eq_true, and_true, true_and, and_false, false_and, c3lt, c3gt, c3eq, Bool.false_eq_true, isK_wr, inA_wr, inR_wr, kM, m_isIn, hc, m_no, wrwr]

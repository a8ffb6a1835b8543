section
variable {d : Nat} {h g : AM} {s a b c i k l p v w x y z : Int}
theorem TE_fr (h1 : ¬ (a = s + 25 + 2 * k ∧ 3 ≤ i ∧ i ≤ 6)) (h2 : a ≠ s + 26 + 2 * k) : mrd (TE h s k l) a i = mrd h a i := by
  unfold TE
  rw [rd_wr, if_neg (by omega), rd_wr, if_neg (by omega), rd_wr, if_neg (by omega), rd_wr, if_neg (by omega), rd_wr, if_neg (by omega)]
theorem TM_fr (n0 : 0 ≤ mrd g 240 (76 + k)) (n1 : mrd g 240 (76 + k) < 12) (h1 : ¬ (a = 240 ∧ (i = 68 + k ∨ i = 72 + k ∨ i = 76 + k ∨ (80 + 12 * k ≤ i ∧ i < 92 + 12 * k)))) : mrd (TM g k l) a i = mrd g a i := by
  unfold TM
  rw [rd_wr, if_neg (by omega), rd_wr, if_neg (by omega), rd_wr, if_neg (by omega), rd_wr, if_neg (by omega)]
theorem TE_v : mrd (TE h s k l) (s + 25 + 2 * k) 3 = w32 (mrd h (s + 25 + 2 * k) 3 - mrd h (s + 13 + l) 4) ∧ mrd (TE h s k l) (s + 25 + 2 * k) 4 = w32 (mrd h (s + 25 + 2 * k) 4 + dyF (mrd h (s + 13 + l) 3) (mrd h (s + 25 + 2 * k) 2)) ∧ mrd (TE h s k l) (s + 25 + 2 * k) 5 = i_or (mrd h (s + 25 + 2 * k) 5) (i_shl 1 l) ∧ mrd (TE h s k l) (s + 25 + 2 * k) 6 = mrd h (s + 25 + 2 * k) 6 + 1 ∧ ∀ p, mrd (TE h s k l) (s + 26 + 2 * k) p = if p = mrd h (s + 25 + 2 * k) 6 then l else mrd h (s + 26 + 2 * k) p := by
  have nAC : (s + 26 + 2 * k = s + 25 + 2 * k) = False := eq_false (by omega)
  unfold TE
  simp only [rd_wr, nAC, Int.reduceEq, and_false, false_and, and_true, true_and, if_false, if_true, implies_true, and_self]
theorem TM_v (k0 : 0 ≤ k) (n0 : 0 ≤ mrd g 240 (76 + k)) : mrd (TM g k l) 240 (68 + k) = w32 (mrd g 240 (68 + k) - mrd g 240 (28 + l)) ∧ mrd (TM g k l) 240 (72 + k) = w32 (mrd g 240 (72 + k) + dyF (mrd g 240 (16 + l)) (mrd g 240 (64 + k))) ∧ mrd (TM g k l) 240 (76 + k) = mrd g 240 (76 + k) + 1 ∧ ∀ p, 0 ≤ p → mrd (TM g k l) 240 (80 + 12 * k + p) = if p = mrd g 240 (76 + k) then l else mrd g 240 (80 + 12 * k + p) := by
  unfold TM
  refine ⟨?_, ?_, ?_, fun p p0 => ?_⟩
  · rw [rd_wr, if_pos ⟨rfl, rfl⟩]
  · rw [rd_wr, if_neg (by omega), rd_wr, if_pos ⟨rfl, rfl⟩]
  · rw [rd_wr, if_neg (by omega), rd_wr, if_neg (by omega), rd_wr, if_pos ⟨rfl, rfl⟩]
  · rw [rd_wr, if_neg (by omega), rd_wr, if_neg (by omega), rd_wr, if_neg (by omega), rd_wr]
    by_cases c : p = mrd g 240 (76 + k)
    · rw [if_pos c, if_pos (by omega)]
    · rw [if_neg c, if_neg (by omega)]
end
theorem Scr_q {h : AM} {v a i : Int} (hn : ¬ Scr a i) : mrd (mwr (mwr (mwr h 0 11 v) 235 1 0) 235 0 0) a i = mrd h a i := by
  rw [rd_wr, if_neg, rd_wr, if_neg, rd_wr, if_neg]
  · rintro ⟨rfl, rfl⟩; exact hn Scr_st
  · rintro ⟨rfl, rfl⟩; exact hn Scr_m1
  · rintro ⟨rfl, rfl⟩; exact hn Scr_m0
theorem op_learn : Op_learn Inv := by
  intro d h a0 a1 hI i0 i1
  obtain ⟨s, e8, hs, k0, kM, cs, ds⟩ := ctx hI
  have ds' := ds
  have ks := cs.1
  have r1 := cs.2.2.1
  have r2 := cs.2.2.2.1
  have r3 := cs.2.2.2.2.1
  have kl := cs.2.2.2.2.2.2.2.2.2.2.2.1
  have kc := cs.2.2.2.2.2.2.2.2.2.2.2.2
  obtain ⟨d5, d6, d7, d8, dl, dc⟩ := ds
  have hm : ∀ v, CM (mwr (mwr (mwr h 0 11 v) 235 1 0) 235 0 0) := fun v => CM_q (CM_of hI)
  have hx := x_hasChild_q (d := d + 59) (k := a0) ks d7.1
  have hl := fun v => m_isChildAt_q (d := d + 58) (k := a0) hI v
  have hx2 := x_hasLesson_q (d := d + 59) (k := a1) ks d6.1
  have hl2 := fun v => m_isLessonAt_q (d := d + 58) (k := a1) hI v
  by_cases hc : 0 ≤ a0 ∧ a0 < mrd h 240 2
  · simp only [hc, and_self, if_true] at hl hx
    by_cases hc2 : 0 ≤ a1 ∧ a1 < mrd h 240 1
    · simp only [hc2, and_self, if_true] at hl2 hx2
      obtain ⟨t1, t2, t3, t4, t5, t6⟩ := kc a0 hc.1 (by omega)
      obtain ⟨q1, q2, q3, q4, q5, q6, q7⟩ := dc a0 hc.1 hc.2
      obtain ⟨p1, p2, p3, p4, p5, p6⟩ := dl a1 hc2.1 hc2.2
      have gx := x_lets (d := d + 59) (x := mrd h (s + 25 + 2 * a0) 5) (l := a1) cs hc2.1 (by omega)
      rw [p6.1] at gx
      have gp := x_canPay (d := d + 59) (l := a1) cs hc.1 (show a0 < 4 by omega) hc2.1 (by omega)
      rw [p4.1, q2.1] at gp
      have gw := fun v => m_whyNot (d := d + 57) (k := a0) (l := a1) (hm v) hc.1 (by omega) hc2.1 (by omega) (by rw [rdq (by decide) (by decide)]; omega) (by rw [rdq (by decide) (by decide)]; omega)
      simp only [rdq, ↓reduceIte, Int.reduceLT, Int.reduceEq, Int.reduceLE, Int.reduceNeg, Int.reduceAdd, Int.reduceMul, Int.reduceSub, ne_eq, not_true_eq_false, not_false_eq_true, and_true, true_and, and_false, false_and, c3lt, c3gt, c3eq, Bool.false_eq_true, isK_wr, inA_wr, inR_wr, ← q7] at gw
      by_cases ho : opn (mrd h (s + 25 + 2 * a0) 5) (mrd h 240 (52 + a1)) a1
      · rw [if_pos ho] at gx
        simp only [if_pos ho] at gw
        by_cases hp : mrd h 240 (68 + a0) < mrd h 240 (28 + a1)
        · rw [if_pos hp] at gp
          simp only [if_pos hp] at gw
          refine opq hI (-1) 7 ?_ ?_
          · simp only [e121_0, e121_1, e121_4, e121_5, e121_8, e121_11, e121_12, e121_15, e121_16, e121_17, e121_20, e121_23, e121_24, e121_25, e121_28, e121_29, e121_30, e121_33, e121_36, e121_37, e121_38, e121_39, e121_40, e121_43, e121_44, e121_47, e121_48, e121_51, e121_54, e121_55, e121_57, e121_60, e121_61, e121_62, e121_65, e121_66, e121_67, e121_70, e121_73, e121_74, e121_76, e121_79, e121_80, e121_81, e121_84, e121_85, e121_86, e121_89, e121_90, e121_91, e121_94, e121_97, psh0, psh1, psh3, true_or, or_true, eq_self, Option.bind_some, List.length_nil, List.length_cons, Nat.reduceAdd, Nat.reduceLeDiff, Nat.zero_le, ↓reduceIte, Int.reduceLT, Int.reduceEq, Int.reduceLE, Int.reduceNeg, Int.reduceAdd, Int.reduceMul, Int.reduceSub, ne_eq, not_true_eq_false, not_false_eq_true, and_true, true_and, and_false, false_and, c3lt, c3gt, c3eq, Bool.false_eq_true, isK_wr, inA_wr, inR_wr, k0, e8, ks, r2, hx, hx2, t1, t2, t3, gx, gp, x_refuse]
          · simp only [e255_0, e255_1, e255_2, e255_5, e255_6, e255_7, e255_10, e255_11, e255_12, e255_15, e255_18, e255_19, e255_20, e255_23, e255_26, e255_27, e255_28, e255_31, e255_32, e255_33, e255_34, e255_35, e255_38, e255_39, e255_40, e255_43, e255_44, e255_45, e255_48, e255_49, e255_50, e255_51, e255_52, e255_55, e255_56, e255_57, e255_60, psh0, psh1, psh3, true_or, or_true, eq_self, Option.bind_some, List.length_nil, List.length_cons, Nat.reduceAdd, Nat.reduceLeDiff, Nat.zero_le, ↓reduceIte, Int.reduceLT, Int.reduceEq, Int.reduceLE, Int.reduceNeg, Int.reduceAdd, Int.reduceMul, Int.reduceSub, ne_eq, not_true_eq_false, not_false_eq_true, and_true, true_and, and_false, false_and, c3lt, c3gt, c3eq, Bool.false_eq_true, isK_wr, inA_wr, inR_wr, kM, hl, hl2, gw, m_refuse, wrwr]
        · rw [if_neg hp] at gp
          simp only [if_neg hp] at gw
          have hR : RSch h.1 s 0 0 := by rw [← e8]; exact hI.2.1.2.2.2.2.2.2.2.2.1.1
          have k1 : a0 < h.1 s 7 := by have : h.1 s 7 = mrd h 240 2 := d7.1; omega
          have l1 : a1 < h.1 s 6 := by have : h.1 s 6 = mrd h 240 1 := d6.1; omega
          have hlt : mrd h (s + 25 + 2 * a0) 6 < 12 := chi_lt hR hc.1 k1 hc2.1 (by omega) ho.1
          have n0 : 0 ≤ mrd h (s + 25 + 2 * a0) 6 := by rw [q4.1]; omega
          have gt := x_teach (d := d + 58) cs hc.1 (show a0 < 4 by omega) hc2.1 (show a1 < 12 by omega) n0 hlt (by rw [p3.1]; exact p3.2) (by rw [q1.1]; exact q1.2)
          have e6 : mrd (TE h s a0 a1) (s + 25 + 2 * a0) 6 = mrd h (s + 25 + 2 * a0) 6 + 1 := TE_v.2.2.2.1
          have k0' : isK (TE h s a0 a1) 0 10 := k0
          have t3' : isK (TE h s a0 a1) (s + 25 + 2 * a0) 1 := t3
          have cm0 : CM (TE h s a0 a1) := by
            refine ⟨kM, hI.1, fun q hq => ?_⟩
            have := hI.2.1.1 q hq
            refine Eq.trans ?_ this
            have hn : ∀ q ∈ refT, ∀ s ∈ ([162, 195] : List Int), ∀ k ∈ ([0, 1, 2, 3] : List Int), ¬ (q.1 = s + 25 + 2 * k ∧ 3 ≤ q.2.1 ∧ q.2.1 ≤ 6) ∧ q.1 ≠ s + 26 + 2 * k := by decide +kernel
            have := hn q hq s (by rcases hs with rfl | rfl <;> decide) a0 (by rcases (show a0 = 0 ∨ a0 = 1 ∨ a0 = 2 ∨ a0 = 3 by omega) with e | e | e | e <;> rw [e] <;> decide)
            exact TE_fr this.1 this.2
          have cmq : CM (mwr (mwr (mwr (TE h s a0 a1) 0 11 0) 235 1 0) 235 0 0) := CM_q cm0
          have z4 : ∀ q, mrd (mwr (mwr (mwr (TE h s a0 a1) 0 11 0) 235 1 0) 235 0 0) 240 q = mrd h 240 q := fun q => by
            rw [rdq (by decide) (by decide)]
            exact TE_fr (by omega) (by omega)
          have gl := m_learns (d := d + 57) (k := a0) (l := a1) cmq hc.1 (by omega) hc2.1 (by omega) (by rw [z4]; omega) (by rw [z4]; omega) (by rw [z4]; exact p3.2) (by rw [z4]; exact q1.2)
          have gw' := m_whyNot (d := d + 57) (k := a0) (l := a1) cmq hc.1 (by omega) hc2.1 (by omega) (by rw [z4]; omega) (by rw [z4]; omega)
          simp only [z4, ← q7, if_pos ho, if_neg hp] at gw'
          have gc' : EV (d + 59) 240 0 [(2, 235), (0, a0)] [] (mwr (mwr (mwr (TE h s a0 a1) 0 11 0) 235 1 0) 235 0 0) = some ((0, 1), mwr (mwr (mwr (TE h s a0 a1) 0 11 0) 235 1 0) 235 0 0) := by
            rw [m_isChildAt cmq (by rw [z4]; omega), z4, if_pos (by omega)]
          have gl' : EV (d + 59) 239 0 [(2, 235), (0, a1)] [] (mwr (mwr (mwr (TE h s a0 a1) 0 11 0) 235 1 0) 235 0 0) = some ((0, 1), mwr (mwr (mwr (TE h s a0 a1) 0 11 0) 235 1 0) 235 0 0) := by
            rw [m_isLessonAt cmq (by rw [z4]; omega), z4, if_pos (by omega)]
          obtain ⟨G, hG⟩ : ∃ G, G = mwr (mwr (mwr (TE h s a0 a1) 0 11 0) 235 1 0) 235 0 0 := ⟨_, rfl⟩
          rw [← hG] at gl gw' gc' gl' cmq z4
          have v7 := (TM_v (g := G) (l := a1) hc.1 (by rw [z4]; omega)).2.2.1
          have cmT : CM (TM G a0 a1) := CM_wrA rn_240 (CM_wrA rn_240 (CM_wrA rn_240 (CM_wrA rn_240 cmq)))
          have ge := m_lengthOf (d := d + 59) cmT hc.1 (show a0 < 4 by omega)
          rw [v7, z4, ← q4.1] at ge
          refine ⟨mrd h (s + 25 + 2 * a0) 6 + 1, mwr (TE h s a0 a1) 0 11 0, TM G a0 a1, ?_, ?_, ?_⟩
          · simp only [e121_0, e121_1, e121_4, e121_5, e121_8, e121_11, e121_12, e121_15, e121_16, e121_17, e121_20, e121_23, e121_24, e121_25, e121_28, e121_29, e121_30, e121_33, e121_36, e121_37, e121_38, e121_39, e121_40, e121_43, e121_44, e121_47, e121_48, e121_51, e121_54, e121_55, e121_57, e121_60, e121_61, e121_62, e121_65, e121_66, e121_67, e121_70, e121_73, e121_74, e121_76, e121_79, e121_80, e121_81, e121_84, e121_85, e121_86, e121_89, e121_90, e121_91, e121_94, e121_97, psh0, psh1, psh3, true_or, or_true, eq_self, Option.bind_some, List.length_nil, List.length_cons, Nat.reduceAdd, Nat.reduceLeDiff, Nat.zero_le, ↓reduceIte, Int.reduceLT, Int.reduceEq, Int.reduceLE, Int.reduceNeg, Int.reduceAdd, Int.reduceMul, Int.reduceSub, ne_eq, not_true_eq_false, not_false_eq_true, and_true, true_and, and_false, false_and, c3lt, c3gt, c3eq, Bool.false_eq_true, isK_wr, inA_wr, inR_wr, k0, e8, ks, r2, hx, hx2, t1, t2, t3, gx, gp, gt, k0', t3', e6, x_answer]
          · simp only [e255_0, e255_1, e255_2, e255_5, e255_6, e255_7, e255_10, e255_11, e255_12, e255_15, e255_18, e255_19, e255_20, e255_23, e255_26, e255_27, e255_28, e255_31, e255_32, e255_33, e255_34, e255_35, e255_38, e255_39, e255_40, e255_43, e255_44, e255_45, e255_48, e255_49, e255_50, e255_51, e255_52, e255_55, e255_56, e255_57, e255_60, psh0, psh1, psh3, true_or, or_true, eq_self, Option.bind_some, List.length_nil, List.length_cons, Nat.reduceAdd, Nat.reduceLeDiff, Nat.zero_le, ↓reduceIte, Int.reduceLT, Int.reduceEq, Int.reduceLE, Int.reduceNeg, Int.reduceAdd, Int.reduceMul, Int.reduceSub, ne_eq, not_true_eq_false, not_false_eq_true, and_true, true_and, and_false, false_and, c3lt, c3gt, c3eq, Bool.false_eq_true, isK_wr, inA_wr, inR_wr, show isK (TE h s a0 a1) 235 11 from kM, ← hG, gc', gl', gw', gl, cmq.1, cmT.1, ge]
          · have zf : ∀ a i, ¬ Scr a i → mrd G a i = mrd (TE h s a0 a1) a i := fun a i hn => by rw [hG]; exact Scr_q hn
            have fr := fun a i => TM_fr (g := G) (k := a0) (l := a1) (a := a) (i := i) (by rw [z4]; omega) (by rw [z4]; omega)
            have tv := TE_v (h := h) (s := s) (k := a0) (l := a1)
            have mv := TM_v (g := G) (l := a1) hc.1 (by rw [z4]; omega)
            simp only [z4] at mv
            have zc : ∀ i, mrd (TM G a0 a1) (s + 25 + 2 * a0) i = mrd (TE h s a0 a1) (s + 25 + 2 * a0) i := fun i => by
              rw [fr _ _ (by omega)]
              exact zf _ _ (ZS_Scr hs _ _ (by omega))
            have za : ∀ i, mrd (TM G a0 a1) (s + 26 + 2 * a0) i = mrd (TE h s a0 a1) (s + 26 + 2 * a0) i := fun i => by
              rw [fr _ _ (by omega)]
              exact zf _ _ (ZS_Scr hs _ _ (by omega))
            refine Inv_K hI e8 hs hc.1 (by rw [d7.1]; exact hc.2) (fun a i hz h1 h2 h3 => ?_) ?_ ?_ (by rw [hG]; rfl) ?_
            · show mrd (TM G a0 a1) a i = mrd h a i
              rw [fr _ _ h3, zf _ _ hz, TE_fr h1 h2]
            · refine RChi_learn (m := h.1) (m' := (TM G a0 a1).1) hR hc.1 k1 hc2.1 l1 ho.1 ?_ ?_ ?_ ?_ ?_ ?_ ?_ ?_ ?_ ?_ ?_ ?_ ?_ ?_ ?_
              · show mrd h (s + 13 + a1) 4 ≤ mrd h (s + 25 + 2 * a0) 3
                rw [p4.1, q2.1]; omega
              · exact (zc 1).trans (TE_fr (by omega) (by omega))
              · exact (zc 2).trans (TE_fr (by omega) (by omega))
              · exact (zc 3).trans tv.1
              · exact (zc 4).trans tv.2.1
              · exact (zc 5).trans tv.2.2.1
              · exact (zc 6).trans tv.2.2.2.1
              · exact fun p => (za p).trans (tv.2.2.2.2 p)
              · exact (fr 240 _ (by omega)).trans (z4 _)
              · exact mv.1
              · exact mv.2.1
              · exact mv.2.2.1
              · exact fun p p0 _ => mv.2.2.2 p p0
              · exact (fr 242 _ (by omega)).trans ((zf 242 _ (ZS_Scr hs _ _ (by omega))).trans (TE_fr (by omega) (by omega)))
              · exact (fr s _ (by omega)).trans ((zf s _ (ZS_Scr hs _ _ (by omega))).trans (TE_fr (by omega) (by omega)))
            · rw [fr _ _ (by omega), fr _ _ (by omega), hG, rdn1 (by decide), rdn1 (by decide), rde, rde]
            · rw [fr _ _ (by omega), hG, rdq (by decide) (by decide)]
              exact TE_fr (by omega) (by omega)
      · rw [if_neg ho] at gx
        simp only [if_neg ho] at gw
        refine opq hI (-1) 9 ?_ ?_
        · simp only [e121_0, e121_1, e121_4, e121_5, e121_8, e121_11, e121_12, e121_15, e121_16, e121_17, e121_20, e121_23, e121_24, e121_25, e121_28, e121_29, e121_30, e121_33, e121_36, e121_37, e121_38, e121_39, e121_40, e121_43, e121_44, e121_47, e121_48, e121_51, e121_54, e121_55, e121_57, e121_60, e121_61, e121_62, e121_65, e121_66, e121_67, e121_70, e121_73, e121_74, e121_76, e121_79, e121_80, e121_81, e121_84, e121_85, e121_86, e121_89, e121_90, e121_91, e121_94, e121_97, psh0, psh1, psh3, true_or, or_true, eq_self, Option.bind_some, List.length_nil, List.length_cons, Nat.reduceAdd, Nat.reduceLeDiff, Nat.zero_le, ↓reduceIte, Int.reduceLT, Int.reduceEq, Int.reduceLE, Int.reduceNeg, Int.reduceAdd, Int.reduceMul, Int.reduceSub, ne_eq, not_true_eq_false, not_false_eq_true, and_true, true_and, and_false, false_and, c3lt, c3gt, c3eq, Bool.false_eq_true, isK_wr, inA_wr, inR_wr, k0, e8, ks, r2, hx, hx2, t1, t2, t3, gx, x_refuse]
        · simp only [e255_0, e255_1, e255_2, e255_5, e255_6, e255_7, e255_10, e255_11, e255_12, e255_15, e255_18, e255_19, e255_20, e255_23, e255_26, e255_27, e255_28, e255_31, e255_32, e255_33, e255_34, e255_35, e255_38, e255_39, e255_40, e255_43, e255_44, e255_45, e255_48, e255_49, e255_50, e255_51, e255_52, e255_55, e255_56, e255_57, e255_60, psh0, psh1, psh3, true_or, or_true, eq_self, Option.bind_some, List.length_nil, List.length_cons, Nat.reduceAdd, Nat.reduceLeDiff, Nat.zero_le, ↓reduceIte, Int.reduceLT, Int.reduceEq, Int.reduceLE, Int.reduceNeg, Int.reduceAdd, Int.reduceMul, Int.reduceSub, ne_eq, not_true_eq_false, not_false_eq_true, and_true, true_and, and_false, false_and, c3lt, c3gt, c3eq, Bool.false_eq_true, isK_wr, inA_wr, inR_wr, kM, hl, hl2, gw, m_refuse, wrwr]
    · simp only [hc2, if_false] at hl2 hx2
      refine opq hI (-1) 2 ?_ ?_
      · simp only [e121_0, e121_1, e121_4, e121_5, e121_8, e121_11, e121_12, e121_15, e121_16, e121_17, e121_20, e121_23, e121_24, e121_25, e121_28, e121_29, e121_30, e121_33, e121_36, e121_37, e121_38, e121_39, e121_40, e121_43, e121_44, e121_47, e121_48, e121_51, e121_54, e121_55, e121_57, e121_60, e121_61, e121_62, e121_65, e121_66, e121_67, e121_70, e121_73, e121_74, e121_76, e121_79, e121_80, e121_81, e121_84, e121_85, e121_86, e121_89, e121_90, e121_91, e121_94, e121_97, psh0, psh1, psh3, true_or, or_true, eq_self, Option.bind_some, List.length_nil, List.length_cons, Nat.reduceAdd, Nat.reduceLeDiff, Nat.zero_le, ↓reduceIte, Int.reduceLT, Int.reduceEq, Int.reduceLE, Int.reduceNeg, Int.reduceAdd, Int.reduceMul, Int.reduceSub, ne_eq, not_true_eq_false, not_false_eq_true, and_true, true_and, and_false, false_and, c3lt, c3gt, c3eq, Bool.false_eq_true, isK_wr, inA_wr, inR_wr, k0, e8, ks, x_refuse, hx, hx2]
      · simp only [e255_0, e255_1, e255_2, e255_5, e255_6, e255_7, e255_10, e255_11, e255_12, e255_15, e255_18, e255_19, e255_20, e255_23, e255_26, e255_27, e255_28, e255_31, e255_32, e255_33, e255_34, e255_35, e255_38, e255_39, e255_40, e255_43, e255_44, e255_45, e255_48, e255_49, e255_50, e255_51, e255_52, e255_55, e255_56, e255_57, e255_60, psh0, psh1, psh3, true_or, or_true, eq_self, Option.bind_some, List.length_nil, List.length_cons, Nat.reduceAdd, Nat.reduceLeDiff, Nat.zero_le, ↓reduceIte, Int.reduceLT, Int.reduceEq, Int.reduceLE, Int.reduceNeg, Int.reduceAdd, Int.reduceMul, Int.reduceSub, ne_eq, not_true_eq_false, not_false_eq_true, and_true, true_and, and_false, false_and, c3lt, c3gt, c3eq, Bool.false_eq_true, isK_wr, inA_wr, inR_wr, kM, hl, hl2, m_refuse, wrwr]
  · simp only [hc, if_false] at hl hx
    refine opq hI (-1) 2 ?_ ?_
    · simp only [e121_0, e121_1, e121_4, e121_5, e121_8, e121_11, e121_12, e121_15, e121_16, e121_17, e121_20, e121_23, e121_24, e121_25, e121_28, e121_29, e121_30, e121_33, e121_36, e121_37, e121_38, e121_39, e121_40, e121_43, e121_44, e121_47, e121_48, e121_51, e121_54, e121_55, e121_57, e121_60, e121_61, e121_62, e121_65, e121_66, e121_67, e121_70, e121_73, e121_74, e121_76, e121_79, e121_80, e121_81, e121_84, e121_85, e121_86, e121_89, e121_90, e121_91, e121_94, e121_97, psh0, psh1, psh3, true_or, or_true, eq_self, Option.bind_some, List.length_nil, List.length_cons, Nat.reduceAdd, Nat.reduceLeDiff, Nat.zero_le, ↓reduceIte, Int.reduceLT, Int.reduceEq, Int.reduceLE, Int.reduceNeg, Int.reduceAdd, Int.reduceMul, Int.reduceSub, ne_eq, not_true_eq_false, not_false_eq_true, and_true, true_and, and_false, false_and, c3lt, c3gt, c3eq, Bool.false_eq_true, isK_wr, inA_wr, inR_wr, k0, e8, ks, x_refuse, hx]
    · simp only [e255_0, e255_1, e255_2, e255_5, e255_6, e255_7, e255_10, e255_11, e255_12, e255_15, e255_18, e255_19, e255_20, e255_23, e255_26, e255_27, e255_28, e255_31, e255_32, e255_33, e255_34, e255_35, e255_38, e255_39, e255_40, e255_43, e255_44, e255_45, e255_48, e255_49, e255_50, e255_51, e255_52, e255_55, e255_56, e255_57, e255_60, psh0, psh1, psh3, true_or, or_true, eq_self, Option.bind_some, List.length_nil, List.length_cons, Nat.reduceAdd, Nat.reduceLeDiff, Nat.zero_le, ↓reduceIte, Int.reduceLT, Int.reduceEq, Int.reduceLE, Int.reduceNeg, Int.reduceAdd, Int.reduceMul, Int.reduceSub, ne_eq, not_true_eq_false, not_false_eq_true, and_true, true_and, and_false, false_and, c3lt, c3gt, c3eq, Bool.false_eq_true, isK_wr, inA_wr, inR_wr, kM, hl, m_refuse, wrwr]

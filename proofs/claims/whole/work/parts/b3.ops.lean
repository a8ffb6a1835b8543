/-- the frame of an op that changes child k on both sides: G is the class's end with STATUS and THROWN set -/
theorem CM_K {h h' : AM} {s k : Int} (hI : Inv h) (hs : s = 162 ∨ s = 195) (k0 : 0 ≤ k) (k1 : k < 4) (h22 : h'.2 = h.2) (fr : ∀ a i, ¬ (a = s + 25 + 2 * k ∧ 3 ≤ i ∧ i ≤ 6) → a ≠ s + 26 + 2 * k → mrd h' a i = mrd h a i) : CM h' := by
  refine ⟨?_, ?_, fun q hq => ?_⟩
  · have := kn_235 hI.1
    unfold isK mnx mkn at this ⊢
    rw [h22]; exact this
  · have hS := hI.1
    unfold Shp mnx at hS ⊢
    rw [h22]; exact hS
  · have := hI.2.1.1 q hq
    refine Eq.trans ?_ this
    have hn : ∀ q ∈ refT, ∀ s ∈ ([162, 195] : List Int), ∀ k ∈ ([0, 1, 2, 3] : List Int), ¬ (q.1 = s + 25 + 2 * k ∧ 3 ≤ q.2.1 ∧ q.2.1 ≤ 6) ∧ q.1 ≠ s + 26 + 2 * k := by decide +kernel
    have := hn q hq s (by rcases hs with rfl | rfl <;> decide) k (by rcases (show k = 0 ∨ k = 1 ∨ k = 2 ∨ k = 3 by omega) with e | e | e | e <;> rw [e] <;> decide)
    exact fr _ _ this.1 this.2
theorem op_rest : Op_rest Inv := by
  intro d h a0 a1 hI i0 i1
  obtain ⟨s, e8, hs, k0, kM, cs, ds⟩ := ctx hI
  have ds' := ds
  have ks := cs.1
  have r1 := cs.2.2.1
  have r2 := cs.2.2.2.1
  have r3 := cs.2.2.2.2.1
  have kl := cs.2.2.2.2.2.2.2.2.2.2.2.1
  have kc := cs.2.2.2.2.2.2.2.2.2.2.2.2
  obtain ⟨d5, d6, d7, d8, dl, dc⟩ := ds
  have hm : ∀ v, CM (mwr (mwr (mwr h 0 11 v) 235 1 0) 235 0 0) := fun v => CM_q (CM_of hI)
  have hx := x_hasChild_q (d := d + 59) (k := a0) ks d7.1
  have hl := fun v => m_isChildAt_q (d := d + 58) (k := a0) hI v
  by_cases hc : 0 ≤ a0 ∧ a0 < mrd h 240 2
  · simp only [hc, and_self, if_true] at hl hx
    obtain ⟨t1, t2, t3, t4, t5, t6⟩ := kc a0 hc.1 (by omega)
    obtain ⟨q1, q2, q3, q4, q5, q6, q7⟩ := dc a0 hc.1 hc.2
    by_cases cw : 1 ≤ a1 ∧ a1 ≤ 99
    · have c1 : ¬ a1 < 1 := by omega
      have c2 : ¬ 99 < a1 := by omega
      obtain ⟨H, hH⟩ : ∃ H, H = mwr h (s + 25 + 2 * a0) 4 (w32 (mrd h 240 (72 + a0) + a1)) := ⟨_, rfl⟩
      have fr : ∀ a i, ¬ (a = s + 25 + 2 * a0 ∧ 3 ≤ i ∧ i ≤ 6) → a ≠ s + 26 + 2 * a0 → mrd H a i = mrd h a i := fun a i z1 _ => by
        rw [hH, rd_wr, if_neg (by omega)]
      have cm0 : CM H := CM_K hI hs hc.1 (by omega) (by rw [hH]; rfl) fr
      have k0' : isK H 0 10 := by rw [hH]; exact k0
      have t3' : isK H (s + 25 + 2 * a0) 1 := by rw [hH]; exact t3
      have v4 : mrd H (s + 25 + 2 * a0) 4 = w32 (mrd h 240 (72 + a0) + a1) := by rw [hH, rde]
      obtain ⟨G, hG⟩ : ∃ G, G = mwr (mwr (mwr H 0 11 0) 235 1 0) 235 0 0 := ⟨_, rfl⟩
      have cmq : CM G := by rw [hG]; exact CM_q cm0
      have z4 : ∀ q, mrd G 240 q = mrd h 240 q := fun q => by
        rw [hG, rdq (by decide) (by decide)]
        exact fr _ _ (by omega) (by omega)
      have gc' : EV (d + 59) 240 0 [(2, 235), (0, a0)] [] G = some ((0, 1), G) := by
        rw [m_isChildAt cmq (by rw [z4]; omega), z4, if_pos (by omega)]
      have w1 : w32 (72 + a0) = 72 + a0 := w32_id (by omega) (by omega)
      have j1 : inA G 240 16 (72 + a0) := inC cmq (by omega) (by omega)
      have m20 := mC cmq
      refine ⟨w32 (mrd h 240 (72 + a0) + a1), mwr H 0 11 0, mwr G 240 (72 + a0) (w32 (mrd h 240 (72 + a0) + a1)), ?_, ?_, ?_⟩
      · simp only [e123_0, e123_1, e123_4, e123_5, e123_8, e123_11, e123_12, e123_13, e123_16, e123_17, e123_18, e123_19, e123_22, e123_23, e123_25, e123_28, e123_29, e123_30, e123_33, e123_34, e123_35, e123_38, e123_41, e123_42, e123_43, e123_44, e123_45, e123_45i, e123_46, e123_49, e123_50, e123_51, e123_54, e123_55, e123_56, e123_59, e123_62, psh0, psh1, psh3, true_or, or_true, eq_self, Option.bind_some, List.length_nil, List.length_cons, Nat.reduceAdd, Nat.reduceLeDiff, Nat.zero_le, ↓reduceIte, Int.reduceLT, Int.reduceEq, Int.reduceLE, Int.reduceNeg, Int.reduceAdd, Int.reduceMul, Int.reduceSub, ne_eq, not_true_eq_false, not_false_eq_true, and_true, true_and, and_false, false_and, c3lt, c3gt, c3eq, Bool.false_eq_true, isK_wr, inA_wr, inR_wr, k0, e8, ks, r2, hx, t1, t2, t3, c1, c2, ← hH, k0', t3', v4, x_answer, q3]
      · simp only [e258_0, e258_1, e258_2, e258_5, e258_6, e258_7, e258_10, e258_11, e258_12, e258_15, e258_18, e258_19, e258_20, e258_23, e258_24, e258_25, e258_26, e258_27, e258_30, e258_33, e258_36, e258_37, e258_38, e258_41, e258_42, e258_43, e258_46, e258_48, e258_49, e258_50, e258_51, e258_52, e258_53, e258_54, e258_55, e258_56, e258_59, e258_61, e258_62, e258_63, e258_64, psh0, psh1, psh3, true_or, or_true, eq_self, Option.bind_some, List.length_nil, List.length_cons, Nat.reduceAdd, Nat.reduceLeDiff, Nat.zero_le, ↓reduceIte, Int.reduceLT, Int.reduceEq, Int.reduceLE, Int.reduceNeg, Int.reduceAdd, Int.reduceMul, Int.reduceSub, ne_eq, not_true_eq_false, not_false_eq_true, and_true, true_and, and_false, false_and, c3lt, c3gt, c3eq, Bool.false_eq_true, isK_wr, inA_wr, inR_wr, cm0.1, ← hG, gc', m_isIn, cw, cmq.1, m20, w1, j1, z4, rd_wr]
      · have zf : ∀ a i, ¬ Scr a i → mrd G a i = mrd H a i := fun a i hn => by rw [hG]; exact Scr_q hn
        have hR : RSch h.1 s 0 0 := by rw [← e8]; exact hI.2.1.2.2.2.2.2.2.2.2.1.1
        have k1 : a0 < h.1 s 7 := by have : h.1 s 7 = mrd h 240 2 := d7.1; omega
        have fr2 : ∀ a i, ¬ (a = 240 ∧ i = 72 + a0) → mrd (mwr G 240 (72 + a0) (w32 (mrd h 240 (72 + a0) + a1))) a i = mrd G a i := fun a i z => by rw [rd_wr, if_neg z]
        have zs : ∀ a i, (a = s ∨ (s + 13 ≤ a ∧ a ≤ s + 32) ∨ a = 242) → mrd (mwr G 240 (72 + a0) (w32 (mrd h 240 (72 + a0) + a1))) a i = mrd H a i := fun a i z => (fr2 a i (by omega)).trans (zf a i (ZS_Scr hs _ _ (by omega)))
        refine Inv_K hI e8 hs hc.1 (by rw [d7.1]; exact hc.2) (fun a i hz h1 h2 h3 => ?_) ?_ ?_ (by rw [hG, hH]; rfl) ?_
        · exact (fr2 a i (by omega)).trans ((zf a i hz).trans (fr a i h1 h2))
        · refine RChi_pc (m := h.1) (hR.2.2.2.2.2 a0 hc.1 k1) ?_ ?_ ?_ ?_ ?_ ?_ ?_ ?_ ?_ ?_ ?_ ?_
          · exact (zs _ _ (by omega)).trans (fr _ _ (by omega) (by omega))
          · exact (zs _ _ (by omega)).trans (fr _ _ (by omega) (by omega))
          · exact (zs _ _ (by omega)).trans (by rw [hH]; exact rdn2 (by decide))
          · exact (zs _ _ (by omega)).trans (by rw [hH]; exact rdn2 (by decide))
          · exact funext fun i => (zs _ _ (by omega)).trans (by rw [hH]; exact rdn1 (by omega))
          · exact (fr2 _ _ (by omega)).trans (z4 _)
          · exact (fr2 _ _ (by omega)).trans (z4 _)
          · exact fun p p0 p1 => (fr2 _ _ (by omega)).trans (z4 _)
          · exact (zs _ _ (by omega)).trans (fr _ _ (by omega) (by omega))
          · exact (zs _ _ (by omega)).trans (fr _ _ (by omega) (by omega))
          · show mrd _ _ _ = mrd _ _ _ ∧ 0 ≤ mrd _ _ _ ∧ mrd _ _ _ ≤ _
            rw [zs _ _ (by omega), fr2 240 _ (by omega), z4, hH, rdn2 (by decide)]
            exact ⟨q2.1, by rw [q2.1]; exact q2.2.1, by rw [q2.1]; exact q2.2.2⟩
          · show mrd _ _ _ = mrd _ _ _
            rw [zs _ _ (by omega), v4, rde]
        · rw [fr2 _ _ (by omega), fr2 _ _ (by omega), hG, rdn1 (by decide), rdn1 (by decide), rde, rde]
        · rw [fr2 _ _ (by omega), hG, rdq (by decide) (by decide)]
          exact fr _ _ (by omega) (by omega)
    · refine opq hI (-1) 5 ?_ ?_
      · by_cases cn : a1 < 1
        · simp only [e123_0, e123_1, e123_4, e123_5, e123_8, e123_11, e123_12, e123_13, e123_16, e123_17, e123_18, e123_19, e123_22, e123_23, e123_25, e123_28, e123_29, e123_30, e123_33, e123_34, e123_35, e123_38, e123_41, e123_42, e123_43, e123_44, e123_45, e123_45i, e123_46, e123_49, e123_50, e123_51, e123_54, e123_55, e123_56, e123_59, e123_62, psh0, psh1, psh3, true_or, or_true, eq_self, Option.bind_some, List.length_nil, List.length_cons, Nat.reduceAdd, Nat.reduceLeDiff, Nat.zero_le, ↓reduceIte, Int.reduceLT, Int.reduceEq, Int.reduceLE, Int.reduceNeg, Int.reduceAdd, Int.reduceMul, Int.reduceSub, ne_eq, not_true_eq_false, not_false_eq_true, and_true, true_and, and_false, false_and, c3lt, c3gt, c3eq, Bool.false_eq_true, isK_wr, inA_wr, inR_wr, k0, e8, ks, x_refuse, hx, cn]
        · have cn2 : 99 < a1 := by omega
          simp only [e123_0, e123_1, e123_4, e123_5, e123_8, e123_11, e123_12, e123_13, e123_16, e123_17, e123_18, e123_19, e123_22, e123_23, e123_25, e123_28, e123_29, e123_30, e123_33, e123_34, e123_35, e123_38, e123_41, e123_42, e123_43, e123_44, e123_45, e123_45i, e123_46, e123_49, e123_50, e123_51, e123_54, e123_55, e123_56, e123_59, e123_62, psh0, psh1, psh3, true_or, or_true, eq_self, Option.bind_some, List.length_nil, List.length_cons, Nat.reduceAdd, Nat.reduceLeDiff, Nat.zero_le, ↓reduceIte, Int.reduceLT, Int.reduceEq, Int.reduceLE, Int.reduceNeg, Int.reduceAdd, Int.reduceMul, Int.reduceSub, ne_eq, not_true_eq_false, not_false_eq_true, and_true, true_and, and_false, false_and, c3lt, c3gt, c3eq, Bool.false_eq_true, isK_wr, inA_wr, inR_wr, k0, e8, ks, x_refuse, hx, cn, cn2]
      · simp only [e258_0, e258_1, e258_2, e258_5, e258_6, e258_7, e258_10, e258_11, e258_12, e258_15, e258_18, e258_19, e258_20, e258_23, e258_24, e258_25, e258_26, e258_27, e258_30, e258_33, e258_36, e258_37, e258_38, e258_41, e258_42, e258_43, e258_46, e258_48, e258_49, e258_50, e258_51, e258_52, e258_53, e258_54, e258_55, e258_56, e258_59, e258_61, e258_62, e258_63, e258_64, psh0, psh1, psh3, true_or, or_true, eq_self, Option.bind_some, List.length_nil, List.length_cons, Nat.reduceAdd, Nat.reduceLeDiff, Nat.zero_le, ↓reduceIte, Int.reduceLT, Int.reduceEq, Int.reduceLE, Int.reduceNeg, Int.reduceAdd, Int.reduceMul, Int.reduceSub, ne_eq, not_true_eq_false, not_false_eq_true, and_true, true_and, and_false, false_and, c3lt, c3gt, c3eq, Bool.false_eq_true, isK_wr, inA_wr, inR_wr, kM, hl, m_isIn, cw, m_refuse, wrwr]
  · simp only [hc, if_false] at hl hx
    refine opq hI (-1) 2 ?_ ?_
    · simp only [e123_0, e123_1, e123_4, e123_5, e123_8, e123_11, e123_12, e123_13, e123_16, e123_17, e123_18, e123_19, e123_22, e123_23, e123_25, e123_28, e123_29, e123_30, e123_33, e123_34, e123_35, e123_38, e123_41, e123_42, e123_43, e123_44, e123_45, e123_45i, e123_46, e123_49, e123_50, e123_51, e123_54, e123_55, e123_56, e123_59, e123_62, psh0, psh1, psh3, true_or, or_true, eq_self, Option.bind_some, List.length_nil, List.length_cons, Nat.reduceAdd, Nat.reduceLeDiff, Nat.zero_le, ↓reduceIte, Int.reduceLT, Int.reduceEq, Int.reduceLE, Int.reduceNeg, Int.reduceAdd, Int.reduceMul, Int.reduceSub, ne_eq, not_true_eq_false, not_false_eq_true, and_true, true_and, and_false, false_and, c3lt, c3gt, c3eq, Bool.false_eq_true, isK_wr, inA_wr, inR_wr, k0, e8, ks, x_refuse, hx]
    · simp only [e258_0, e258_1, e258_2, e258_5, e258_6, e258_7, e258_10, e258_11, e258_12, e258_15, e258_18, e258_19, e258_20, e258_23, e258_24, e258_25, e258_26, e258_27, e258_30, e258_33, e258_36, e258_37, e258_38, e258_41, e258_42, e258_43, e258_46, e258_48, e258_49, e258_50, e258_51, e258_52, e258_53, e258_54, e258_55, e258_56, e258_59, e258_61, e258_62, e258_63, e258_64, psh0, psh1, psh3, true_or, or_true, eq_self, Option.bind_some, List.length_nil, List.length_cons, Nat.reduceAdd, Nat.reduceLeDiff, Nat.zero_le, ↓reduceIte, Int.reduceLT, Int.reduceEq, Int.reduceLE, Int.reduceNeg, Int.reduceAdd, Int.reduceMul, Int.reduceSub, ne_eq, not_true_eq_false, not_false_eq_true, and_true, true_and, and_false, false_and, c3lt, c3gt, c3eq, Bool.false_eq_true, isK_wr, inA_wr, inR_wr, kM, hl, m_refuse, wrwr]
theorem op_pay : Op_pay Inv := by
  intro d h a0 a1 hI i0 i1
  obtain ⟨s, e8, hs, k0, kM, cs, ds⟩ := ctx hI
  have ds' := ds
  have ks := cs.1
  have r1 := cs.2.2.1
  have r2 := cs.2.2.2.1
  have r3 := cs.2.2.2.2.1
  have kl := cs.2.2.2.2.2.2.2.2.2.2.2.1
  have kc := cs.2.2.2.2.2.2.2.2.2.2.2.2
  obtain ⟨d5, d6, d7, d8, dl, dc⟩ := ds
  have hm : ∀ v, CM (mwr (mwr (mwr h 0 11 v) 235 1 0) 235 0 0) := fun v => CM_q (CM_of hI)
  have hx := x_hasChild_q (d := d + 59) (k := a0) ks d7.1
  have hl := fun v => m_isChildAt_q (d := d + 58) (k := a0) hI v
  by_cases hc : 0 ≤ a0 ∧ a0 < mrd h 240 2
  · simp only [hc, and_self, if_true] at hl hx
    obtain ⟨t1, t2, t3, t4, t5, t6⟩ := kc a0 hc.1 (by omega)
    obtain ⟨q1, q2, q3, q4, q5, q6, q7⟩ := dc a0 hc.1 hc.2
    by_cases cw : 1 ≤ a1 ∧ a1 ≤ 99
    · have c1 : ¬ a1 < 1 := by omega
      have c2 : ¬ 99 < a1 := by omega
      have ge := x_earn (d := d + 59) (h := h) (s := s) (k := a0) (v := a1) t3 (by rw [q2.1]; exact q2.2.1) (by rw [q2.1]; exact q2.2.2) cw.1 cw.2
      rw [q2.1] at ge
      by_cases cp : 9999 < mrd h 240 (68 + a0) + a1
      · rw [if_pos cp] at ge
        have gp := fun v => m_pays (d := d + 59) (k := a0) (v := a1) (hm v) hc.1 (by omega) (by rw [rdq (by decide) (by decide)]; exact q2.2.1) (by rw [rdq (by decide) (by decide)]; exact q2.2.2) cw.1 cw.2
        simp only [rdq, ↓reduceIte, Int.reduceLT, Int.reduceEq, Int.reduceLE, Int.reduceNeg, Int.reduceAdd, Int.reduceMul, Int.reduceSub, ne_eq, not_true_eq_false, not_false_eq_true, and_true, true_and, and_false, false_and, c3lt, c3gt, c3eq, Bool.false_eq_true, isK_wr, inA_wr, inR_wr, if_pos cp] at gp
        refine opq hI (-1) 7 ?_ ?_
        · simp only [e124_0, e124_1, e124_4, e124_5, e124_8, e124_11, e124_12, e124_13, e124_16, e124_17, e124_18, e124_19, e124_22, e124_23, e124_25, e124_28, e124_29, e124_30, e124_33, e124_34, e124_35, e124_38, e124_41, e124_42, e124_43, e124_44, e124_45, e124_46, e124_49, e124_52, e124_53, e124_54, e124_57, e124_60, e124_63, e124_64, e124_66, e124_69, psh0, psh1, psh3, true_or, or_true, eq_self, Option.bind_some, List.length_nil, List.length_cons, Nat.reduceAdd, Nat.reduceLeDiff, Nat.zero_le, ↓reduceIte, Int.reduceLT, Int.reduceEq, Int.reduceLE, Int.reduceNeg, Int.reduceAdd, Int.reduceMul, Int.reduceSub, ne_eq, not_true_eq_false, not_false_eq_true, and_true, true_and, and_false, false_and, c3lt, c3gt, c3eq, Bool.false_eq_true, isK_wr, inA_wr, inR_wr, k0, e8, ks, r2, hx, t1, t2, t3, c1, c2, ge, x_refuse]
        · simp only [e260_0, e260_1, e260_2, e260_5, e260_6, e260_7, e260_10, e260_11, e260_12, e260_15, e260_18, e260_19, e260_20, e260_23, e260_24, e260_25, e260_26, e260_27, e260_30, e260_33, e260_36, e260_37, e260_38, e260_41, e260_42, e260_43, e260_44, e260_45, e260_48, e260_51, e260_52, e260_55, e260_57, e260_58, e260_59, e260_60, e260_63, e260_64, e260_66, e260_69, psh0, psh1, psh3, true_or, or_true, eq_self, Option.bind_some, List.length_nil, List.length_cons, Nat.reduceAdd, Nat.reduceLeDiff, Nat.zero_le, ↓reduceIte, Int.reduceLT, Int.reduceEq, Int.reduceLE, Int.reduceNeg, Int.reduceAdd, Int.reduceMul, Int.reduceSub, ne_eq, not_true_eq_false, not_false_eq_true, and_true, true_and, and_false, false_and, c3lt, c3gt, c3eq, Bool.false_eq_true, isK_wr, inA_wr, inR_wr, kM, hl, m_isIn, cw, gp, m_refuse, wrwr]
      · rw [if_neg cp] at ge
        obtain ⟨H, hH⟩ : ∃ H, H = mwr h (s + 25 + 2 * a0) 3 (mrd h 240 (68 + a0) + a1) := ⟨_, rfl⟩
        rw [← hH] at ge
        have fr : ∀ a i, ¬ (a = s + 25 + 2 * a0 ∧ 3 ≤ i ∧ i ≤ 6) → a ≠ s + 26 + 2 * a0 → mrd H a i = mrd h a i := fun a i z1 _ => by
          rw [hH, rd_wr, if_neg (by omega)]
        have cm0 : CM H := CM_K hI hs hc.1 (by omega) (by rw [hH]; rfl) fr
        have k0' : isK H 0 10 := by rw [hH]; exact k0
        have t3' : isK H (s + 25 + 2 * a0) 1 := by rw [hH]; exact t3
        have v4 : mrd H (s + 25 + 2 * a0) 3 = mrd h 240 (68 + a0) + a1 := by rw [hH, rde]
        obtain ⟨G, hG⟩ : ∃ G, G = mwr (mwr (mwr H 0 11 0) 235 1 0) 235 0 0 := ⟨_, rfl⟩
        have cmq : CM G := by rw [hG]; exact CM_q cm0
        have z4 : ∀ q, mrd G 240 q = mrd h 240 q := fun q => by
          rw [hG, rdq (by decide) (by decide)]
          exact fr _ _ (by omega) (by omega)
        have gc' : EV (d + 59) 240 0 [(2, 235), (0, a0)] [] G = some ((0, 1), G) := by
          rw [m_isChildAt cmq (by rw [z4]; omega), z4, if_pos (by omega)]
        have gp := m_pays (d := d + 59) (k := a0) (v := a1) cmq hc.1 (by omega) (by rw [z4]; exact q2.2.1) (by rw [z4]; exact q2.2.2) cw.1 cw.2
        rw [z4, if_neg cp] at gp
        have w1 : w32 (68 + a0) = 68 + a0 := w32_id (by omega) (by omega)
        have j1 : inA G 240 16 (68 + a0) := inC cmq (by omega) (by omega)
        have m20 := mC cmq
        refine ⟨mrd h 240 (68 + a0) + a1, mwr H 0 11 0, mwr G 240 (68 + a0) (mrd h 240 (68 + a0) + a1), ?_, ?_, ?_⟩
        · simp only [e124_0, e124_1, e124_4, e124_5, e124_8, e124_11, e124_12, e124_13, e124_16, e124_17, e124_18, e124_19, e124_22, e124_23, e124_25, e124_28, e124_29, e124_30, e124_33, e124_34, e124_35, e124_38, e124_41, e124_42, e124_43, e124_44, e124_45, e124_46, e124_49, e124_52, e124_53, e124_54, e124_57, e124_60, e124_63, e124_64, e124_66, e124_69, psh0, psh1, psh3, true_or, or_true, eq_self, Option.bind_some, List.length_nil, List.length_cons, Nat.reduceAdd, Nat.reduceLeDiff, Nat.zero_le, ↓reduceIte, Int.reduceLT, Int.reduceEq, Int.reduceLE, Int.reduceNeg, Int.reduceAdd, Int.reduceMul, Int.reduceSub, ne_eq, not_true_eq_false, not_false_eq_true, and_true, true_and, and_false, false_and, c3lt, c3gt, c3eq, Bool.false_eq_true, isK_wr, inA_wr, inR_wr, k0, e8, ks, r2, hx, t1, t2, t3, c1, c2, ge, k0', t3', v4, x_answer]
        · simp only [e260_0, e260_1, e260_2, e260_5, e260_6, e260_7, e260_10, e260_11, e260_12, e260_15, e260_18, e260_19, e260_20, e260_23, e260_24, e260_25, e260_26, e260_27, e260_30, e260_33, e260_36, e260_37, e260_38, e260_41, e260_42, e260_43, e260_44, e260_45, e260_48, e260_51, e260_52, e260_55, e260_57, e260_58, e260_59, e260_60, e260_63, e260_64, e260_66, e260_69, psh0, psh1, psh3, true_or, or_true, eq_self, Option.bind_some, List.length_nil, List.length_cons, Nat.reduceAdd, Nat.reduceLeDiff, Nat.zero_le, ↓reduceIte, Int.reduceLT, Int.reduceEq, Int.reduceLE, Int.reduceNeg, Int.reduceAdd, Int.reduceMul, Int.reduceSub, ne_eq, not_true_eq_false, not_false_eq_true, and_true, true_and, and_false, false_and, c3lt, c3gt, c3eq, Bool.false_eq_true, isK_wr, inA_wr, inR_wr, cm0.1, ← hG, gc', m_isIn, cw, gp, cmq.1, m20, w1, j1, rd_wr]
        · have zf : ∀ a i, ¬ Scr a i → mrd G a i = mrd H a i := fun a i hn => by rw [hG]; exact Scr_q hn
          have hR : RSch h.1 s 0 0 := by rw [← e8]; exact hI.2.1.2.2.2.2.2.2.2.2.1.1
          have k1 : a0 < h.1 s 7 := by have : h.1 s 7 = mrd h 240 2 := d7.1; omega
          have fr2 : ∀ a i, ¬ (a = 240 ∧ i = 68 + a0) → mrd (mwr G 240 (68 + a0) (mrd h 240 (68 + a0) + a1)) a i = mrd G a i := fun a i z => by rw [rd_wr, if_neg z]
          have zs : ∀ a i, (a = s ∨ (s + 13 ≤ a ∧ a ≤ s + 32) ∨ a = 242) → mrd (mwr G 240 (68 + a0) (mrd h 240 (68 + a0) + a1)) a i = mrd H a i := fun a i z => (fr2 a i (by omega)).trans (zf a i (ZS_Scr hs _ _ (by omega)))
          refine Inv_K hI e8 hs hc.1 (by rw [d7.1]; exact hc.2) (fun a i hz h1 h2 h3 => ?_) ?_ ?_ (by rw [hG, hH]; rfl) ?_
          · exact (fr2 a i (by omega)).trans ((zf a i hz).trans (fr a i h1 h2))
          · refine RChi_pc (m := h.1) (hR.2.2.2.2.2 a0 hc.1 k1) ?_ ?_ ?_ ?_ ?_ ?_ ?_ ?_ ?_ ?_ ?_ ?_
            · exact (zs _ _ (by omega)).trans (fr _ _ (by omega) (by omega))
            · exact (zs _ _ (by omega)).trans (fr _ _ (by omega) (by omega))
            · exact (zs _ _ (by omega)).trans (by rw [hH]; exact rdn2 (by decide))
            · exact (zs _ _ (by omega)).trans (by rw [hH]; exact rdn2 (by decide))
            · exact funext fun i => (zs _ _ (by omega)).trans (by rw [hH]; exact rdn1 (by omega))
            · exact (fr2 _ _ (by omega)).trans (z4 _)
            · exact (fr2 _ _ (by omega)).trans (z4 _)
            · exact fun p p0 p1 => (fr2 _ _ (by omega)).trans (z4 _)
            · exact (zs _ _ (by omega)).trans (fr _ _ (by omega) (by omega))
            · exact (zs _ _ (by omega)).trans (fr _ _ (by omega) (by omega))
            · show mrd _ _ _ = mrd _ _ _ ∧ 0 ≤ mrd _ _ _ ∧ mrd _ _ _ ≤ _
              rw [zs _ _ (by omega), v4, rde]
              exact ⟨rfl, by omega, by omega⟩
            · show mrd _ _ _ = mrd _ _ _
              rw [zs _ _ (by omega), fr2 240 _ (by omega), z4, hH, rdn2 (by decide), q3]
          · rw [fr2 _ _ (by omega), fr2 _ _ (by omega), hG, rdn1 (by decide), rdn1 (by decide), rde, rde]
          · rw [fr2 _ _ (by omega), hG, rdq (by decide) (by decide)]
            exact fr _ _ (by omega) (by omega)
    · refine opq hI (-1) 5 ?_ ?_
      · by_cases cn : a1 < 1
        · simp only [e124_0, e124_1, e124_4, e124_5, e124_8, e124_11, e124_12, e124_13, e124_16, e124_17, e124_18, e124_19, e124_22, e124_23, e124_25, e124_28, e124_29, e124_30, e124_33, e124_34, e124_35, e124_38, e124_41, e124_42, e124_43, e124_44, e124_45, e124_46, e124_49, e124_52, e124_53, e124_54, e124_57, e124_60, e124_63, e124_64, e124_66, e124_69, psh0, psh1, psh3, true_or, or_true, eq_self, Option.bind_some, List.length_nil, List.length_cons, Nat.reduceAdd, Nat.reduceLeDiff, Nat.zero_le, ↓reduceIte, Int.reduceLT, Int.reduceEq, Int.reduceLE, Int.reduceNeg, Int.reduceAdd, Int.reduceMul, Int.reduceSub, ne_eq, not_true_eq_false, not_false_eq_true, and_true, true_and, and_false, false_and, c3lt, c3gt, c3eq, Bool.false_eq_true, isK_wr, inA_wr, inR_wr, k0, e8, ks, x_refuse, hx, cn]
        · have cn2 : 99 < a1 := by omega
          simp only [e124_0, e124_1, e124_4, e124_5, e124_8, e124_11, e124_12, e124_13, e124_16, e124_17, e124_18, e124_19, e124_22, e124_23, e124_25, e124_28, e124_29, e124_30, e124_33, e124_34, e124_35, e124_38, e124_41, e124_42, e124_43, e124_44, e124_45, e124_46, e124_49, e124_52, e124_53, e124_54, e124_57, e124_60, e124_63, e124_64, e124_66, e124_69, psh0, psh1, psh3, true_or, or_true, eq_self, Option.bind_some, List.length_nil, List.length_cons, Nat.reduceAdd, Nat.reduceLeDiff, Nat.zero_le, ↓reduceIte, Int.reduceLT, Int.reduceEq, Int.reduceLE, Int.reduceNeg, Int.reduceAdd, Int.reduceMul, Int.reduceSub, ne_eq, not_true_eq_false, not_false_eq_true, and_true, true_and, and_false, false_and, c3lt, c3gt, c3eq, Bool.false_eq_true, isK_wr, inA_wr, inR_wr, k0, e8, ks, x_refuse, hx, cn, cn2]
      · simp only [e260_0, e260_1, e260_2, e260_5, e260_6, e260_7, e260_10, e260_11, e260_12, e260_15, e260_18, e260_19, e260_20, e260_23, e260_24, e260_25, e260_26, e260_27, e260_30, e260_33, e260_36, e260_37, e260_38, e260_41, e260_42, e260_43, e260_44, e260_45, e260_48, e260_51, e260_52, e260_55, e260_57, e260_58, e260_59, e260_60, e260_63, e260_64, e260_66, e260_69, psh0, psh1, psh3, true_or, or_true, eq_self, Option.bind_some, List.length_nil, List.length_cons, Nat.reduceAdd, Nat.reduceLeDiff, Nat.zero_le, ↓reduceIte, Int.reduceLT, Int.reduceEq, Int.reduceLE, Int.reduceNeg, Int.reduceAdd, Int.reduceMul, Int.reduceSub, ne_eq, not_true_eq_false, not_false_eq_true, and_true, true_and, and_false, false_and, c3lt, c3gt, c3eq, Bool.false_eq_true, isK_wr, inA_wr, inR_wr, kM, hl, m_isIn, cw, m_refuse, wrwr]
  · simp only [hc, if_false] at hl hx
    refine opq hI (-1) 2 ?_ ?_
    · simp only [e124_0, e124_1, e124_4, e124_5, e124_8, e124_11, e124_12, e124_13, e124_16, e124_17, e124_18, e124_19, e124_22, e124_23, e124_25, e124_28, e124_29, e124_30, e124_33, e124_34, e124_35, e124_38, e124_41, e124_42, e124_43, e124_44, e124_45, e124_46, e124_49, e124_52, e124_53, e124_54, e124_57, e124_60, e124_63, e124_64, e124_66, e124_69, psh0, psh1, psh3, true_or, or_true, eq_self, Option.bind_some, List.length_nil, List.length_cons, Nat.reduceAdd, Nat.reduceLeDiff, Nat.zero_le, ↓reduceIte, Int.reduceLT, Int.reduceEq, Int.reduceLE, Int.reduceNeg, Int.reduceAdd, Int.reduceMul, Int.reduceSub, ne_eq, not_true_eq_false, not_false_eq_true, and_true, true_and, and_false, false_and, c3lt, c3gt, c3eq, Bool.false_eq_true, isK_wr, inA_wr, inR_wr, k0, e8, ks, x_refuse, hx]
    · simp only [e260_0, e260_1, e260_2, e260_5, e260_6, e260_7, e260_10, e260_11, e260_12, e260_15, e260_18, e260_19, e260_20, e260_23, e260_24, e260_25, e260_26, e260_27, e260_30, e260_33, e260_36, e260_37, e260_38, e260_41, e260_42, e260_43, e260_44, e260_45, e260_48, e260_51, e260_52, e260_55, e260_57, e260_58, e260_59, e260_60, e260_63, e260_64, e260_66, e260_69, psh0, psh1, psh3, true_or, or_true, eq_self, Option.bind_some, List.length_nil, List.length_cons, Nat.reduceAdd, Nat.reduceLeDiff, Nat.zero_le, ↓reduceIte, Int.reduceLT, Int.reduceEq, Int.reduceLE, Int.reduceNeg, Int.reduceAdd, Int.reduceMul, Int.reduceSub, ne_eq, not_true_eq_false, not_false_eq_true, and_true, true_and, and_false, false_and, c3lt, c3gt, c3eq, Bool.false_eq_true, isK_wr, inA_wr, inR_wr, kM, hl, m_refuse, wrwr]
theorem op_lose : Op_lose Inv := by
  intro d h a0 a1 hI i0 i1
  obtain ⟨s, e8, hs, k0, kM, cs, ds⟩ := ctx hI
  have ds' := ds
  have ks := cs.1
  have r1 := cs.2.2.1
  have r2 := cs.2.2.2.1
  have r3 := cs.2.2.2.2.1
  have kl := cs.2.2.2.2.2.2.2.2.2.2.2.1
  have kc := cs.2.2.2.2.2.2.2.2.2.2.2.2
  obtain ⟨d5, d6, d7, d8, dl, dc⟩ := ds
  have hm : ∀ v, CM (mwr (mwr (mwr h 0 11 v) 235 1 0) 235 0 0) := fun v => CM_q (CM_of hI)
  have hx := x_hasChild_q (d := d + 59) (k := a0) ks d7.1
  have hl := fun v => m_isChildAt_q (d := d + 58) (k := a0) hI v
  by_cases hc : 0 ≤ a0 ∧ a0 < mrd h 240 2
  · simp only [hc, and_self, if_true] at hl hx
    obtain ⟨t1, t2, t3, t4, t5, t6⟩ := kc a0 hc.1 (by omega)
    obtain ⟨q1, q2, q3, q4, q5, q6, q7⟩ := dc a0 hc.1 hc.2
    have hp : EV (d + 59) 11 0 [(2, s + 25 + 2 * a0), (0, a1)] [] h = some ((0, if 0 ≤ a1 ∧ a1 < mrd h 240 (76 + a0) then 1 else 0), h) := by rw [x_hasPlace t3, q4.1]
    have wl : w32 (mrd h 240 (76 + a0) - 1) = mrd h 240 (76 + a0) - 1 := w32_id (by omega) (by omega)
    by_cases cp : 0 ≤ a1 ∧ a1 < mrd h 240 (76 + a0)
    · have cp' : 0 ≤ a1 ∧ a1 ≤ mrd h 240 (76 + a0) - 1 := by omega
      rw [if_pos cp] at hp
      have gf := x_forget (d := d + 59) cs hc.1 (show a0 < 4 by omega) cp.1 (by rw [q4.1]; exact cp.2) (by rw [q4.1]; exact q4.2.2)
      obtain ⟨H, hH⟩ : ∃ H, H = FG h s a0 a1 := ⟨_, rfl⟩
      rw [← hH] at gf
      have fr : ∀ a i, ¬ (a = s + 25 + 2 * a0 ∧ 3 ≤ i ∧ i ≤ 6) → a ≠ s + 26 + 2 * a0 → mrd H a i = mrd h a i := fun a i z1 z2 => by
        rw [hH]; exact FG_fr z1 z2
      have cm0 : CM H := CM_K hI hs hc.1 (by omega) (by rw [hH]; rfl) fr
      have k0' : isK H 0 10 := by rw [hH]; exact k0
      obtain ⟨G, hG⟩ : ∃ G, G = mwr (mwr (mwr H 0 11 0) 235 1 0) 235 0 0 := ⟨_, rfl⟩
      have cmq : CM G := by rw [hG]; exact CM_q cm0
      have z4 : ∀ q, mrd G 240 q = mrd h 240 q := fun q => by
        rw [hG, rdq (by decide) (by decide)]
        exact fr _ _ (by omega) (by omega)
      have gc' : EV (d + 59) 240 0 [(2, 235), (0, a0)] [] G = some ((0, 1), G) := by
        rw [m_isChildAt cmq (by rw [z4]; omega), z4, if_pos (by omega)]
      have gl' : EV (d + 59) 241 0 [(2, 235), (0, a0)] [] G = some ((0, mrd h 240 (76 + a0)), G) := by
        rw [m_lengthOf cmq hc.1 (by omega), z4]
      have gm := m_loses (d := d + 58) (k := a0) (p := a1) cmq hc.1 (by omega) cp.1 (by rw [z4]; exact cp.2) (by rw [z4]; exact q4.2.2)
      rw [z4] at gm
      obtain ⟨p1, p2, p3⟩ := q5 a1 cp.1 cp.2
      rw [p1] at gf
      refine ⟨mrd h 240 (80 + 12 * a0 + a1), mwr H 0 11 0, FM G a0 a1, ?_, ?_, ?_⟩
      · simp only [e122_0, e122_1, e122_4, e122_5, e122_8, e122_11, e122_12, e122_13, e122_16, e122_17, e122_18, e122_21, e122_24, e122_25, e122_26, e122_27, e122_28, e122_29, e122_32, e122_35, e122_36, e122_38, e122_41, e122_42, e122_43, e122_44, e122_45, e122_48, e122_51, psh0, psh1, psh3, true_or, or_true, eq_self, Option.bind_some, List.length_nil, List.length_cons, Nat.reduceAdd, Nat.reduceLeDiff, Nat.zero_le, ↓reduceIte, Int.reduceLT, Int.reduceEq, Int.reduceLE, Int.reduceNeg, Int.reduceAdd, Int.reduceMul, Int.reduceSub, ne_eq, not_true_eq_false, not_false_eq_true, and_true, true_and, and_false, false_and, c3lt, c3gt, c3eq, Bool.false_eq_true, isK_wr, inA_wr, inR_wr, k0, e8, ks, r2, hx, t1, t2, t3, hp, gf, k0', x_answer]
      · simp only [e257_0, e257_1, e257_2, e257_5, e257_6, e257_7, e257_10, e257_11, e257_12, e257_15, e257_18, e257_19, e257_20, e257_23, e257_24, e257_25, e257_26, e257_27, e257_28, e257_29, e257_32, e257_33, e257_34, e257_35, e257_38, e257_41, e257_42, e257_43, e257_44, e257_47, e257_50, e257_51, e257_53, e257_56, psh0, psh1, psh3, true_or, or_true, eq_self, Option.bind_some, List.length_nil, List.length_cons, Nat.reduceAdd, Nat.reduceLeDiff, Nat.zero_le, ↓reduceIte, Int.reduceLT, Int.reduceEq, Int.reduceLE, Int.reduceNeg, Int.reduceAdd, Int.reduceMul, Int.reduceSub, ne_eq, not_true_eq_false, not_false_eq_true, and_true, true_and, and_false, false_and, c3lt, c3gt, c3eq, Bool.false_eq_true, isK_wr, inA_wr, inR_wr, cm0.1, ← hG, gc', gl', m_isIn, wl, cp', gm, cmq.1]
      · have zf : ∀ a i, ¬ Scr a i → mrd G a i = mrd H a i := fun a i hn => by rw [hG]; exact Scr_q hn
        have hR : RSch h.1 s 0 0 := by rw [← e8]; exact hI.2.1.2.2.2.2.2.2.2.2.1.1
        have k1 : a0 < h.1 s 7 := by have : h.1 s 7 = mrd h 240 2 := d7.1; omega
        have fr2 := fun a i => FM_fr (g := G) (k := a0) (p := a1) (a := a) (i := i) hc.1 cp.1 (by rw [z4]; exact q4.2.2)
        have zs : ∀ a i, (a = s ∨ (s + 13 ≤ a ∧ a ≤ s + 32) ∨ a = 242) → mrd (FM G a0 a1) a i = mrd H a i := fun a i z => (fr2 a i (by omega)).trans (zf a i (ZS_Scr hs _ _ (by omega)))
        have tv := FG_v (h := h) (s := s) (k := a0) (p := a1)
        rw [← hH] at tv
        have mv := FM_v (g := G) (k := a0) (p := a1) hc.1 cp.1
        simp only [z4] at mv
        refine Inv_K hI e8 hs hc.1 (by rw [d7.1]; exact hc.2) (fun a i hz h1 h2 h3 => ?_) ?_ ?_ (by rw [hG, hH]; rfl) ?_
        · exact (fr2 a i h3).trans ((zf a i hz).trans (fr a i h1 h2))
        · refine RChi_lose (m := h.1) (p := a1) (hR.2.2.2.2.2 a0 hc.1 k1) hR.2.1.2.2 cp.1 ?_ ?_ ?_ ?_ ?_ ?_ ?_ ?_ ?_ ?_ ?_ ?_ ?_ ?_ ?_
          · show a1 < mrd h (s + 25 + 2 * a0) 6
            rw [q4.1]; exact cp.2
          · exact (zs _ _ (by omega)).trans (fr _ _ (by omega) (by omega))
          · exact (zs _ _ (by omega)).trans (fr _ _ (by omega) (by omega))
          · exact (zs _ _ (by omega)).trans tv.1
          · exact (zs _ _ (by omega)).trans tv.2.1
          · exact (zs _ _ (by omega)).trans tv.2.2.1
          · exact (zs _ _ (by omega)).trans tv.2.2.2.1
          · exact fun q q0 => (zs _ _ (by omega)).trans (tv.2.2.2.2 q q0)
          · exact (fr2 _ _ (by omega)).trans (z4 _)
          · exact mv.1
          · exact mv.2.1
          · exact mv.2.2.1
          · exact fun q q0 _ => mv.2.2.2 q q0
          · exact (zs _ _ (by omega)).trans (fr _ _ (by omega) (by omega))
          · exact (zs _ _ (by omega)).trans (fr _ _ (by omega) (by omega))
        · rw [fr2 _ _ (by omega), fr2 _ _ (by omega), hG, rdn1 (by decide), rdn1 (by decide), rde, rde]
        · rw [fr2 _ _ (by omega), hG, rdq (by decide) (by decide)]
          exact fr _ _ (by omega) (by omega)
    · have cp' : ¬ (0 ≤ a1 ∧ a1 ≤ mrd h 240 (76 + a0) - 1) := by omega
      rw [if_neg cp] at hp
      refine opq hI (-1) 8 ?_ ?_
      · simp only [e122_0, e122_1, e122_4, e122_5, e122_8, e122_11, e122_12, e122_13, e122_16, e122_17, e122_18, e122_21, e122_24, e122_25, e122_26, e122_27, e122_28, e122_29, e122_32, e122_35, e122_36, e122_38, e122_41, e122_42, e122_43, e122_44, e122_45, e122_48, e122_51, psh0, psh1, psh3, true_or, or_true, eq_self, Option.bind_some, List.length_nil, List.length_cons, Nat.reduceAdd, Nat.reduceLeDiff, Nat.zero_le, ↓reduceIte, Int.reduceLT, Int.reduceEq, Int.reduceLE, Int.reduceNeg, Int.reduceAdd, Int.reduceMul, Int.reduceSub, ne_eq, not_true_eq_false, not_false_eq_true, and_true, true_and, and_false, false_and, c3lt, c3gt, c3eq, Bool.false_eq_true, isK_wr, inA_wr, inR_wr, k0, e8, ks, r2, hx, t1, t2, t3, hp, x_refuse]
      · simp only [e257_0, e257_1, e257_2, e257_5, e257_6, e257_7, e257_10, e257_11, e257_12, e257_15, e257_18, e257_19, e257_20, e257_23, e257_24, e257_25, e257_26, e257_27, e257_28, e257_29, e257_32, e257_33, e257_34, e257_35, e257_38, e257_41, e257_42, e257_43, e257_44, e257_47, e257_50, e257_51, e257_53, e257_56, psh0, psh1, psh3, true_or, or_true, eq_self, Option.bind_some, List.length_nil, List.length_cons, Nat.reduceAdd, Nat.reduceLeDiff, Nat.zero_le, ↓reduceIte, Int.reduceLT, Int.reduceEq, Int.reduceLE, Int.reduceNeg, Int.reduceAdd, Int.reduceMul, Int.reduceSub, ne_eq, not_true_eq_false, not_false_eq_true, and_true, true_and, and_false, false_and, c3lt, c3gt, c3eq, Bool.false_eq_true, isK_wr, inA_wr, inR_wr, kM, hl, m_isIn, m_lengthOf (hm 8) hc.1 (show a0 < 4 by omega), rdq, wl, cp', m_refuse, wrwr]
  · simp only [hc, if_false] at hl hx
    refine opq hI (-1) 2 ?_ ?_
    · simp only [e122_0, e122_1, e122_4, e122_5, e122_8, e122_11, e122_12, e122_13, e122_16, e122_17, e122_18, e122_21, e122_24, e122_25, e122_26, e122_27, e122_28, e122_29, e122_32, e122_35, e122_36, e122_38, e122_41, e122_42, e122_43, e122_44, e122_45, e122_48, e122_51, psh0, psh1, psh3, true_or, or_true, eq_self, Option.bind_some, List.length_nil, List.length_cons, Nat.reduceAdd, Nat.reduceLeDiff, Nat.zero_le, ↓reduceIte, Int.reduceLT, Int.reduceEq, Int.reduceLE, Int.reduceNeg, Int.reduceAdd, Int.reduceMul, Int.reduceSub, ne_eq, not_true_eq_false, not_false_eq_true, and_true, true_and, and_false, false_and, c3lt, c3gt, c3eq, Bool.false_eq_true, isK_wr, inA_wr, inR_wr, k0, e8, ks, x_refuse, hx]
    · simp only [e257_0, e257_1, e257_2, e257_5, e257_6, e257_7, e257_10, e257_11, e257_12, e257_15, e257_18, e257_19, e257_20, e257_23, e257_24, e257_25, e257_26, e257_27, e257_28, e257_29, e257_32, e257_33, e257_34, e257_35, e257_38, e257_41, e257_42, e257_43, e257_44, e257_47, e257_50, e257_51, e257_53, e257_56, psh0, psh1, psh3, true_or, or_true, eq_self, Option.bind_some, List.length_nil, List.length_cons, Nat.reduceAdd, Nat.reduceLeDiff, Nat.zero_le, ↓reduceIte, Int.reduceLT, Int.reduceEq, Int.reduceLE, Int.reduceNeg, Int.reduceAdd, Int.reduceMul, Int.reduceSub, ne_eq, not_true_eq_false, not_false_eq_true, and_true, true_and, and_false, false_and, c3lt, c3gt, c3eq, Bool.false_eq_true, isK_wr, inA_wr, inR_wr, kM, hl, m_refuse, wrwr]

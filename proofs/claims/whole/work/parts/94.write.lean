theorem PL_0 {h : AM} {t p : Int} (hc : PL h t p = 0) : (0 ≤ t ∧ t < 4) ∧ 0 ≤ p ∧ p < mrd h 237 t := by
  unfold PL at hc
  have ct : 0 ≤ t ∧ t < 4 := by
    by_cases z : 0 ≤ t ∧ t < 4
    · exact z
    · rw [if_neg z] at hc; omega
  rw [if_pos ct] at hc
  have c2 : ¬ mrd h 237 t < 0 := fun z => by rw [if_pos z] at hc; omega
  rw [if_neg c2] at hc
  by_cases z : 0 ≤ p ∧ p < mrd h 237 t
  · exact ⟨ct, z⟩
  · rw [if_neg z] at hc; omega
theorem PL_pos {h : AM} {t p : Int} (hc : ¬ PL h t p = 0) : 0 < PL h t p := by
  unfold PL at hc ⊢
  split
  · split
    · decide
    · split
      · rename_i z1 z2 z3
        rw [if_pos z1, if_neg z2, if_pos z3] at hc
        exact absurd rfl hc
      · decide
  · decide
theorem trO_n {t : Int} (t0 : 0 ≤ t) (t1 : t < 4) : 3 + 2 * t ∈ trO ∧ refT.all (fun q => !(q.1 == 3 + 2 * t)) = true := by
  rcases (show t = 0 ∨ t = 1 ∨ t = 2 ∨ t = 3 by omega) with rfl | rfl | rfl | rfl <;> decide +kernel
theorem RSum_tr {h h' : AM} (e : h'.2 = h.2) (hf : mrd h' 148 5 = mrd h 148 5) (hI : Inv h) : RSum h' := RSum_eq e hf hI.2.2.2.1
/-- one number of tray t is written on both sides -/
theorem RTry_put {m m' : Int → Int → Int} {t p v : Int} (hp : 0 ≤ p ∧ p < 60) (h : ∀ t, 0 ≤ t → t < 4 → RTry m t) (e2 : ∀ u, 0 ≤ u → u < 4 → m' (2 + 2 * u) = m (2 + 2 * u)) (e36 : m' 236 = m 236) (e37 : m' 237 = m 237) (e3 : ∀ u q, 0 ≤ u → u < 4 → m' (3 + 2 * u) q = if u = t ∧ q = p then v else m (3 + 2 * u) q) (e38 : ∀ j, m' 238 j = if j = 60 * t + p then v else m 238 j) : ∀ u, 0 ≤ u → u < 4 → RTry m' u := by
  intro u u0 u1
  have := h u u0 u1
  unfold RTry at this ⊢
  rw [e2 u u0 u1, e36, e37]
  rcases this with z | ⟨z1, z2, z3, z4⟩
  · exact Or.inl z
  · refine Or.inr ⟨z1, z2, z3, fun q q0 q1 => ?_⟩
    rw [e3 u q u0 u1, e38]
    by_cases c : u = t ∧ q = p
    · rw [if_pos c, if_pos (by omega)]
    · rw [if_neg c, if_neg (by omega)]
      exact z4 q q0 q1
theorem op_write : Op_write Inv := by
  intro d h a0 a1 a2 hI i0 i1 i2
  obtain ⟨s, e8, hs, k0, kM, cs, ds⟩ := ctx hI
  have ds' := ds
  have ks := cs.1
  have r1 := cs.2.2.1
  have r2 := cs.2.2.2.1
  have r3 := cs.2.2.2.2.1
  have kl := cs.2.2.2.2.2.2.2.2.2.2.2.1
  have kc := cs.2.2.2.2.2.2.2.2.2.2.2.2
  obtain ⟨d5, d6, d7, d8, dl, dc⟩ := ds
  have hm : ∀ v, CM (mwr (mwr (mwr h 0 11 v) 235 1 0) 235 0 0) := fun v => CM_q (CM_of hI)
  have x0 : mrd h 0 0 = 1 := rf_0_0 hI.2.1.1
  have gx := x_askPlace (d := d + 58) (t := a0) (p := a1) k0 x0 (fun t0 t1 => CT_of hI.1 hI.2.1.1 t0 t1) (fun t0 t1 => hI.2.1.2.2.1 a0 t0 t1)
  by_cases hc : PL h a0 a1 = 0
  · rw [hc] at gx
    obtain ⟨ct, cp⟩ := PL_0 hc
    have hct := CT_of hI.1 hI.2.1.1 ct.1 ct.2
    obtain ⟨q1, q2, q3, q4, q5, q6⟩ := id hct
    have hr : RTry (mrd h) a0 := hI.2.1.2.2.1 a0 ct.1 ct.2
    rcases hr with ⟨e1, e2⟩ | ⟨e1, e2, e3, e4⟩
    · omega
    have gp := x_put (d := d + 59) (v := a2) hct (by omega) cp.1 (show a1 < 60 by omega)
    rw [e2.1] at gp
    obtain ⟨tn1, tn2⟩ := trO_n ct.1 ct.2
    have hm1 : ∀ v, CM (mwr (mwr (mwr h (3 + 2 * a0) a1 v) 0 11 0) 235 1 0) := fun v => CM_wr rn_m1 (CM_wr rn_st (CM_wrA tn2 (CM_of hI)))
    generalize hv : cutF (mrd h 236 a0) a2 = cv at gp
    have gm := m_placed (d := d + 58) (t := a0) (p := a1) (hm1 cv)
    have n1 : (3 + 2 * a0 = 0) = False := eq_false (by omega)
    have n5 : (237 = 3 + 2 * a0) = False := eq_false (by omega)
    have n6 : (236 = 3 + 2 * a0) = False := eq_false (by omega)
    have n7 : (235 = 3 + 2 * a0) = False := eq_false (by omega)
    have ep : PL (mwr (mwr (mwr h (3 + 2 * a0) a1 cv) 0 11 0) 235 1 0) a0 a1 = 0 := by
      refine Eq.trans ?_ hc
      unfold PL
      simp only [rdn1, n5, ↓reduceIte, Int.reduceLT, Int.reduceEq, Int.reduceLE, Int.reduceNeg, Int.reduceAdd, Int.reduceMul, Int.reduceSub, ne_eq, not_true_eq_false, not_false_eq_true, and_true, true_and, and_false, false_and, c3lt, c3gt, c3eq, Bool.false_eq_true, isK_wr, inA_wr, inR_wr]
    rw [ep] at gm
    have ii2 : inA h 238 19 (60 * a0 + a1) := ⟨kn_238 hI.1, by omega, by rw [ln_238 hI.1]; omega⟩
    have ii3 : inA h 236 16 a0 := ⟨kn_236 hI.1, ct.1, by rw [ln_236 hI.1]; omega⟩
    have m4 : mrd h 235 4 = 236 := rf_235_4 hI.2.1.1
    have m6 : mrd h 235 6 = 238 := rf_235_6 hI.2.1.1
    have w1 : w32 (60 * a0) = 60 * a0 := w32_id (by omega) (by omega)
    have w2 : w32 (60 * a0 + a1) = 60 * a0 + a1 := w32_id (by omega) (by omega)
    refine ⟨1, mwr (mwr h (3 + 2 * a0) a1 cv) 0 11 0, mwr (mwr (mwr (mwr (mwr h (3 + 2 * a0) a1 cv) 0 11 0) 235 1 0) 235 0 0) 238 (60 * a0 + a1) cv, ?_, ?_, ?_⟩
    · simp only [e108_0, e108_1, e108_2, e108_3, e108_6, e108_8, e108_10, e108_13, e108_14, e108_16, e108_19, e108_20, e108_21, e108_24, e108_25, e108_26, e108_27, e108_28, e108_31, e108_32, e108_35, psh0, psh1, psh3, true_or, or_true, eq_self, Option.bind_some, List.length_nil, List.length_cons, Nat.reduceAdd, Nat.reduceLeDiff, Nat.zero_le, ↓reduceIte, Int.reduceLT, Int.reduceEq, Int.reduceLE, Int.reduceNeg, Int.reduceAdd, Int.reduceMul, Int.reduceSub, ne_eq, not_true_eq_false, not_false_eq_true, and_true, true_and, and_false, false_and, c3lt, c3gt, c3eq, Bool.false_eq_true, isK_wr, inA_wr, inR_wr, k0, gx, x0, q1, q2, q3, gp, x_agree]
    · simp only [e183_0, e183_1, e183_2, e183_5, e183_6, e183_7, e183_8, e183_9, e183_12, e183_15, e183_16, e183_19, e183_22, e183_23, e183_24, e183_25, e183_28, e183_30, e183_31, e183_32, e183_33, e183_34, e183_35, e183_38, e183_39, e183_40, e183_41, e183_44, e183_45, e183_46, psh0, psh1, psh3, true_or, or_true, eq_self, Option.bind_some, List.length_nil, List.length_cons, Nat.reduceAdd, Nat.reduceLeDiff, Nat.zero_le, ↓reduceIte, Int.reduceLT, Int.reduceEq, Int.reduceLE, Int.reduceNeg, Int.reduceAdd, Int.reduceMul, Int.reduceSub, ne_eq, not_true_eq_false, not_false_eq_true, and_true, true_and, and_false, false_and, c3lt, c3gt, c3eq, Bool.false_eq_true, isK_wr, inA_wr, inR_wr, kM, gm, rde, rdn1, rdn2, n6, n7, m4, m6, w1, w2, ii2, ii3, m_cut, hv]
    · refine Inv_mk hI (Rel_tray ?_ hI.2.1 ?_) ?_ hI.1 (RSum_tr (h := h) rfl ?_ hI) rfl
      · exact FrE_wr (Or.inr (Or.inl (by decide))) (FrE_wr (Or.inl Scr_m0) (FrE_wr (Or.inl Scr_m1) (FrE_wr (Or.inl Scr_st) (FrE_wr (Or.inr (Or.inl tn1)) FrE.rf))))
      · refine RTry_put (m := mrd h) (m' := mrd _) (t := a0) (p := a1) (v := cv) ⟨cp.1, by omega⟩ hI.2.1.2.2.1 (fun u u0 u1 => funext fun i => ?_) (funext fun i => ?_) (funext fun i => ?_) (fun u q u0 u1 => ?_) (fun j => ?_)
        · rw [rdn1 (by omega), rdn1 (by omega), rdn1 (by omega), rdn1 (by omega), rdn1 (by omega)]
        · rw [rdn1 (by omega), rdn1 (by omega), rdn1 (by omega), rdn1 (by omega), rdn1 (by omega)]
        · rw [rdn1 (by omega), rdn1 (by omega), rdn1 (by omega), rdn1 (by omega), rdn1 (by omega)]
        · rw [rdn1 (by omega), rdn1 (by omega), rdn1 (by omega), rdn1 (by omega), rd_wr]
          by_cases c : u = a0 ∧ q = a1
          · rw [if_pos c, if_pos (by omega)]
          · rw [if_neg c, if_neg (by omega)]
        · rw [rd_wr]
          by_cases c : j = 60 * a0 + a1
          · rw [if_pos c, if_pos ⟨rfl, c⟩]
          · rw [if_neg c, if_neg (fun z => c z.2), rdn1 (by omega), rdn1 (by omega), rdn1 (by omega), rdn1 (by omega)]
      · rw [rdn1 (by decide), rdn1 (by decide), rdn1 (by decide), rde, rdn1 (by decide), rde]
      · rw [rdn1 (by decide), rdn1 (by decide), rdn1 (by decide), rdn1 (by decide), rdn1 (by omega)]
  · have hp := PL_pos hc
    have hm1 : ∀ v, CM (mwr (mwr h 0 11 v) 235 1 0) := fun v => CM_wr rn_m1 (CM_wr rn_st (CM_of hI))
    have gm := fun v => m_placed (d := d + 58) (t := a0) (p := a1) (hm1 v)
    simp only [PL_q] at gm
    generalize PL h a0 a1 = R at gx gm hc hp
    refine opq hI 0 R ?_ ?_
    · simp only [e108_0, e108_1, e108_2, e108_3, e108_6, e108_8, e108_10, e108_13, e108_14, e108_16, e108_19, e108_20, e108_21, e108_24, e108_25, e108_26, e108_27, e108_28, e108_31, e108_32, e108_35, psh0, psh1, psh3, true_or, or_true, eq_self, Option.bind_some, List.length_nil, List.length_cons, Nat.reduceAdd, Nat.reduceLeDiff, Nat.zero_le, ↓reduceIte, Int.reduceLT, Int.reduceEq, Int.reduceLE, Int.reduceNeg, Int.reduceAdd, Int.reduceMul, Int.reduceSub, ne_eq, not_true_eq_false, not_false_eq_true, and_true, true_and, and_false, false_and, c3lt, c3gt, c3eq, Bool.false_eq_true, isK_wr, inA_wr, inR_wr, k0, gx, hc, x_deny]
    · simp only [e183_0, e183_1, e183_2, e183_5, e183_6, e183_7, e183_8, e183_9, e183_12, e183_15, e183_16, e183_19, e183_22, e183_23, e183_24, e183_25, e183_28, e183_30, e183_31, e183_32, e183_33, e183_34, e183_35, e183_38, e183_39, e183_40, e183_41, e183_44, e183_45, e183_46, psh0, psh1, psh3, true_or, or_true, eq_self, Option.bind_some, List.length_nil, List.length_cons, Nat.reduceAdd, Nat.reduceLeDiff, Nat.zero_le, ↓reduceIte, Int.reduceLT, Int.reduceEq, Int.reduceLE, Int.reduceNeg, Int.reduceAdd, Int.reduceMul, Int.reduceSub, ne_eq, not_true_eq_false, not_false_eq_true, and_true, true_and, and_false, false_and, c3lt, c3gt, c3eq, Bool.false_eq_true, isK_wr, inA_wr, inR_wr, kM, gm, rde, hp]

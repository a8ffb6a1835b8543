/-! ages lived: learning and losing, on both sides -/
theorem wr_2 {h : AM} {a i v : Int} : (mwr h a i v).2 = h.2 := rfl
theorem TE_2 {a : AM} {s k l : Int} : (TE a s k l).2 = a.2 := by
  unfold TE
  rw [wr_2, wr_2, wr_2, wr_2, wr_2]
theorem TM_2 {a : AM} {k l : Int} : (TM a k l).2 = a.2 := by
  unfold TM
  rw [wr_2, wr_2, wr_2, wr_2]
section
variable {d d' : Nat} {a0 b0 a b a' b' : AM} {s L g nc nl e c e' c' k l p v n x : Int}
/-- the counts, when the class's misses alone change -/
theorem LV.mis (h : LV 0 1 L a b) : LV 1 1 L (mwr a L 2 (mrd a L 2 + 1)) b := by
  obtain ⟨h1, h2, h3, h4, h5, h6, h7⟩ := h
  unfold LV
  rw [rdn2 (by decide), rde, rdn2 (by decide), rdn2 (by decide), rdn2 (by decide), rdn2 (by decide), rdn2 (by decide)]
  exact ⟨h1, ⟨by omega, h2.2⟩, h3, h4, h5, h6, h7⟩
theorem LV.cg (h : LV e c L a b) (ea : ∀ i, 1 ≤ i → i ≤ 7 → mrd a' L i = mrd a L i) (eb : ∀ i, 45 ≤ i → i ≤ 51 → mrd b' 235 i = mrd b 235 i) : LV e c L a' b' := by
  unfold LV at h ⊢
  rw [ea 1 (by decide) (by decide), ea 2 (by decide) (by decide), ea 3 (by decide) (by decide), ea 4 (by decide) (by decide), ea 5 (by decide) (by decide), ea 6 (by decide) (by decide), ea 7 (by decide) (by decide), eb 45 (by decide) (by decide), eb 46 (by decide) (by decide), eb 47 (by decide) (by decide), eb 48 (by decide) (by decide), eb 49 (by decide) (by decide), eb 50 (by decide) (by decide), eb 51 (by decide) (by decide)]
  exact h
theorem LV.lrn (h : LV e c L a b) (ea : ∀ i, i ≠ 3 → mrd a' L i = mrd a L i) (eb : ∀ i, i ≠ 49 → mrd b' 235 i = mrd b 235 i) (e3 : mrd a' L 3 = mrd b' 235 49) : LV e c L a' b' := by
  unfold LV at h ⊢
  rw [ea 1 (by decide), ea 2 (by decide), ea 4 (by decide), ea 5 (by decide), ea 6 (by decide), ea 7 (by decide), eb 45 (by decide), eb 46 (by decide), eb 47 (by decide), eb 48 (by decide), eb 50 (by decide), eb 51 (by decide)]
  exact ⟨h.1, h.2.1, e3, h.2.2.2⟩
theorem Sim.w2 (hS : Sim 0 1 a0 b0 s L a b) : w32 (mrd a L 2 + 1) = mrd a L 2 + 1 := by
  obtain ⟨-, -, -, h1, h2, -⟩ := hS
  exact w32_id (by omega) (by omega)
theorem lv_miss (hB : BF a0 b0 s L g nc nl) (hS : Sim 0 1 a0 b0 s L a b) : Sim 1 1 a0 b0 s L (mwr a L 2 (mrd a L 2 + 1)) b := hS.same hB (FNa.rf.wr (by decide) (by decide)) FNb.rf hS.2.2.2.mis
set_option maxHeartbeats 1000000 in
theorem lv_teach (hB : BF a0 b0 s L g nc nl) (hS : Sim 0 1 a0 b0 s L a b) (k0 : 0 ≤ k) (k1 : k < nc) (l0 : 0 ≤ l) (l1 : l < nl) (hb : bI (mrd a (s + 25 + 2 * k) 5) l.toNat = false) (hc : mrd b 240 (28 + l) ≤ mrd b 240 (68 + k)) (n12 : mrd b 240 (76 + k) < 12) (v1 v2 : Int) (hv : mrd a L 3 = mrd b 235 49 → v1 = v2) : Sim 0 1 a0 b0 s L (mwr (TE a s k l) L 3 v1) (mwr (TM b k l) 235 49 v2) := by
  obtain ⟨⟨N0, N12, n4, M1, M2, A6, A7⟩, q2, q3, q6, q5, q4⟩ := hS.chi hB k0 k1
  obtain ⟨l12, p3, p4, p6, p1, p2⟩ := hS.les hB l0 l1
  have bs := hB.bs
  have lv := hS.2.2.2
  obtain ⟨m, hm⟩ : ∃ m, m = (mx a b).1 := ⟨_, rfl⟩
  obtain ⟨m', hm'⟩ : ∃ m', m' = (mx (mwr (TE a s k l) L 3 v1) (mwr (TM b k l) 235 49 v2)).1 := ⟨_, rfl⟩
  have hR : RSch m s 0 0 := by rw [hm]; exact hS.2.2.1
  have tv := TE_v (h := a) (s := s) (k := k) (l := l)
  have mv := TM_v (g := b) (l := l) k0 q6.2.1
  have za : ∀ x i, s ≤ x → x ≤ s + 32 → m' x i = mrd (TE a s k l) x i := fun x i x0 x1 => by
    rw [hm']
    refine (mxa (by omega)).trans ?_
    rw [rd_wr, if_neg (by omega)]
  have zb : ∀ x i, 235 < x → x < 258 → m' x i = mrd (TM b k l) x i := fun x i x0 x1 => by
    rw [hm']
    refine (mxb (by omega) (by omega)).trans ?_
    rw [rd_wr, if_neg (by omega)]
  have ya : ∀ x i, x < 235 → m x i = mrd a x i := fun x i hx => by
    rw [hm]
    exact mxa (by omega)
  have yb : ∀ x i, 235 ≤ x → x < 258 → m x i = mrd b x i := fun x i h0 h1 => by
    rw [hm]
    exact mxb h0 h1
  have mk1 : k < m s 7 := by rw [ya _ _ (by omega)]; omega
  have ml1 : l < m s 6 := by rw [ya _ _ (by omega)]; omega
  have key : RChi m' s 0 0 k := by
    refine RChi_learn (m := m) hR k0 mk1 l0 ml1 ?_ ?_ ?_ ?_ ?_ ?_ ?_ ?_ ?_ ?_ ?_ ?_ ?_ ?_ ?_ ?_
    · rw [ya _ _ (by omega)]; exact hb
    · rw [ya _ _ (by omega), ya _ _ (by omega)]; omega
    · rw [za _ _ (by omega) (by omega), ya _ _ (by omega)]; exact TE_fr (by omega) (by omega)
    · rw [za _ _ (by omega) (by omega), ya _ _ (by omega)]; exact TE_fr (by omega) (by omega)
    · rw [za _ _ (by omega) (by omega), ya _ _ (by omega), ya _ _ (by omega)]; exact tv.1
    · rw [za _ _ (by omega) (by omega), ya _ _ (by omega), ya _ _ (by omega), ya _ _ (by omega)]; exact tv.2.1
    · rw [za _ _ (by omega) (by omega), ya _ _ (by omega)]; exact tv.2.2.1
    · rw [za _ _ (by omega) (by omega), ya _ _ (by omega)]; exact tv.2.2.2.1
    · intro p
      rw [za _ _ (by omega) (by omega), ya _ _ (by omega), ya _ _ (by omega)]; exact tv.2.2.2.2 p
    · rw [zb _ _ (by omega) (by omega), yb _ _ (by omega) (by omega)]; exact TM_fr q6.2.1 (by omega) (by omega)
    · rw [zb _ _ (by omega) (by omega), yb _ _ (by omega) (by omega), yb _ _ (by omega) (by omega)]; exact mv.1
    · rw [zb _ _ (by omega) (by omega), yb _ _ (by omega) (by omega), yb _ _ (by omega) (by omega), yb _ _ (by omega) (by omega)]; exact mv.2.1
    · rw [zb _ _ (by omega) (by omega), yb _ _ (by omega) (by omega)]; exact mv.2.2.1
    · intro p p0 _
      rw [zb _ _ (by omega) (by omega), yb _ _ (by omega) (by omega), yb _ _ (by omega) (by omega)]; exact mv.2.2.2 p p0
    · rw [zb _ _ (by omega) (by omega), yb _ _ (by omega) (by omega)]; exact TM_fr q6.2.1 (by omega) (by omega)
    · rw [za _ _ (by omega) (by omega), ya _ _ (by omega)]; exact TE_fr (by omega) (by omega)
  rw [hm'] at key
  refine hS.upd hB k0 k1 (FKa.wr ⟨TE_2, fun x i n1 n2 n3 n4 n5 => TE_fr n4 n5⟩ (by decide) (by decide)) (FKb.wr ⟨TM_2, fun x i n1 n2 n3 => TM_fr q6.2.1 (by omega) n3⟩ (by decide) (by decide)) key ?_
  have fa : ∀ i, mrd (TE a s k l) L i = mrd a L i := fun i => TE_fr (by omega) (by omega)
  have fb : ∀ i, mrd (TM b k l) 235 i = mrd b 235 i := fun i => TM_fr q6.2.1 (by omega) (by omega)
  refine lv.lrn (fun i hi => ?_) (fun i hi => ?_) ?_
  · rw [rdn2 hi, fa]
  · rw [rdn2 hi, fb]
  · rw [rde, rde]
    exact hv lv.2.2.1
set_option maxHeartbeats 1000000 in
theorem lv_learn (hB : BF a0 b0 s L g nc nl) (hS : Sim 0 1 a0 b0 s L a b) (k0 : 0 ≤ k) (k1 : k < nc) (hl : l = -1 ∨ (0 ≤ l ∧ l < nl)) : ∃ a' b' r, (r = 0 ∨ r = 1) ∧ EV (d + 3) 23 0 [(2, L), (2, s), (2, s + 25 + 2 * k), (0, l)] [] a = some ((3, 0), a') ∧ EV (d' + 3) 313 0 [(2, 235), (0, k), (0, l)] [] b = some ((0, r), b') ∧ Sim (1 - r) 1 a0 b0 s L a' b' ∧ mrd b' 235 48 = mrd b 235 48 := by
  obtain ⟨hp, hr, hm, cs, ds, kL, es, el, eg, eb⟩ := hS.sh hB
  obtain ⟨⟨N0, N12, n4, M1, M2, A6, A7⟩, q2, q3, q6, q5, q4⟩ := hS.chi hB k0 k1
  have bs := hB.bs
  have ks := cs.1
  obtain ⟨t1, t2, t3, t4, t5, t6⟩ := cs.2.2.2.2.2.2.2.2.2.2.2.2 k k0 (by omega)
  have hx := x_hasLesson (d := d + 2) (c := l) ks
  have w2 := hS.w2
  rcases hl with rfl | ⟨l0, l1⟩
  · rw [if_neg (by omega)] at hx
    refine ⟨_, b, 0, Or.inl rfl, ?_, ?_, lv_miss hB hS, rfl⟩
    · simp only [e23_0, e23_1, e23_2, e23_3, e23_6, e23_9, e23_10, e23_11, e23_14, e23_15, e23_18, e23_21, e23_22, e23_23, e23_24, e23_27, e23_30, e23_31, e23_32, e23_33, e23_36, e23_37, e23_37i, e23_38, e23_41, e23_42, e23_43, e23_46, e23_49, e23_50, e23_50i, e23_51, e23_54, e23_55, e23_56, e23_59, psh0, psh1, psh3, true_or, or_true, eq_self, Option.bind_some, List.length_nil, List.length_cons, Nat.reduceAdd, Nat.reduceLeDiff, Nat.zero_le, ↓reduceIte, Int.reduceLT, Int.reduceEq, Int.reduceLE, Int.reduceNeg, Int.reduceAdd, Int.reduceMul, Int.reduceSub, ne_eq, not_true_eq_false, not_false_eq_true, and_true, true_and, and_false, false_and, c3lt, c3gt, c3eq, Bool.false_eq_true, isK_wr, inA_wr, inR_wr, ks, kL, hx, w2]
    · simp only [e313_0, e313_1, e313_4, e313_5, e313_6, e313_7, e313_10, e313_13, e313_14, e313_15, e313_16, e313_17, e313_18, e313_21, e313_22, e313_22i, e313_23, e313_26, e313_27, e313_28, e313_31, e313_32, psh0, psh1, psh3, true_or, or_true, eq_self, Option.bind_some, List.length_nil, List.length_cons, Nat.reduceAdd, Nat.reduceLeDiff, Nat.zero_le, ↓reduceIte, Int.reduceLT, Int.reduceEq, Int.reduceLE, Int.reduceNeg, Int.reduceAdd, Int.reduceMul, Int.reduceSub, ne_eq, not_true_eq_false, not_false_eq_true, and_true, true_and, and_false, false_and, c3lt, c3gt, c3eq, Bool.false_eq_true, isK_wr, inA_wr, inR_wr]
  · rw [if_pos ⟨l0, by omega⟩] at hx
    obtain ⟨l12, p3, p4, p6, p1, p2⟩ := hS.les hB l0 l1
    have gx := x_lets (d := d + 2) (x := mrd a (s + 25 + 2 * k) 5) (l := l) cs l0 l12
    have gp := x_canPay (d := d + 2) (l := l) cs k0 (show k < 4 by omega) l0 l12
    have gw := m_whyNot (d := d') (k := k) (l := l) hm k0 (by omega) l0 l12 q6.2.1 q6.2.2
    have lc : ¬ l < 0 := by omega
    rw [← q5] at gw
    rw [p6] at gx
    rw [p4.1, q3.1] at gp
    by_cases ho : opn (mrd a (s + 25 + 2 * k) 5) (mrd b 240 (52 + l)) l
    · rw [if_pos ho] at gx gw
      by_cases hc : mrd b 240 (68 + k) < mrd b 240 (28 + l)
      · rw [if_pos hc] at gp gw
        refine ⟨_, b, 0, Or.inl rfl, ?_, ?_, lv_miss hB hS, rfl⟩
        · simp only [e23_0, e23_1, e23_2, e23_3, e23_6, e23_9, e23_10, e23_11, e23_14, e23_15, e23_18, e23_21, e23_22, e23_23, e23_24, e23_27, e23_30, e23_31, e23_32, e23_33, e23_36, e23_37, e23_37i, e23_38, e23_41, e23_42, e23_43, e23_46, e23_49, e23_50, e23_50i, e23_51, e23_54, e23_55, e23_56, e23_59, psh0, psh1, psh3, true_or, or_true, eq_self, Option.bind_some, List.length_nil, List.length_cons, Nat.reduceAdd, Nat.reduceLeDiff, Nat.zero_le, ↓reduceIte, Int.reduceLT, Int.reduceEq, Int.reduceLE, Int.reduceNeg, Int.reduceAdd, Int.reduceMul, Int.reduceSub, ne_eq, not_true_eq_false, not_false_eq_true, and_true, true_and, and_false, false_and, c3lt, c3gt, c3eq, Bool.false_eq_true, isK_wr, inA_wr, inR_wr, ks, kL, hx, t3, gx, gp, w2]
        · simp only [e313_0, e313_1, e313_4, e313_5, e313_6, e313_7, e313_10, e313_13, e313_14, e313_15, e313_16, e313_17, e313_18, e313_21, e313_22, e313_22i, e313_23, e313_26, e313_27, e313_28, e313_31, e313_32, psh0, psh1, psh3, true_or, or_true, eq_self, Option.bind_some, List.length_nil, List.length_cons, Nat.reduceAdd, Nat.reduceLeDiff, Nat.zero_le, ↓reduceIte, Int.reduceLT, Int.reduceEq, Int.reduceLE, Int.reduceNeg, Int.reduceAdd, Int.reduceMul, Int.reduceSub, ne_eq, not_true_eq_false, not_false_eq_true, and_true, true_and, and_false, false_and, c3lt, c3gt, c3eq, Bool.false_eq_true, isK_wr, inA_wr, inR_wr, hm.1, lc, gw]
      · rw [if_neg hc] at gp gw
        have hR : RSch (mx a b).1 s 0 0 := hS.2.2.1
        have mk1 : k < (mx a b).1 s 7 := by show k < mrd (mx a b) s 7; rw [mxa (by omega)]; omega
        have ml1 : l < (mx a b).1 s 6 := by show l < mrd (mx a b) s 6; rw [mxa (by omega)]; omega
        have hlt : mrd a (s + 25 + 2 * k) 6 < 12 := by
          have := chi_lt hR k0 mk1 l0 l12 (by show bI (mrd (mx a b) (s + 25 + 2 * k) 5) l.toNat = false; rw [mxa (by omega)]; exact ho.1)
          have : mrd (mx a b) (s + 25 + 2 * k) 6 < 12 := this
          rwa [mxa (by omega)] at this
        have gt := x_teach (d := d + 1) cs k0 (show k < 4 by omega) l0 l12 (by omega) hlt (by rw [p3.1]; exact p3.2) (by rw [q2.1]; exact q2.2)
        have gl := m_learns (d := d') (k := k) (l := l) hm k0 (by omega) l0 l12 q6.2.1 (by omega) p3.2 q2.2
        have kL' : isK (TE a s k l) L 3 := kL
        have e3 : mrd (TE a s k l) L 3 = mrd a L 3 := TE_fr (by omega) (by omega)
        have m49 : mrd (TM b k l) 235 49 = mrd b 235 49 := TM_fr q6.2.1 (by omega) (by omega)
        have hmT : isK (TM b k l) 235 11 := hm.1
        have lv := hS.2.2.2
        refine ⟨mwr (TE a s k l) L 3 (w32 (mrd a L 3 + 1)), mwr (TM b k l) 235 49 (w32 (mrd b 235 49 + 1)), 1, Or.inr rfl, ?_, ?_, ?_, ?_⟩
        · simp only [e23_0, e23_1, e23_2, e23_3, e23_6, e23_9, e23_10, e23_11, e23_14, e23_15, e23_18, e23_21, e23_22, e23_23, e23_24, e23_27, e23_30, e23_31, e23_32, e23_33, e23_36, e23_37, e23_37i, e23_38, e23_41, e23_42, e23_43, e23_46, e23_49, e23_50, e23_50i, e23_51, e23_54, e23_55, e23_56, e23_59, psh0, psh1, psh3, true_or, or_true, eq_self, Option.bind_some, List.length_nil, List.length_cons, Nat.reduceAdd, Nat.reduceLeDiff, Nat.zero_le, ↓reduceIte, Int.reduceLT, Int.reduceEq, Int.reduceLE, Int.reduceNeg, Int.reduceAdd, Int.reduceMul, Int.reduceSub, ne_eq, not_true_eq_false, not_false_eq_true, and_true, true_and, and_false, false_and, c3lt, c3gt, c3eq, Bool.false_eq_true, isK_wr, inA_wr, inR_wr, ks, kL, hx, t3, gx, gp, gt, kL', e3]
        · simp only [e313_0, e313_1, e313_4, e313_5, e313_6, e313_7, e313_10, e313_13, e313_14, e313_15, e313_16, e313_17, e313_18, e313_21, e313_22, e313_22i, e313_23, e313_26, e313_27, e313_28, e313_31, e313_32, psh0, psh1, psh3, true_or, or_true, eq_self, Option.bind_some, List.length_nil, List.length_cons, Nat.reduceAdd, Nat.reduceLeDiff, Nat.zero_le, ↓reduceIte, Int.reduceLT, Int.reduceEq, Int.reduceLE, Int.reduceNeg, Int.reduceAdd, Int.reduceMul, Int.reduceSub, ne_eq, not_true_eq_false, not_false_eq_true, and_true, true_and, and_false, false_and, c3lt, c3gt, c3eq, Bool.false_eq_true, isK_wr, inA_wr, inR_wr, hm.1, lc, gw, gl, hmT, m49]
        · exact lv_teach hB hS k0 k1 l0 l1 ho.1 (by omega) (by omega) _ _ (fun z => by rw [z])
        · rw [rdn2 (by decide)]
          exact TM_fr q6.2.1 (by omega) (by omega)
    · rw [if_neg ho] at gx gw
      refine ⟨_, b, 0, Or.inl rfl, ?_, ?_, lv_miss hB hS, rfl⟩
      · simp only [e23_0, e23_1, e23_2, e23_3, e23_6, e23_9, e23_10, e23_11, e23_14, e23_15, e23_18, e23_21, e23_22, e23_23, e23_24, e23_27, e23_30, e23_31, e23_32, e23_33, e23_36, e23_37, e23_37i, e23_38, e23_41, e23_42, e23_43, e23_46, e23_49, e23_50, e23_50i, e23_51, e23_54, e23_55, e23_56, e23_59, psh0, psh1, psh3, true_or, or_true, eq_self, Option.bind_some, List.length_nil, List.length_cons, Nat.reduceAdd, Nat.reduceLeDiff, Nat.zero_le, ↓reduceIte, Int.reduceLT, Int.reduceEq, Int.reduceLE, Int.reduceNeg, Int.reduceAdd, Int.reduceMul, Int.reduceSub, ne_eq, not_true_eq_false, not_false_eq_true, and_true, true_and, and_false, false_and, c3lt, c3gt, c3eq, Bool.false_eq_true, isK_wr, inA_wr, inR_wr, ks, kL, hx, t3, gx, w2]
      · simp only [e313_0, e313_1, e313_4, e313_5, e313_6, e313_7, e313_10, e313_13, e313_14, e313_15, e313_16, e313_17, e313_18, e313_21, e313_22, e313_22i, e313_23, e313_26, e313_27, e313_28, e313_31, e313_32, psh0, psh1, psh3, true_or, or_true, eq_self, Option.bind_some, List.length_nil, List.length_cons, Nat.reduceAdd, Nat.reduceLeDiff, Nat.zero_le, ↓reduceIte, Int.reduceLT, Int.reduceEq, Int.reduceLE, Int.reduceNeg, Int.reduceAdd, Int.reduceMul, Int.reduceSub, ne_eq, not_true_eq_false, not_false_eq_true, and_true, true_and, and_false, false_and, c3lt, c3gt, c3eq, Bool.false_eq_true, isK_wr, inA_wr, inR_wr, hm.1, lc, gw]
theorem FG_fr' {i : Int} (h1 : ¬ (x = s + 25 + 2 * k ∧ 3 ≤ i ∧ i ≤ 6)) (h2 : x ≠ s + 26 + 2 * k) : mrd (FG a s k p) x i = mrd a x i := FG_fr h1 h2
set_option maxHeartbeats 1000000 in
theorem lv_lose (hB : BF a0 b0 s L g nc nl) (hS : Sim 0 1 a0 b0 s L a b) (k0 : 0 ≤ k) (k1 : k < nc) (p0 : 0 ≤ p) : ∃ a' b' r, (r = 0 ∨ r = 1) ∧ EV (d + 3) 24 0 [(2, L), (2, s + 25 + 2 * k), (0, p)] [] a = some ((3, 0), a') ∧ EV (d' + 3) 314 0 [(2, 235), (0, k), (0, p)] [] b = some ((0, r), b') ∧ Sim (1 - r) 1 a0 b0 s L a' b' ∧ mrd b' 235 48 = mrd b 235 48 := by
  obtain ⟨hp, hr, hm, cs, ds, kL, es, el, eg, eb⟩ := hS.sh hB
  obtain ⟨⟨N0, N12, n4, M1, M2, A6, A7⟩, q2, q3, q6, q5, q4⟩ := hS.chi hB k0 k1
  have bs := hB.bs
  obtain ⟨t1, t2, t3, t4, t5, t6⟩ := cs.2.2.2.2.2.2.2.2.2.2.2.2 k k0 (by omega)
  have hx := x_hasPlace (d := d + 2) (c := p) t3
  have w2 := hS.w2
  have ge := m_lengthOf (d := d' + 2) hm k0 (show k < 4 by omega)
  rw [q6.1] at hx
  by_cases c : p < mrd b 240 (76 + k)
  · rw [if_pos ⟨p0, c⟩] at hx
    have gf := x_forget (d := d + 2) cs k0 (show k < 4 by omega) p0 (by rw [q6.1]; exact c) (by rw [q6.1]; exact q6.2.2)
    have gl := m_loses (d := d' + 1) hm k0 (show k < 4 by omega) p0 c q6.2.2
    have kL' : isK (FG a s k p) L 3 := kL
    have e4 : mrd (FG a s k p) L 4 = mrd a L 4 := FG_fr (by omega) (by omega)
    have m50 : mrd (FM b k p) 235 50 = mrd b 235 50 := FM_fr k0 p0 q6.2.2 (by omega)
    have hmT : isK (FM b k p) 235 11 := hm.1
    have lv := hS.2.2.2
    have hR : RSch (mx a b).1 s 0 0 := hS.2.2.1
    have mk1 : k < (mx a b).1 s 7 := by show k < mrd (mx a b) s 7; rw [mxa (by omega)]; omega
    refine ⟨mwr (FG a s k p) L 4 (w32 (mrd a L 4 + 1)), mwr (FM b k p) 235 50 (w32 (mrd b 235 50 + 1)), 1, Or.inr rfl, ?_, ?_, ?_, ?_⟩
    · simp only [e24_0, e24_1, e24_2, e24_5, e24_8, e24_9, e24_10, e24_13, e24_13r, e24_14, e24_15, e24_15i, e24_16, e24_19, e24_20, e24_21, e24_24, e24_27, e24_28, e24_28i, e24_29, e24_32, e24_33, e24_34, e24_37, psh0, psh1, psh3, true_or, or_true, eq_self, Option.bind_some, List.length_nil, List.length_cons, Nat.reduceAdd, Nat.reduceLeDiff, Nat.zero_le, ↓reduceIte, Int.reduceLT, Int.reduceEq, Int.reduceLE, Int.reduceNeg, Int.reduceAdd, Int.reduceMul, Int.reduceSub, ne_eq, not_true_eq_false, not_false_eq_true, and_true, true_and, and_false, false_and, c3lt, c3gt, c3eq, Bool.false_eq_true, isK_wr, inA_wr, inR_wr, kL, hx, t3, gf, kL', e4]
    · simp only [e314_0, e314_1, e314_2, e314_3, e314_6, e314_9, e314_10, e314_11, e314_12, e314_13, e314_14, e314_17, e314_17r, e314_18, e314_19, e314_19i, e314_20, e314_23, e314_24, e314_25, e314_28, e314_29, psh0, psh1, psh3, true_or, or_true, eq_self, Option.bind_some, List.length_nil, List.length_cons, Nat.reduceAdd, Nat.reduceLeDiff, Nat.zero_le, ↓reduceIte, Int.reduceLT, Int.reduceEq, Int.reduceLE, Int.reduceNeg, Int.reduceAdd, Int.reduceMul, Int.reduceSub, ne_eq, not_true_eq_false, not_false_eq_true, and_true, true_and, and_false, false_and, c3lt, c3gt, c3eq, Bool.false_eq_true, isK_wr, inA_wr, inR_wr, hm.1, ge, c, gl, hmT, m50]
    · have tv := FG_v (h := a) (s := s) (k := k) (p := p)
      have mv := FM_v (g := b) k0 p0
      have za : ∀ x i, s ≤ x → x ≤ s + 32 → mrd (mx (mwr (FG a s k p) L 4 (w32 (mrd a L 4 + 1))) (mwr (FM b k p) 235 50 (w32 (mrd b 235 50 + 1)))) x i = mrd (FG a s k p) x i := fun x i x0 x1 => by
        rw [mxa (by omega), rd_wr, if_neg (by omega)]
      have zb : ∀ x i, 235 < x → x < 258 → mrd (mx (mwr (FG a s k p) L 4 (w32 (mrd a L 4 + 1))) (mwr (FM b k p) 235 50 (w32 (mrd b 235 50 + 1)))) x i = mrd (FM b k p) x i := fun x i x0 x1 => by
        rw [mxb (by omega) (by omega), rd_wr, if_neg (by omega)]
      have ya : ∀ x i, x < 235 → mrd (mx a b) x i = mrd a x i := fun x i hx => mxa (by omega)
      have yb : ∀ x i, 235 ≤ x → x < 258 → mrd (mx a b) x i = mrd b x i := fun x i h0 h1 => mxb h0 h1
      refine hS.upd hB k0 k1 (FKa.wr ⟨rfl, fun x i n1 n2 n3 n4 n5 => FG_fr n4 n5⟩ (by decide) (by decide)) (FKb.wr ⟨rfl, fun x i n1 n2 n3 => FM_fr k0 p0 q6.2.2 n3⟩ (by decide) (by decide)) (RChi_lose (m := (mx a b).1) (m' := (mx (mwr (FG a s k p) L 4 (w32 (mrd a L 4 + 1))) (mwr (FM b k p) 235 50 (w32 (mrd b 235 50 + 1)))).1) (p := p) (hR.2.2.2.2.2 k k0 mk1) hR.2.1.2.2 p0 ?_ ?_ ?_ ?_ ?_ ?_ ?_ ?_ ?_ ?_ ?_ ?_ ?_ ?_ ?_) ?_
      · show p < mrd (mx a b) (s + 25 + 2 * k) 6
        rw [ya _ _ (by omega), q6.1]; exact c
      · exact (za _ _ (by omega) (by omega)).trans ((FG_fr (by omega) (by omega)).trans (ya _ _ (by omega)).symm)
      · exact (za _ _ (by omega) (by omega)).trans ((FG_fr (by omega) (by omega)).trans (ya _ _ (by omega)).symm)
      · exact (za _ _ (by omega) (by omega)).trans (tv.1.trans (ya _ _ (by omega)).symm)
      · exact (za _ _ (by omega) (by omega)).trans (tv.2.1.trans (ya _ _ (by omega)).symm)
      · show _ = i_and (mrd (mx a b) (s + 25 + 2 * k) 5) (i_xor (i_shl 1 (mrd (mx a b) (s + 26 + 2 * k) p)) (-1))
        rw [ya _ _ (by omega), ya _ _ (by omega)]
        exact (za _ _ (by omega) (by omega)).trans tv.2.2.1
      · show _ = mrd (mx a b) (s + 25 + 2 * k) 6 - 1
        rw [ya _ _ (by omega)]
        exact (za _ _ (by omega) (by omega)).trans tv.2.2.2.1
      · intro q q0
        show _ = if p ≤ q ∧ q < mrd (mx a b) (s + 25 + 2 * k) 6 - 1 then mrd (mx a b) (s + 26 + 2 * k) (q + 1) else mrd (mx a b) (s + 26 + 2 * k) q
        rw [ya _ _ (by omega), ya _ _ (by omega), ya _ _ (by omega)]
        exact (za _ _ (by omega) (by omega)).trans (tv.2.2.2.2 q q0)
      · exact (zb _ _ (by omega) (by omega)).trans ((FM_fr k0 p0 q6.2.2 (by omega)).trans (yb _ _ (by omega) (by omega)).symm)
      · exact (zb _ _ (by omega) (by omega)).trans (mv.1.trans (yb _ _ (by omega) (by omega)).symm)
      · exact (zb _ _ (by omega) (by omega)).trans (mv.2.1.trans (yb _ _ (by omega) (by omega)).symm)
      · show _ = mrd (mx a b) 240 (76 + k) - 1
        rw [yb _ _ (by omega) (by omega)]
        exact (zb _ _ (by omega) (by omega)).trans mv.2.2.1
      · intro q q0 _
        show _ = if p ≤ q ∧ q < mrd (mx a b) 240 (76 + k) - 1 then mrd (mx a b) 240 (80 + 12 * k + (q + 1)) else mrd (mx a b) 240 (80 + 12 * k + q)
        rw [yb _ _ (by omega) (by omega), yb _ _ (by omega) (by omega), yb _ _ (by omega) (by omega)]
        exact (zb _ _ (by omega) (by omega)).trans (mv.2.2.2 q q0)
      · exact (zb _ _ (by omega) (by omega)).trans ((FM_fr k0 p0 q6.2.2 (by omega)).trans (yb _ _ (by omega) (by omega)).symm)
      · exact (za _ _ (by omega) (by omega)).trans ((FG_fr (by omega) (by omega)).trans (ya _ _ (by omega)).symm)
      · have fa : ∀ i, mrd (FG a s k p) L i = mrd a L i := fun i => FG_fr (by omega) (by omega)
        have fb : ∀ i, mrd (FM b k p) 235 i = mrd b 235 i := fun i => FM_fr k0 p0 q6.2.2 (by omega)
        obtain ⟨h1, h2, h3, h4, h5, h6, h7⟩ := lv
        unfold LV
        simp only [rd_wr, Int.reduceEq, and_false, and_true, true_and, false_and, if_true, if_false, fa, fb]
        exact ⟨h1, ⟨by omega, h2.2⟩, h3, by rw [h4], h5, h6, h7⟩
    · rw [rdn2 (by decide)]
      exact FM_fr k0 p0 q6.2.2 (by omega)
  · rw [if_neg (fun z => c z.2)] at hx
    refine ⟨_, b, 0, Or.inl rfl, ?_, ?_, lv_miss hB hS, rfl⟩
    · simp only [e24_0, e24_1, e24_2, e24_5, e24_8, e24_9, e24_10, e24_13, e24_13r, e24_14, e24_15, e24_15i, e24_16, e24_19, e24_20, e24_21, e24_24, e24_27, e24_28, e24_28i, e24_29, e24_32, e24_33, e24_34, e24_37, psh0, psh1, psh3, true_or, or_true, eq_self, Option.bind_some, List.length_nil, List.length_cons, Nat.reduceAdd, Nat.reduceLeDiff, Nat.zero_le, ↓reduceIte, Int.reduceLT, Int.reduceEq, Int.reduceLE, Int.reduceNeg, Int.reduceAdd, Int.reduceMul, Int.reduceSub, ne_eq, not_true_eq_false, not_false_eq_true, and_true, true_and, and_false, false_and, c3lt, c3gt, c3eq, Bool.false_eq_true, isK_wr, inA_wr, inR_wr, kL, hx, t3, w2]
    · simp only [e314_0, e314_1, e314_2, e314_3, e314_6, e314_9, e314_10, e314_11, e314_12, e314_13, e314_14, e314_17, e314_17r, e314_18, e314_19, e314_19i, e314_20, e314_23, e314_24, e314_25, e314_28, e314_29, psh0, psh1, psh3, true_or, or_true, eq_self, Option.bind_some, List.length_nil, List.length_cons, Nat.reduceAdd, Nat.reduceLeDiff, Nat.zero_le, ↓reduceIte, Int.reduceLT, Int.reduceEq, Int.reduceLE, Int.reduceNeg, Int.reduceAdd, Int.reduceMul, Int.reduceSub, ne_eq, not_true_eq_false, not_false_eq_true, and_true, true_and, and_false, false_and, c3lt, c3gt, c3eq, Bool.false_eq_true, isK_wr, inA_wr, inR_wr, hm.1, ge, c]
end

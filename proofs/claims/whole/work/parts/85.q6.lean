section
variable {d : Nat} {h : AM} {s a b c k l p v w x y z : Int}
theorem kb_in (f : Int → Int) : ∀ n, in32 (kb f n)
  | 0 => z32
  | _ + 1 => in_or _ _
/-- the ready set of child k -/
def RD (h : AM) (k : Int) (mi : Bool) (N : Nat) : Int := sF (rdy (kb (fun p => mrd h 240 (80 + 12 * k + p)) (mrd h 240 (76 + k)).toNat) (mrd h 240 (68 + k)) (fun l => mrd h 240 (52 + l)) (fun l => mrd h 240 (28 + l)) mi) N
theorem RD_q {h : AM} {k : Int} {mi : Bool} {N : Nat} (v w : Int) : RD (mwr (mwr (mwr h 0 11 v) 235 1 0) 235 0 w) k mi N = RD h k mi N := by
  unfold RD
  simp only [rdq, ↓reduceIte, Int.reduceLT, Int.reduceEq, Int.reduceLE, Int.reduceNeg, Int.reduceAdd, Int.reduceMul, Int.reduceSub, ne_eq, not_true_eq_false, not_false_eq_true, and_true, true_and, and_false, false_and, c3lt, c3gt, c3eq, Bool.false_eq_true, isK_wr, inA_wr, inR_wr]
theorem m_readyOf_loop (hm : CM h) (k0 : 0 ≤ k) (k1 : k < 4) (mi : Bool) (x : Int) (N : Nat) (hN : mrd h 240 1 = N) (h12 : N ≤ 12) (n : Nat) : ∀ i : Nat, i + n = N → EV d 262 13 [(2, 235), (0, k), (0, if mi = true then 1 else 0), (0, rF (fun l => mi && decide (mrd h 240 (68 + k) < mrd h 240 (28 + l))) x i), (0, (i : Int))] [] h = some ((0, rF (fun l => mi && decide (mrd h 240 (68 + k) < mrd h 240 (28 + l))) x N), h) := by
  have i1 := inC hm (j := 1) (by decide) (by decide)
  induction n with
  | zero =>
    intro i hi
    have e : i = N := by omega
    subst e
    rw [e262_13]
    simp only [e262_0, e262_1, e262_2, e262_3, e262_6, e262_9, e262_10, e262_11, e262_15, e262_16, e262_19, e262_20, e262_21, e262_24, e262_25, e262_28, e262_29, e262_32, e262_34, e262_35, e262_36, e262_37, e262_38, e262_41, e262_43, e262_45, e262_46, e262_47, e262_50, e262_51, e262_52, e262_54, e262_55, e262_56, e262_57, e262_58, e262_59, e262_62, e262_65, e262_66, psh0, psh1, psh3, true_or, or_true, eq_self, Option.bind_some, List.length_nil, List.length_cons, Nat.reduceAdd, Nat.reduceLeDiff, Nat.zero_le, ↓reduceIte, Int.reduceLT, Int.reduceEq, Int.reduceLE, Int.reduceNeg, Int.reduceAdd, Int.reduceMul, Int.reduceSub, ne_eq, not_true_eq_false, not_false_eq_true, and_true, true_and, and_false, false_and, c3lt, c3gt, c3eq, Bool.false_eq_true, isK_wr, inA_wr, inR_wr, hm.1, mC hm, i1, hN, Int.lt_irrefl]
  | succ n ih =>
    intro i hi
    have c : (i : Int) < N := by omega
    have w1 : w32 ((i : Int) + 1) = ((i + 1 : Nat) : Int) := by rw [w32_id (by omega) (by omega)]; omega
    have w2 : w32 (28 + (i : Int)) = 28 + i := w32_id (by omega) (by omega)
    have w3 : w32 (68 + k) = 68 + k := w32_id (by omega) (by omega)
    have ih' := ih (i + 1) (by omega)
    rw [rF] at ih'
    rw [e262_13]
    cases mi with
    | false =>
      rw [if_neg (show ¬ (false && decide (mrd h 240 (68 + k) < mrd h 240 (28 + (i : Int)))) = true by simp)] at ih'
      simp only [e262_0, e262_1, e262_2, e262_3, e262_6, e262_9, e262_10, e262_11, e262_15, e262_16, e262_19, e262_20, e262_21, e262_24, e262_25, e262_28, e262_29, e262_32, e262_34, e262_35, e262_36, e262_37, e262_38, e262_41, e262_43, e262_45, e262_46, e262_47, e262_50, e262_51, e262_52, e262_54, e262_55, e262_56, e262_57, e262_58, e262_59, e262_62, e262_65, e262_66, psh0, psh1, psh3, true_or, or_true, eq_self, Option.bind_some, List.length_nil, List.length_cons, Nat.reduceAdd, Nat.reduceLeDiff, Nat.zero_le, ↓reduceIte, Int.reduceLT, Int.reduceEq, Int.reduceLE, Int.reduceNeg, Int.reduceAdd, Int.reduceMul, Int.reduceSub, ne_eq, not_true_eq_false, not_false_eq_true, and_true, true_and, and_false, false_and, c3lt, c3gt, c3eq, Bool.false_eq_true, isK_wr, inA_wr, inR_wr, hm.1, mC hm, i1, hN, c, w1, Bool.false_eq_true]
      exact ih'
    | true =>
      by_cases hb : mrd h 240 (68 + k) < mrd h 240 (28 + i)
      · rw [if_pos (show (true && decide (mrd h 240 (68 + k) < mrd h 240 (28 + (i : Int)))) = true by rw [decide_eq_true hb]; rfl)] at ih'
        simp only [e262_0, e262_1, e262_2, e262_3, e262_6, e262_9, e262_10, e262_11, e262_15, e262_16, e262_19, e262_20, e262_21, e262_24, e262_25, e262_28, e262_29, e262_32, e262_34, e262_35, e262_36, e262_37, e262_38, e262_41, e262_43, e262_45, e262_46, e262_47, e262_50, e262_51, e262_52, e262_54, e262_55, e262_56, e262_57, e262_58, e262_59, e262_62, e262_65, e262_66, psh0, psh1, psh3, true_or, or_true, eq_self, Option.bind_some, List.length_nil, List.length_cons, Nat.reduceAdd, Nat.reduceLeDiff, Nat.zero_le, ↓reduceIte, Int.reduceLT, Int.reduceEq, Int.reduceLE, Int.reduceNeg, Int.reduceAdd, Int.reduceMul, Int.reduceSub, ne_eq, not_true_eq_false, not_false_eq_true, and_true, true_and, and_false, false_and, c3lt, c3gt, c3eq, Bool.false_eq_true, isK_wr, inA_wr, inR_wr, hm.1, mC hm, i1, hN, c, w1, w2, w3, inC hm (j := 28 + (i : Int)) (by omega) (by omega), inC hm (j := 68 + k) (by omega) (by omega), hb]
        exact ih'
      · rw [if_neg (show ¬ (true && decide (mrd h 240 (68 + k) < mrd h 240 (28 + (i : Int)))) = true by rw [decide_eq_false hb]; decide)] at ih'
        simp only [e262_0, e262_1, e262_2, e262_3, e262_6, e262_9, e262_10, e262_11, e262_15, e262_16, e262_19, e262_20, e262_21, e262_24, e262_25, e262_28, e262_29, e262_32, e262_34, e262_35, e262_36, e262_37, e262_38, e262_41, e262_43, e262_45, e262_46, e262_47, e262_50, e262_51, e262_52, e262_54, e262_55, e262_56, e262_57, e262_58, e262_59, e262_62, e262_65, e262_66, psh0, psh1, psh3, true_or, or_true, eq_self, Option.bind_some, List.length_nil, List.length_cons, Nat.reduceAdd, Nat.reduceLeDiff, Nat.zero_le, ↓reduceIte, Int.reduceLT, Int.reduceEq, Int.reduceLE, Int.reduceNeg, Int.reduceAdd, Int.reduceMul, Int.reduceSub, ne_eq, not_true_eq_false, not_false_eq_true, and_true, true_and, and_false, false_and, c3lt, c3gt, c3eq, Bool.false_eq_true, isK_wr, inA_wr, inR_wr, hm.1, mC hm, i1, hN, c, w1, w2, w3, inC hm (j := 28 + (i : Int)) (by omega) (by omega), inC hm (j := 68 + k) (by omega) (by omega), hb]
        exact ih'
theorem rdy_eq (kn pu : Int) (nd co : Nat → Int) (mi : Bool) (N : Nat) (h12 : N ≤ 12) : rF (fun l => mi && decide (pu < co l)) (sF (fun l => decide (opn kn (nd l) l)) N) N = sF (rdy kn pu nd co mi) N := by
  refine bI_ext (rF_in _ (sF_in _ _) _) (sF_in _ _) (fun i hi => ?_)
  rw [rF_bit _ _ N i (by omega) hi, sF_bit _ N i (by omega), sF_bit _ N i (by omega)]
  unfold rdy
  cases decide (i < N) <;> cases mi <;> simp
theorem m_readyOf (hm : CM h) (k0 : 0 ≤ k) (k1 : k < 4) (mi : Bool) (b0 : 0 ≤ mrd h 240 (76 + k)) (b1 : mrd h 240 (76 + k) ≤ 12) (N : Nat) (hN : mrd h 240 1 = N) (h12 : N ≤ 12) : EV (d + 3) 262 0 [(2, 235), (0, k), (0, if mi = true then 1 else 0), (3, 0), (3, 0)] [] h = some ((0, RD h k mi N), h) := by
  simp only [e262_0, e262_1, e262_2, e262_3, e262_6, e262_9, e262_10, e262_11, e262_15, e262_16, e262_19, e262_20, e262_21, e262_24, e262_25, e262_28, e262_29, e262_32, e262_34, e262_35, e262_36, e262_37, e262_38, e262_41, e262_43, e262_45, e262_46, e262_47, e262_50, e262_51, e262_52, e262_54, e262_55, e262_56, e262_57, e262_58, e262_59, e262_62, e262_65, e262_66, psh0, psh1, psh3, true_or, or_true, eq_self, Option.bind_some, List.length_nil, List.length_cons, Nat.reduceAdd, Nat.reduceLeDiff, Nat.zero_le, ↓reduceIte, Int.reduceLT, Int.reduceEq, Int.reduceLE, Int.reduceNeg, Int.reduceAdd, Int.reduceMul, Int.reduceSub, ne_eq, not_true_eq_false, not_false_eq_true, and_true, true_and, and_false, false_and, c3lt, c3gt, c3eq, Bool.false_eq_true, isK_wr, inA_wr, inR_wr, hm.1, m_knownOf (d := d + 1) hm k0 k1 b0 b1, m_openSet (d := d) hm N hN h12]
  refine (m_readyOf_loop (d := d + 3) hm k0 k1 mi _ N hN h12 N 0 (by omega)).trans ?_
  rw [rdy_eq _ _ _ _ _ _ h12]; rfl
theorem rdy_congr {kn pu : Int} {nd co nd' co' : Nat → Int} {mi : Bool} (N : Nat) (h1 : ∀ i, i < N → nd i = nd' i) (h2 : ∀ i, i < N → co i = co' i) : sF (rdy kn pu nd co mi) N = sF (rdy kn pu nd' co' mi) N := sF_eq N (fun i hi => by unfold rdy; rw [h1 i hi, h2 i hi])
/-- both sides' ready sets -/
theorem rdy_both {mi : Bool} {N : Nat} (ds : DS h s) (hN : mrd h 240 1 = N) (c0 : 0 ≤ c) (c1 : c < mrd h 240 2) : sF (rdy (mrd h (s + 25 + 2 * c) 5) (mrd h (s + 25 + 2 * c) 3) (fun l => mrd h (s + 13 + l) 6) (fun l => mrd h (s + 13 + l) 4) mi) N = RD h c mi N := by
  unfold RD
  obtain ⟨d5, d6, d7, d8, dl, dc⟩ := ds
  obtain ⟨q1, q2, q3, q4, q5, q6, q7⟩ := dc c c0 c1
  rw [q7, q2.1]
  exact rdy_congr N (fun i hi => (dl i (by omega) (by omega)).2.2.2.2.2.1) (fun i hi => (dl i (by omega) (by omega)).2.2.2.1.1)
end
theorem op_ready : Op_ready Inv := by
  intro d h a0 a1 hI i0 i1
  obtain ⟨s, e8, hs, k0, kM, cs, ds⟩ := ctx hI
  have ds' := ds
  have ks := cs.1
  have r1 := cs.2.2.1
  have r2 := cs.2.2.2.1
  have r3 := cs.2.2.2.2.1
  have kl := cs.2.2.2.2.2.2.2.2.2.2.2.1
  have kc := cs.2.2.2.2.2.2.2.2.2.2.2.2
  obtain ⟨d5, d6, d7, d8, dl, dc⟩ := ds
  have hm : ∀ v, CM (mwr (mwr (mwr h 0 11 v) 235 1 0) 235 0 0) := fun v => CM_q (CM_of hI)
  have hx := x_hasChild_q (d := d + 59) (k := a0) ks d7.1
  have hl := fun v => m_isChildAt_q (d := d + 58) (k := a0) hI v
  by_cases hc : 0 ≤ a0 ∧ a0 < mrd h 240 2
  · simp only [hc, and_self, if_true] at hl hx
    obtain ⟨t1, t2, t3, t4, t5, t6⟩ := kc a0 hc.1 (by omega)
    obtain ⟨q1, q2, q3, q4, q5, q6, q7⟩ := dc a0 hc.1 hc.2
    by_cases cw : 0 ≤ a1 ∧ a1 ≤ 1
    · obtain ⟨N, hN⟩ : ∃ N : Nat, mrd h 240 1 = N := ⟨(mrd h 240 1).toNat, by omega⟩
      have gx : ∀ mi : Bool, EV (d + 59) 71 0 [(2, s), (2, s + 25 + 2 * a0), (0, if mi = true then 1 else 0), (3, 0), (3, 0)] [] h = _ := fun mi => x_readySet (d := d + 58) cs hc.1 (by omega) mi N (by rw [d6.1, hN]) (by omega)
      have gm : ∀ (v : Int) (mi : Bool), EV (d + 59) 262 0 [(2, 235), (0, a0), (0, if mi = true then 1 else 0), (3, 0), (3, 0)] [] (mwr (mwr (mwr h 0 11 v) 235 1 0) 235 0 0) = _ := fun v mi => m_readyOf (d := d + 56) (hm v) hc.1 (by omega) mi (by rw [rdq (by decide) (by decide)]; omega) (by rw [rdq (by decide) (by decide)]; omega) N (by rw [rdq (by decide) (by decide), hN]) (by omega)
      simp only [RD_q] at gm
      by_cases c0 : a1 = 0
      · subst c0
        have gx := gx false
        have gm := gm 0 false
        simp only [Bool.false_eq_true, if_false] at gx gm
        rw [rdy_both ds' hN hc.1 hc.2] at gx
        refine opq hI (RD h a0 false N) 0 ?_ ?_
        · simp only [e125_0, e125_1, e125_4, e125_5, e125_8, e125_11, e125_12, e125_13, e125_16, e125_17, e125_18, e125_21, e125_22, e125_23, e125_26, e125_27, e125_28, e125_31, e125_32, e125_33, e125_34, e125_37, e125_38, e125_41, e125_44, e125_45, e125_46, e125_47, e125_48, e125_51, e125_52, e125_55, e125_56, e125_59, e125_62, psh0, psh1, psh3, true_or, or_true, eq_self, Option.bind_some, List.length_nil, List.length_cons, Nat.reduceAdd, Nat.reduceLeDiff, Nat.zero_le, ↓reduceIte, Int.reduceLT, Int.reduceEq, Int.reduceLE, Int.reduceNeg, Int.reduceAdd, Int.reduceMul, Int.reduceSub, ne_eq, not_true_eq_false, not_false_eq_true, and_true, true_and, and_false, false_and, c3lt, c3gt, c3eq, Bool.false_eq_true, isK_wr, inA_wr, inR_wr, k0, e8, ks, hx, r2, t1, t2, gx, x_answer]
        · simp only [e264_0, e264_1, e264_2, e264_5, e264_6, e264_7, e264_10, e264_11, e264_12, e264_15, e264_18, e264_19, e264_20, e264_23, e264_24, e264_25, e264_26, e264_27, e264_28, e264_31, e264_34, e264_35, e264_36, e264_37, e264_38, e264_41, e264_42, e264_45, e264_46, e264_49, e264_52, e264_53, e264_54, e264_57, psh0, psh1, psh3, true_or, or_true, eq_self, Option.bind_some, List.length_nil, List.length_cons, Nat.reduceAdd, Nat.reduceLeDiff, Nat.zero_le, ↓reduceIte, Int.reduceLT, Int.reduceEq, Int.reduceLE, Int.reduceNeg, Int.reduceAdd, Int.reduceMul, Int.reduceSub, ne_eq, not_true_eq_false, not_false_eq_true, and_true, true_and, and_false, false_and, c3lt, c3gt, c3eq, Bool.false_eq_true, isK_wr, inA_wr, inR_wr, kM, hl, m_isIn, gm]
      · have c1 : a1 = 1 := by omega
        subst c1
        have gx := gx true
        have gm := gm 0 true
        simp only [if_true] at gx gm
        rw [rdy_both ds' hN hc.1 hc.2] at gx
        refine opq hI (RD h a0 true N) 0 ?_ ?_
        · simp only [e125_0, e125_1, e125_4, e125_5, e125_8, e125_11, e125_12, e125_13, e125_16, e125_17, e125_18, e125_21, e125_22, e125_23, e125_26, e125_27, e125_28, e125_31, e125_32, e125_33, e125_34, e125_37, e125_38, e125_41, e125_44, e125_45, e125_46, e125_47, e125_48, e125_51, e125_52, e125_55, e125_56, e125_59, e125_62, psh0, psh1, psh3, true_or, or_true, eq_self, Option.bind_some, List.length_nil, List.length_cons, Nat.reduceAdd, Nat.reduceLeDiff, Nat.zero_le, ↓reduceIte, Int.reduceLT, Int.reduceEq, Int.reduceLE, Int.reduceNeg, Int.reduceAdd, Int.reduceMul, Int.reduceSub, ne_eq, not_true_eq_false, not_false_eq_true, and_true, true_and, and_false, false_and, c3lt, c3gt, c3eq, Bool.false_eq_true, isK_wr, inA_wr, inR_wr, k0, e8, ks, hx, r2, t1, t2, gx, x_answer]
        · simp only [e264_0, e264_1, e264_2, e264_5, e264_6, e264_7, e264_10, e264_11, e264_12, e264_15, e264_18, e264_19, e264_20, e264_23, e264_24, e264_25, e264_26, e264_27, e264_28, e264_31, e264_34, e264_35, e264_36, e264_37, e264_38, e264_41, e264_42, e264_45, e264_46, e264_49, e264_52, e264_53, e264_54, e264_57, psh0, psh1, psh3, true_or, or_true, eq_self, Option.bind_some, List.length_nil, List.length_cons, Nat.reduceAdd, Nat.reduceLeDiff, Nat.zero_le, ↓reduceIte, Int.reduceLT, Int.reduceEq, Int.reduceLE, Int.reduceNeg, Int.reduceAdd, Int.reduceMul, Int.reduceSub, ne_eq, not_true_eq_false, not_false_eq_true, and_true, true_and, and_false, false_and, c3lt, c3gt, c3eq, Bool.false_eq_true, isK_wr, inA_wr, inR_wr, kM, hl, m_isIn, gm]
    · refine opq hI (-1) 5 ?_ ?_
      · by_cases cn : a1 < 0
        · simp only [e125_0, e125_1, e125_4, e125_5, e125_8, e125_11, e125_12, e125_13, e125_16, e125_17, e125_18, e125_21, e125_22, e125_23, e125_26, e125_27, e125_28, e125_31, e125_32, e125_33, e125_34, e125_37, e125_38, e125_41, e125_44, e125_45, e125_46, e125_47, e125_48, e125_51, e125_52, e125_55, e125_56, e125_59, e125_62, psh0, psh1, psh3, true_or, or_true, eq_self, Option.bind_some, List.length_nil, List.length_cons, Nat.reduceAdd, Nat.reduceLeDiff, Nat.zero_le, ↓reduceIte, Int.reduceLT, Int.reduceEq, Int.reduceLE, Int.reduceNeg, Int.reduceAdd, Int.reduceMul, Int.reduceSub, ne_eq, not_true_eq_false, not_false_eq_true, and_true, true_and, and_false, false_and, c3lt, c3gt, c3eq, Bool.false_eq_true, isK_wr, inA_wr, inR_wr, k0, e8, ks, x_refuse, hx, cn]
        · have cn2 : 1 < a1 := by omega
          simp only [e125_0, e125_1, e125_4, e125_5, e125_8, e125_11, e125_12, e125_13, e125_16, e125_17, e125_18, e125_21, e125_22, e125_23, e125_26, e125_27, e125_28, e125_31, e125_32, e125_33, e125_34, e125_37, e125_38, e125_41, e125_44, e125_45, e125_46, e125_47, e125_48, e125_51, e125_52, e125_55, e125_56, e125_59, e125_62, psh0, psh1, psh3, true_or, or_true, eq_self, Option.bind_some, List.length_nil, List.length_cons, Nat.reduceAdd, Nat.reduceLeDiff, Nat.zero_le, ↓reduceIte, Int.reduceLT, Int.reduceEq, Int.reduceLE, Int.reduceNeg, Int.reduceAdd, Int.reduceMul, Int.reduceSub, ne_eq, not_true_eq_false, not_false_eq_true, and_true, true_and, and_false, false_and, c3lt, c3gt, c3eq, Bool.false_eq_true, isK_wr, inA_wr, inR_wr, k0, e8, ks, x_refuse, hx, cn, cn2]
      · simp only [e264_0, e264_1, e264_2, e264_5, e264_6, e264_7, e264_10, e264_11, e264_12, e264_15, e264_18, e264_19, e264_20, e264_23, e264_24, e264_25, e264_26, e264_27, e264_28, e264_31, e264_34, e264_35, e264_36, e264_37, e264_38, e264_41, e264_42, e264_45, e264_46, e264_49, e264_52, e264_53, e264_54, e264_57, psh0, psh1, psh3, true_or, or_true, eq_self, Option.bind_some, List.length_nil, List.length_cons, Nat.reduceAdd, Nat.reduceLeDiff, Nat.zero_le, ↓reduceIte, Int.reduceLT, Int.reduceEq, Int.reduceLE, Int.reduceNeg, Int.reduceAdd, Int.reduceMul, Int.reduceSub, ne_eq, not_true_eq_false, not_false_eq_true, and_true, true_and, and_false, false_and, c3lt, c3gt, c3eq, Bool.false_eq_true, isK_wr, inA_wr, inR_wr, kM, hl, m_isIn, cw, m_refuse, wrwr]
  · simp only [hc, if_false] at hl hx
    refine opq hI (-1) 2 ?_ ?_
    · simp only [e125_0, e125_1, e125_4, e125_5, e125_8, e125_11, e125_12, e125_13, e125_16, e125_17, e125_18, e125_21, e125_22, e125_23, e125_26, e125_27, e125_28, e125_31, e125_32, e125_33, e125_34, e125_37, e125_38, e125_41, e125_44, e125_45, e125_46, e125_47, e125_48, e125_51, e125_52, e125_55, e125_56, e125_59, e125_62, psh0, psh1, psh3, true_or, or_true, eq_self, Option.bind_some, List.length_nil, List.length_cons, Nat.reduceAdd, Nat.reduceLeDiff, Nat.zero_le, ↓reduceIte, Int.reduceLT, Int.reduceEq, Int.reduceLE, Int.reduceNeg, Int.reduceAdd, Int.reduceMul, Int.reduceSub, ne_eq, not_true_eq_false, not_false_eq_true, and_true, true_and, and_false, false_and, c3lt, c3gt, c3eq, Bool.false_eq_true, isK_wr, inA_wr, inR_wr, k0, e8, ks, x_refuse, hx]
    · simp only [e264_0, e264_1, e264_2, e264_5, e264_6, e264_7, e264_10, e264_11, e264_12, e264_15, e264_18, e264_19, e264_20, e264_23, e264_24, e264_25, e264_26, e264_27, e264_28, e264_31, e264_34, e264_35, e264_36, e264_37, e264_38, e264_41, e264_42, e264_45, e264_46, e264_49, e264_52, e264_53, e264_54, e264_57, psh0, psh1, psh3, true_or, or_true, eq_self, Option.bind_some, List.length_nil, List.length_cons, Nat.reduceAdd, Nat.reduceLeDiff, Nat.zero_le, ↓reduceIte, Int.reduceLT, Int.reduceEq, Int.reduceLE, Int.reduceNeg, Int.reduceAdd, Int.reduceMul, Int.reduceSub, ne_eq, not_true_eq_false, not_false_eq_true, and_true, true_and, and_false, false_and, c3lt, c3gt, c3eq, Bool.false_eq_true, isK_wr, inA_wr, inR_wr, kM, hl, m_refuse, wrwr]

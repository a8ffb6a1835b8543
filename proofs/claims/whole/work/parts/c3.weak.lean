/-! weak, firm, vowels -/
/-- the name without place p can't be said -/
noncomputable def wkP (so : Int) (f : Nat → Int) (N : Nat) : Nat → Bool := fun p => decide (sdB so (kp (fun q => decide ((q : Int) = (p : Int))) f N) = 0)
noncomputable def wkF (so : Int) (f : Nat → Int) (N : Nat) : Int := if fI (wkP so f N) 0 N = N then -1 else ((fI (wkP so f N) 0 N : Nat) : Int)
theorem wkF_rng (so : Int) (f : Nat → Int) (N : Nat) : -1 ≤ wkF so f N ∧ (wkF so f N < 0 → wkF so f N = -1) := by
  unfold wkF
  split <;> omega
section
variable {d : Nat} {h h1 : AM} {s a b c k p v w x y z : Int}
theorem xs_weak_loop (hI : Inv h) (h6 : s = 162 ∨ s = 195) (ds : DS h s) (k0 : 0 ≤ k) (k1 : k < mrd h 240 2) (N : Nat) (hN : mrd h 240 (76 + k) = N) (n : Nat) : ∀ (i : Nat) (h1 : AM), i + n = N → SF h h1 → ∃ h', EV (d + 2) 75 13 [(2, s), (2, s + 25 + 2 * k), (0, (i : Int))] [] h1 = some ((0, if fI (wkP (mrd h 240 3) (fun p => LT h k p) N) i n = N then -1 else ((fI (wkP (mrd h 240 3) (fun p => LT h k p) N) i n : Nat) : Int)), h') ∧ VX h1 h' s := by
  have d7 := ds.2.2.1
  induction n with
  | zero =>
    intro i h1 hi hf
    have e : i = N := by omega
    subst e
    obtain ⟨q1, q2, q3, q4, q5, q6⟩ := (hf.cs hI h6).2.2.2.2.2.2.2.2.2.2.2.2 k k0 (by omega)
    have g1 := (spell_hl (hf.ds h6 ds) k0 (by rw [hf.c]; exact k1) i (by rw [hf.c]; exact hN)).1
    refine ⟨h1, ?_, VX.rf⟩
    rw [e75_13, fI, if_pos rfl]
    simp only [e75_0, e75_1, e75_2, e75_3, e75_6, e75_9, e75_10, e75_11, e75_12, e75_14, e75_15, e75_18, e75_21, e75_22, e75_23, e75_24, e75_27, e75_30, e75_31, e75_32, e75_35, e75_38, e75_39, psh0, psh1, psh3, true_or, or_true, eq_self, Option.bind_some, List.length_nil, List.length_cons, Nat.reduceAdd, Nat.reduceLeDiff, Nat.zero_le, ↓reduceIte, Int.reduceLT, Int.reduceEq, Int.reduceLE, Int.reduceNeg, Int.reduceAdd, Int.reduceMul, Int.reduceSub, ne_eq, not_true_eq_false, not_false_eq_true, and_true, true_and, and_false, false_and, c3lt, c3gt, c3eq, Bool.false_eq_true, isK_wr, inA_wr, inR_wr, q3, g1, Int.lt_irrefl]
  | succ n ih =>
    intro i h1 hi hf
    have cs := hf.cs hI h6
    obtain ⟨q1, q2, q3, q4, q5, q6⟩ := cs.2.2.2.2.2.2.2.2.2.2.2.2 k k0 (by omega)
    have g1 := (spell_hl (hf.ds h6 ds) k0 (by rw [hf.c]; exact k1) N (by rw [hf.c]; exact hN)).1
    have g2 := (spell_hl (hf.ds h6 ds) k0 (by rw [hf.c]; exact k1) N (by rw [hf.c]; exact hN)).2.1
    have ci : (i : Int) < N := by omega
    have w1 : w32 ((i : Int) + 1) = ((i + 1 : Nat) : Int) := by rw [w32_id (by omega) (by omega)]; omega
    obtain ⟨h2, e1, e2⟩ := xs_said (d := d) (w := (i : Int)) hI h6 ds k0 k1 N hN hf
    have h01 := sdB_01 (mrd h 240 3) (kp (fun p => decide ((p : Int) = (i : Int))) (fun p => LT h k p) N)
    rw [fI]
    by_cases hb : sdB (mrd h 240 3) (kp (fun p => decide ((p : Int) = (i : Int))) (fun p => LT h k p) N) = 0
    · rw [if_pos (show wkP (mrd h 240 3) (fun p => LT h k p) N i = true from decide_eq_true hb), if_neg (show ¬ i = N by omega)]
      rw [hb] at e1
      refine ⟨h2, ?_, e2.vx⟩
      rw [e75_13]
      simp only [e75_0, e75_1, e75_2, e75_3, e75_6, e75_9, e75_10, e75_11, e75_12, e75_14, e75_15, e75_18, e75_21, e75_22, e75_23, e75_24, e75_27, e75_30, e75_31, e75_32, e75_35, e75_38, e75_39, psh0, psh1, psh3, true_or, or_true, eq_self, Option.bind_some, List.length_nil, List.length_cons, Nat.reduceAdd, Nat.reduceLeDiff, Nat.zero_le, ↓reduceIte, Int.reduceLT, Int.reduceEq, Int.reduceLE, Int.reduceNeg, Int.reduceAdd, Int.reduceMul, Int.reduceSub, ne_eq, not_true_eq_false, not_false_eq_true, and_true, true_and, and_false, false_and, c3lt, c3gt, c3eq, Bool.false_eq_true, isK_wr, inA_wr, inR_wr, q3, g1, ci, cs.1, e1]
    · have hb1 : sdB (mrd h 240 3) (kp (fun p => decide ((p : Int) = (i : Int))) (fun p => LT h k p) N) = 1 := by omega
      rw [if_neg (show ¬ wkP (mrd h 240 3) (fun p => LT h k p) N i = true from by unfold wkP; simpa using hb)]
      rw [hb1] at e1
      obtain ⟨h3, e3, e4⟩ := ih (i + 1) h2 (by omega) (hf.spx h6 e2)
      refine ⟨h3, ?_, e2.vx.trans e4⟩
      rw [← e3, e75_13]
      simp only [e75_0, e75_1, e75_2, e75_3, e75_6, e75_9, e75_10, e75_11, e75_12, e75_14, e75_15, e75_18, e75_21, e75_22, e75_23, e75_24, e75_27, e75_30, e75_31, e75_32, e75_35, e75_38, e75_39, psh0, psh1, psh3, true_or, or_true, eq_self, Option.bind_some, List.length_nil, List.length_cons, Nat.reduceAdd, Nat.reduceLeDiff, Nat.zero_le, ↓reduceIte, Int.reduceLT, Int.reduceEq, Int.reduceLE, Int.reduceNeg, Int.reduceAdd, Int.reduceMul, Int.reduceSub, ne_eq, not_true_eq_false, not_false_eq_true, and_true, true_and, and_false, false_and, c3lt, c3gt, c3eq, Bool.false_eq_true, isK_wr, inA_wr, inR_wr, q3, g1, ci, cs.1, e1, w1]
theorem xs_weak (hI : Inv h) (h6 : s = 162 ∨ s = 195) (ds : DS h s) (k0 : 0 ≤ k) (k1 : k < mrd h 240 2) (N : Nat) (hN : mrd h 240 (76 + k) = N) (hf : SF h h1) : ∃ h', EV (d + 2) 75 0 [(2, s), (2, s + 25 + 2 * k), (3, 0)] [] h1 = some ((0, if sdB (mrd h 240 3) (kp (fun _ => false) (fun p => LT h k p) N) = 1 then wkF (mrd h 240 3) (fun p => LT h k p) N else -1), h') ∧ VX h1 h' s := by
  have cs := hf.cs hI h6
  obtain ⟨h2, e1, e2⟩ := xs_said (d := d) (w := -1) hI h6 ds k0 k1 N hN hf
  rw [kp_m1] at e1 e2
  have h01 := sdB_01 (mrd h 240 3) (kp (fun _ => false) (fun p => LT h k p) N)
  by_cases hb : sdB (mrd h 240 3) (kp (fun _ => false) (fun p => LT h k p) N) = 1
  · rw [hb] at e1
    obtain ⟨h3, e3, e4⟩ := xs_weak_loop (d := d) hI h6 ds k0 k1 N hN N 0 h2 (by omega) (hf.spx h6 e2)
    refine ⟨h3, ?_, e2.vx.trans e4⟩
    rw [if_pos hb]
    refine Eq.trans ?_ e3
    simp only [e75_0, e75_1, e75_2, e75_3, e75_6, e75_9, e75_10, e75_11, e75_12, e75_14, e75_15, e75_18, e75_21, e75_22, e75_23, e75_24, e75_27, e75_30, e75_31, e75_32, e75_35, e75_38, e75_39, psh0, psh1, psh3, true_or, or_true, eq_self, Option.bind_some, List.length_nil, List.length_cons, Nat.reduceAdd, Nat.reduceLeDiff, Nat.zero_le, ↓reduceIte, Int.reduceLT, Int.reduceEq, Int.reduceLE, Int.reduceNeg, Int.reduceAdd, Int.reduceMul, Int.reduceSub, ne_eq, not_true_eq_false, not_false_eq_true, and_true, true_and, and_false, false_and, c3lt, c3gt, c3eq, Bool.false_eq_true, isK_wr, inA_wr, inR_wr, cs.1, e1]
    rfl
  · have hb0 : sdB (mrd h 240 3) (kp (fun _ => false) (fun p => LT h k p) N) = 0 := by omega
    rw [hb0] at e1
    refine ⟨h2, ?_, e2.vx⟩
    rw [if_neg hb]
    simp only [e75_0, e75_1, e75_2, e75_3, e75_6, e75_9, e75_10, e75_11, e75_12, e75_14, e75_15, e75_18, e75_21, e75_22, e75_23, e75_24, e75_27, e75_30, e75_31, e75_32, e75_35, e75_38, e75_39, psh0, psh1, psh3, true_or, or_true, eq_self, Option.bind_some, List.length_nil, List.length_cons, Nat.reduceAdd, Nat.reduceLeDiff, Nat.zero_le, ↓reduceIte, Int.reduceLT, Int.reduceEq, Int.reduceLE, Int.reduceNeg, Int.reduceAdd, Int.reduceMul, Int.reduceSub, ne_eq, not_true_eq_false, not_false_eq_true, and_true, true_and, and_false, false_and, c3lt, c3gt, c3eq, Bool.false_eq_true, isK_wr, inA_wr, inR_wr, cs.1, e1]
theorem ms_weak_loop (hI : Inv h) (ds : DS h s) (k0 : 0 ≤ k) (k1 : k < mrd h 240 2) (N : Nat) (hN : mrd h 240 (76 + k) = N) (n : Nat) : ∀ (i : Nat) (h1 : AM), i + n = N → SF h h1 → ∃ h', EV (d + 4) 278 2 [(2, 235), (0, k), (0, (i : Int))] [] h1 = some ((0, if fI (wkP (mrd h 240 3) (fun p => LT h k p) N) i n = N then -1 else ((fI (wkP (mrd h 240 3) (fun p => LT h k p) N) i n : Nat) : Int)), h') ∧ VM h1 h' := by
  have d7 := ds.2.2.1
  have b12 := (MC_of ds k0 k1).2.1
  induction n with
  | zero =>
    intro i h1 hi hf
    have e : i = N := by omega
    subst e
    have cm := hf.cm hI
    have gl := m_lengthOf (d := d + 3) cm k0 (show k < 4 by omega)
    rw [hf.c, hN] at gl
    refine ⟨h1, ?_, VM.rf⟩
    rw [e278_2, fI, if_pos rfl]
    simp only [e278_0, e278_1, e278_3, e278_4, e278_5, e278_8, e278_11, e278_12, e278_13, e278_14, e278_15, e278_16, e278_19, e278_22, e278_23, e278_24, e278_27, e278_30, e278_31, psh0, psh1, psh3, true_or, or_true, eq_self, Option.bind_some, List.length_nil, List.length_cons, Nat.reduceAdd, Nat.reduceLeDiff, Nat.zero_le, ↓reduceIte, Int.reduceLT, Int.reduceEq, Int.reduceLE, Int.reduceNeg, Int.reduceAdd, Int.reduceMul, Int.reduceSub, ne_eq, not_true_eq_false, not_false_eq_true, and_true, true_and, and_false, false_and, c3lt, c3gt, c3eq, Bool.false_eq_true, isK_wr, inA_wr, inR_wr, cm.1, gl, Int.lt_irrefl]
  | succ n ih =>
    intro i h1 hi hf
    have cm := hf.cm hI
    have gl := m_lengthOf (d := d + 3) cm k0 (show k < 4 by omega)
    rw [hf.c, hN] at gl
    have ci : (i : Int) < N := by omega
    have w1 : w32 ((i : Int) + 1) = ((i + 1 : Nat) : Int) := by rw [w32_id (by omega) (by omega)]; omega
    obtain ⟨h2, e1, e2⟩ := ms_said (d := d) (x := i_shl 1 (i : Int)) hI ds k0 k1 N hN hf
    rw [kp_congr (ey := fun p => decide ((p : Int) = (i : Int))) N (fun j _ => bI_shl (by omega) (by omega) j) (fun _ _ => rfl)] at e1 e2
    have h01 := sdB_01 (mrd h 240 3) (kp (fun p => decide ((p : Int) = (i : Int))) (fun p => LT h k p) N)
    rw [fI]
    by_cases hb : sdB (mrd h 240 3) (kp (fun p => decide ((p : Int) = (i : Int))) (fun p => LT h k p) N) = 0
    · rw [if_pos (show wkP (mrd h 240 3) (fun p => LT h k p) N i = true from decide_eq_true hb), if_neg (show ¬ i = N by omega)]
      rw [hb] at e1
      refine ⟨h2, ?_, e2.vm⟩
      rw [e278_2]
      simp only [e278_0, e278_1, e278_3, e278_4, e278_5, e278_8, e278_11, e278_12, e278_13, e278_14, e278_15, e278_16, e278_19, e278_22, e278_23, e278_24, e278_27, e278_30, e278_31, psh0, psh1, psh3, true_or, or_true, eq_self, Option.bind_some, List.length_nil, List.length_cons, Nat.reduceAdd, Nat.reduceLeDiff, Nat.zero_le, ↓reduceIte, Int.reduceLT, Int.reduceEq, Int.reduceLE, Int.reduceNeg, Int.reduceAdd, Int.reduceMul, Int.reduceSub, ne_eq, not_true_eq_false, not_false_eq_true, and_true, true_and, and_false, false_and, c3lt, c3gt, c3eq, Bool.false_eq_true, isK_wr, inA_wr, inR_wr, cm.1, gl, ci, e1]
    · have hb1 : sdB (mrd h 240 3) (kp (fun p => decide ((p : Int) = (i : Int))) (fun p => LT h k p) N) = 1 := by omega
      rw [if_neg (show ¬ wkP (mrd h 240 3) (fun p => LT h k p) N i = true from by unfold wkP; simpa using hb)]
      rw [hb1] at e1
      obtain ⟨h3, e3, e4⟩ := ih (i + 1) h2 (by omega) (hf.spm e2)
      refine ⟨h3, ?_, e2.vm.trans e4⟩
      rw [← e3, e278_2]
      simp only [e278_0, e278_1, e278_3, e278_4, e278_5, e278_8, e278_11, e278_12, e278_13, e278_14, e278_15, e278_16, e278_19, e278_22, e278_23, e278_24, e278_27, e278_30, e278_31, psh0, psh1, psh3, true_or, or_true, eq_self, Option.bind_some, List.length_nil, List.length_cons, Nat.reduceAdd, Nat.reduceLeDiff, Nat.zero_le, ↓reduceIte, Int.reduceLT, Int.reduceEq, Int.reduceLE, Int.reduceNeg, Int.reduceAdd, Int.reduceMul, Int.reduceSub, ne_eq, not_true_eq_false, not_false_eq_true, and_true, true_and, and_false, false_and, c3lt, c3gt, c3eq, Bool.false_eq_true, isK_wr, inA_wr, inR_wr, cm.1, gl, ci, e1, w1]
theorem ms_weak (hI : Inv h) (ds : DS h s) (k0 : 0 ≤ k) (k1 : k < mrd h 240 2) (N : Nat) (hN : mrd h 240 (76 + k) = N) (hf : SF h h1) : ∃ h', EV (d + 4) 278 0 [(2, 235), (0, k), (3, 0)] [] h1 = some ((0, wkF (mrd h 240 3) (fun p => LT h k p) N), h') ∧ VM h1 h' := by
  obtain ⟨h3, e3, e4⟩ := ms_weak_loop (d := d) hI ds k0 k1 N hN N 0 h1 (by omega) hf
  refine ⟨h3, Eq.trans ?_ e3, e4⟩
  simp only [e278_0, e278_1, e278_3, e278_4, e278_5, e278_8, e278_11, e278_12, e278_13, e278_14, e278_15, e278_16, e278_19, e278_22, e278_23, e278_24, e278_27, e278_30, e278_31, psh0, psh1, psh3, true_or, or_true, eq_self, Option.bind_some, List.length_nil, List.length_cons, Nat.reduceAdd, Nat.reduceLeDiff, Nat.zero_le, ↓reduceIte, Int.reduceLT, Int.reduceEq, Int.reduceLE, Int.reduceNeg, Int.reduceAdd, Int.reduceMul, Int.reduceSub, ne_eq, not_true_eq_false, not_false_eq_true, and_true, true_and, and_false, false_and, c3lt, c3gt, c3eq, Bool.false_eq_true, isK_wr, inA_wr, inR_wr]
  rfl
end
theorem op_weak : Op_weak Inv := by
  intro d h a0 hI i0
  obtain ⟨s, e8, hs, k0, kM, cs, ds⟩ := ctx hI
  have ds' := ds
  have ks := cs.1
  have r1 := cs.2.2.1
  have r2 := cs.2.2.2.1
  have r3 := cs.2.2.2.2.1
  have kl := cs.2.2.2.2.2.2.2.2.2.2.2.1
  have kc := cs.2.2.2.2.2.2.2.2.2.2.2.2
  obtain ⟨d5, d6, d7, d8, dl, dc⟩ := ds
  have hm : ∀ v, CM (mwr (mwr (mwr h 0 11 v) 235 1 0) 235 0 0) := fun v => CM_q (CM_of hI)
  have hx := x_hasChild_q (d := d + 59) (k := a0) ks d7.1
  by_cases hc : 0 ≤ a0 ∧ a0 < mrd h 240 2
  · simp only [hc, and_self, if_true] at hx
    obtain ⟨t1, t2, t3, t4, t5, t6⟩ := kc a0 hc.1 (by omega)
    obtain ⟨q1, q2, q3, q4, q5, q6, q7⟩ := dc a0 hc.1 hc.2
    obtain ⟨N, hN⟩ : ∃ N : Nat, mrd h 240 (76 + a0) = N := ⟨(mrd h 240 (76 + a0)).toNat, by omega⟩
    have h01 := sdB_01 (mrd h 240 3) (kp (fun _ => false) (fun p => LT h a0 p) N)
    have hr := wkF_rng (mrd h 240 3) (fun p => LT h a0 p) N
    obtain ⟨R, hR⟩ : ∃ R, R = (if sdB (mrd h 240 3) (kp (fun _ => false) (fun p => LT h a0 p) N) = 1 then wkF (mrd h 240 3) (fun p => LT h a0 p) N else -1) := ⟨_, rfl⟩
    have hR1 : R < 0 → R = -1 := by rw [hR]; split <;> omega
    refine opSF hI R (if R = -1 then 8 else 0) ?_ ?_
    · obtain ⟨h', e1, e2⟩ := xs_weak (d := d + 57) hI hs ds' hc.1 hc.2 N hN (SF.rf hI)
      rw [← hR] at e1
      have hf := (SF.rf hI).vx hs e2
      have kk := hf.k0
      refine ⟨mwr h' 0 11 _, ?_, hf.wr Scr_st (by omega), rde⟩
      simp only [e133_0, e133_1, e133_4, e133_5, e133_8, e133_11, e133_12, e133_13, e133_16, e133_17, e133_18, e133_19, e133_22, e133_23, e133_26, e133_29, e133_30, e133_31, e133_34, e133_37, psh0, psh1, psh3, true_or, or_true, eq_self, Option.bind_some, List.length_nil, List.length_cons, Nat.reduceAdd, Nat.reduceLeDiff, Nat.zero_le, ↓reduceIte, Int.reduceLT, Int.reduceEq, Int.reduceLE, Int.reduceNeg, Int.reduceAdd, Int.reduceMul, Int.reduceSub, ne_eq, not_true_eq_false, not_false_eq_true, and_true, true_and, and_false, false_and, c3lt, c3gt, c3eq, Bool.false_eq_true, isK_wr, inA_wr, inR_wr, k0, e8, ks, r2, hx, t1, t2, e1, kk, x_answerIfThere]
    · intro h1 hf1
      have cm1 := hf1.cm hI
      have hfq : SF h (mwr (mwr h1 235 1 0) 235 0 0) := hf1.q
      have hl := m_isChildAt_s (d := d + 58) (k := a0) hI hfq
      rw [if_pos hc] at hl
      obtain ⟨h2, e1, e2⟩ := ms_said (d := d + 56) (x := 0) hI ds' hc.1 hc.2 N hN hfq
      rw [kp_0] at e1 e2
      have hf2 := hfq.spm e2
      have cm2 := hf2.cm hI
      have z0 : mrd h2 235 0 = 0 := by rw [e2.2.1 _ _ (by decide) (by omega)]; exact q00.1
      have z11 : mrd h2 0 11 = mrd h1 0 11 := by rw [e2.2.1 _ _ (by decide) (by omega)]; exact q00.2
      rcases h01 with hb | hb
      · rw [hb] at e1
        rw [hb, if_neg (by decide)] at hR
        refine ⟨mwr h2 235 0 8, ?_, hf2.wr Scr_m0 (by omega), by rw [rde, if_pos hR], by rw [rdn1 (by decide)]; exact z11⟩
        rw [hR]
        simp only [e280_0, e280_1, e280_2, e280_5, e280_6, e280_7, e280_10, e280_11, e280_12, e280_15, e280_18, e280_19, e280_20, e280_23, e280_24, e280_25, e280_26, e280_27, e280_30, e280_33, e280_34, e280_35, e280_38, e280_41, e280_42, e280_43, e280_44, e280_47, e280_48, e280_50, e280_53, e280_56, e280_57, psh0, psh1, psh3, true_or, or_true, eq_self, Option.bind_some, List.length_nil, List.length_cons, Nat.reduceAdd, Nat.reduceLeDiff, Nat.zero_le, ↓reduceIte, Int.reduceLT, Int.reduceEq, Int.reduceLE, Int.reduceNeg, Int.reduceAdd, Int.reduceMul, Int.reduceSub, ne_eq, not_true_eq_false, not_false_eq_true, and_true, true_and, and_false, false_and, c3lt, c3gt, c3eq, Bool.false_eq_true, isK_wr, inA_wr, inR_wr, cm1.1, hl, e1, cm2.1, m_refuse]
      · rw [hb] at e1
        rw [hb, if_pos rfl] at hR
        obtain ⟨h3, e3, e4⟩ := ms_weak (d := d + 55) hI ds' hc.1 hc.2 N hN hf2
        rw [← hR] at e3
        have hf3 := hf2.vm e4
        have cm3 := hf3.cm hI
        have y0 : mrd h3 235 0 = 0 := by rw [e4.2 _ _ (by decide) (by omega)]; exact z0
        have y11 : mrd h3 0 11 = mrd h1 0 11 := by rw [e4.2 _ _ (by decide) (by omega)]; exact z11
        by_cases cr : R < 0
        · have er := hR1 cr
          refine ⟨mwr h3 235 0 8, ?_, hf3.wr Scr_m0 (by omega), by rw [rde, if_pos er], by rw [rdn1 (by decide)]; exact y11⟩
          simp only [e280_0, e280_1, e280_2, e280_5, e280_6, e280_7, e280_10, e280_11, e280_12, e280_15, e280_18, e280_19, e280_20, e280_23, e280_24, e280_25, e280_26, e280_27, e280_30, e280_33, e280_34, e280_35, e280_38, e280_41, e280_42, e280_43, e280_44, e280_47, e280_48, e280_50, e280_53, e280_56, e280_57, psh0, psh1, psh3, true_or, or_true, eq_self, Option.bind_some, List.length_nil, List.length_cons, Nat.reduceAdd, Nat.reduceLeDiff, Nat.zero_le, ↓reduceIte, Int.reduceLT, Int.reduceEq, Int.reduceLE, Int.reduceNeg, Int.reduceAdd, Int.reduceMul, Int.reduceSub, ne_eq, not_true_eq_false, not_false_eq_true, and_true, true_and, and_false, false_and, c3lt, c3gt, c3eq, Bool.false_eq_true, isK_wr, inA_wr, inR_wr, cm1.1, hl, e1, cm2.1, e3, cm3.1, cr, m_refuse, er]
        · refine ⟨h3, ?_, hf3, by rw [if_neg (by omega)]; exact y0, y11⟩
          simp only [e280_0, e280_1, e280_2, e280_5, e280_6, e280_7, e280_10, e280_11, e280_12, e280_15, e280_18, e280_19, e280_20, e280_23, e280_24, e280_25, e280_26, e280_27, e280_30, e280_33, e280_34, e280_35, e280_38, e280_41, e280_42, e280_43, e280_44, e280_47, e280_48, e280_50, e280_53, e280_56, e280_57, psh0, psh1, psh3, true_or, or_true, eq_self, Option.bind_some, List.length_nil, List.length_cons, Nat.reduceAdd, Nat.reduceLeDiff, Nat.zero_le, ↓reduceIte, Int.reduceLT, Int.reduceEq, Int.reduceLE, Int.reduceNeg, Int.reduceAdd, Int.reduceMul, Int.reduceSub, ne_eq, not_true_eq_false, not_false_eq_true, and_true, true_and, and_false, false_and, c3lt, c3gt, c3eq, Bool.false_eq_true, isK_wr, inA_wr, inR_wr, cm1.1, hl, e1, cm2.1, e3, cr]
  · have hl := fun v => m_isChildAt_q (d := d + 58) (k := a0) hI v
    simp only [hc, if_false] at hl hx
    refine opq hI (-1) 2 ?_ ?_
    · simp only [e133_0, e133_1, e133_4, e133_5, e133_8, e133_11, e133_12, e133_13, e133_16, e133_17, e133_18, e133_19, e133_22, e133_23, e133_26, e133_29, e133_30, e133_31, e133_34, e133_37, psh0, psh1, psh3, true_or, or_true, eq_self, Option.bind_some, List.length_nil, List.length_cons, Nat.reduceAdd, Nat.reduceLeDiff, Nat.zero_le, ↓reduceIte, Int.reduceLT, Int.reduceEq, Int.reduceLE, Int.reduceNeg, Int.reduceAdd, Int.reduceMul, Int.reduceSub, ne_eq, not_true_eq_false, not_false_eq_true, and_true, true_and, and_false, false_and, c3lt, c3gt, c3eq, Bool.false_eq_true, isK_wr, inA_wr, inR_wr, k0, e8, ks, x_refuse, hx]
    · simp only [e280_0, e280_1, e280_2, e280_5, e280_6, e280_7, e280_10, e280_11, e280_12, e280_15, e280_18, e280_19, e280_20, e280_23, e280_24, e280_25, e280_26, e280_27, e280_30, e280_33, e280_34, e280_35, e280_38, e280_41, e280_42, e280_43, e280_44, e280_47, e280_48, e280_50, e280_53, e280_56, e280_57, psh0, psh1, psh3, true_or, or_true, eq_self, Option.bind_some, List.length_nil, List.length_cons, Nat.reduceAdd, Nat.reduceLeDiff, Nat.zero_le, ↓reduceIte, Int.reduceLT, Int.reduceEq, Int.reduceLE, Int.reduceNeg, Int.reduceAdd, Int.reduceMul, Int.reduceSub, ne_eq, not_true_eq_false, not_false_eq_true, and_true, true_and, and_false, false_and, c3lt, c3gt, c3eq, Bool.false_eq_true, isK_wr, inA_wr, inR_wr, kM, hl, m_refuse, wrwr]
theorem op_firm : Op_firm Inv := by
  intro d h a0 hI i0
  obtain ⟨s, e8, hs, k0, kM, cs, ds⟩ := ctx hI
  have ds' := ds
  have ks := cs.1
  have r1 := cs.2.2.1
  have r2 := cs.2.2.2.1
  have r3 := cs.2.2.2.2.1
  have kl := cs.2.2.2.2.2.2.2.2.2.2.2.1
  have kc := cs.2.2.2.2.2.2.2.2.2.2.2.2
  obtain ⟨d5, d6, d7, d8, dl, dc⟩ := ds
  have hm : ∀ v, CM (mwr (mwr (mwr h 0 11 v) 235 1 0) 235 0 0) := fun v => CM_q (CM_of hI)
  have hx := x_hasChild_q (d := d + 59) (k := a0) ks d7.1
  by_cases hc : 0 ≤ a0 ∧ a0 < mrd h 240 2
  · simp only [hc, and_self, if_true] at hx
    obtain ⟨t1, t2, t3, t4, t5, t6⟩ := kc a0 hc.1 (by omega)
    obtain ⟨q1, q2, q3, q4, q5, q6, q7⟩ := dc a0 hc.1 hc.2
    obtain ⟨N, hN⟩ : ∃ N : Nat, mrd h 240 (76 + a0) = N := ⟨(mrd h 240 (76 + a0)).toNat, by omega⟩
    have h01 := sdB_01 (mrd h 240 3) (kp (fun _ => false) (fun p => LT h a0 p) N)
    have hr := wkF_rng (mrd h 240 3) (fun p => LT h a0 p) N
    refine opSF hI (if sdB (mrd h 240 3) (kp (fun _ => false) (fun p => LT h a0 p) N) = 1 ∧ wkF (mrd h 240 3) (fun p => LT h a0 p) N = -1 then 1 else 0) 0 ?_ ?_
    · obtain ⟨h', e1, e2⟩ := xs_said (d := d + 58) (w := -1) hI hs ds' hc.1 hc.2 N hN (SF.rf hI)
      rw [kp_m1] at e1 e2
      have hf := (SF.rf hI).spx hs e2
      have kk := hf.k0
      have ee8 : mrd h' 0 8 = s := hf.e8.trans e8
      have ks' := (hf.cs hI hs).1
      rcases h01 with hb | hb
      · rw [hb] at e1
        refine ⟨mwr h' 0 11 0, ?_, hf.wr Scr_st (by omega), rde⟩
        rw [if_neg (fun z => by rw [hb] at z; exact absurd z.1 (by decide))]
        simp only [e132_0, e132_1, e132_4, e132_5, e132_8, e132_11, e132_12, e132_13, e132_16, e132_17, e132_18, e132_21, e132_24, e132_25, e132_26, e132_27, e132_28, e132_29, e132_32, e132_33, e132_34, e132_37, e132_40, e132_41, e132_44, e132_45, e132_48, e132_49, e132_52, e132_53, e132_56, e132_57, e132_60, psh0, psh1, psh3, true_or, or_true, eq_self, Option.bind_some, List.length_nil, List.length_cons, Nat.reduceAdd, Nat.reduceLeDiff, Nat.zero_le, ↓reduceIte, Int.reduceLT, Int.reduceEq, Int.reduceLE, Int.reduceNeg, Int.reduceAdd, Int.reduceMul, Int.reduceSub, ne_eq, not_true_eq_false, not_false_eq_true, and_true, true_and, and_false, false_and, c3lt, c3gt, c3eq, Bool.false_eq_true, isK_wr, inA_wr, inR_wr, k0, e8, ks, r2, hx, t1, t2, e1, kk, x_answer]
      · rw [hb] at e1
        obtain ⟨h3, e3, e4⟩ := xs_weak (d := d + 57) hI hs ds' hc.1 hc.2 N hN hf
        rw [if_pos hb] at e3
        have hf3 := hf.vx hs e4
        have kk3 := hf3.k0
        refine ⟨mwr h3 0 11 0, ?_, hf3.wr Scr_st (by omega), rde⟩
        by_cases cr : wkF (mrd h 240 3) (fun p => LT h a0 p) N = -1
        · rw [if_pos ⟨hb, cr⟩]
          rw [cr] at e3
          simp only [e132_0, e132_1, e132_4, e132_5, e132_8, e132_11, e132_12, e132_13, e132_16, e132_17, e132_18, e132_21, e132_24, e132_25, e132_26, e132_27, e132_28, e132_29, e132_32, e132_33, e132_34, e132_37, e132_40, e132_41, e132_44, e132_45, e132_48, e132_49, e132_52, e132_53, e132_56, e132_57, e132_60, psh0, psh1, psh3, true_or, or_true, eq_self, Option.bind_some, List.length_nil, List.length_cons, Nat.reduceAdd, Nat.reduceLeDiff, Nat.zero_le, ↓reduceIte, Int.reduceLT, Int.reduceEq, Int.reduceLE, Int.reduceNeg, Int.reduceAdd, Int.reduceMul, Int.reduceSub, ne_eq, not_true_eq_false, not_false_eq_true, and_true, true_and, and_false, false_and, c3lt, c3gt, c3eq, Bool.false_eq_true, isK_wr, inA_wr, inR_wr, k0, e8, ks, r2, hx, t1, t2, e1, kk, ee8, ks', e3, kk3, x_answer]
        · rw [if_neg (fun z => cr z.2)]
          simp only [e132_0, e132_1, e132_4, e132_5, e132_8, e132_11, e132_12, e132_13, e132_16, e132_17, e132_18, e132_21, e132_24, e132_25, e132_26, e132_27, e132_28, e132_29, e132_32, e132_33, e132_34, e132_37, e132_40, e132_41, e132_44, e132_45, e132_48, e132_49, e132_52, e132_53, e132_56, e132_57, e132_60, psh0, psh1, psh3, true_or, or_true, eq_self, Option.bind_some, List.length_nil, List.length_cons, Nat.reduceAdd, Nat.reduceLeDiff, Nat.zero_le, ↓reduceIte, Int.reduceLT, Int.reduceEq, Int.reduceLE, Int.reduceNeg, Int.reduceAdd, Int.reduceMul, Int.reduceSub, ne_eq, not_true_eq_false, not_false_eq_true, and_true, true_and, and_false, false_and, c3lt, c3gt, c3eq, Bool.false_eq_true, isK_wr, inA_wr, inR_wr, k0, e8, ks, r2, hx, t1, t2, e1, kk, ee8, ks', e3, kk3, cr, x_answer]
    · intro h1 hf1
      have cm1 := hf1.cm hI
      have hfq : SF h (mwr (mwr h1 235 1 0) 235 0 0) := hf1.q
      have hl := m_isChildAt_s (d := d + 58) (k := a0) hI hfq
      rw [if_pos hc] at hl
      obtain ⟨h2, e1, e2⟩ := ms_said (d := d + 56) (x := 0) hI ds' hc.1 hc.2 N hN hfq
      rw [kp_0] at e1 e2
      have hf2 := hfq.spm e2
      have cm2 := hf2.cm hI
      have z0 : mrd h2 235 0 = 0 := by rw [e2.2.1 _ _ (by decide) (by omega)]; exact q00.1
      have z11 : mrd h2 0 11 = mrd h1 0 11 := by rw [e2.2.1 _ _ (by decide) (by omega)]; exact q00.2
      rcases h01 with hb | hb
      · rw [hb] at e1
        refine ⟨h2, ?_, hf2, z0, z11⟩
        rw [if_neg (fun z => by rw [hb] at z; exact absurd z.1 (by decide))]
        simp only [e279_0, e279_1, e279_2, e279_5, e279_6, e279_7, e279_10, e279_11, e279_12, e279_15, e279_18, e279_19, e279_20, e279_23, e279_24, e279_25, e279_26, e279_27, e279_30, e279_33, e279_34, e279_35, e279_38, e279_41, e279_42, e279_45, e279_46, psh0, psh1, psh3, true_or, or_true, eq_self, Option.bind_some, List.length_nil, List.length_cons, Nat.reduceAdd, Nat.reduceLeDiff, Nat.zero_le, ↓reduceIte, Int.reduceLT, Int.reduceEq, Int.reduceLE, Int.reduceNeg, Int.reduceAdd, Int.reduceMul, Int.reduceSub, ne_eq, not_true_eq_false, not_false_eq_true, and_true, true_and, and_false, false_and, c3lt, c3gt, c3eq, Bool.false_eq_true, isK_wr, inA_wr, inR_wr, cm1.1, hl, e1]
      · rw [hb] at e1
        obtain ⟨h3, e3, e4⟩ := ms_weak (d := d + 55) hI ds' hc.1 hc.2 N hN hf2
        have hf3 := hf2.vm e4
        have y0 : mrd h3 235 0 = 0 := by rw [e4.2 _ _ (by decide) (by omega)]; exact z0
        have y11 : mrd h3 0 11 = mrd h1 0 11 := by rw [e4.2 _ _ (by decide) (by omega)]; exact z11
        refine ⟨h3, ?_, hf3, y0, y11⟩
        by_cases cr : wkF (mrd h 240 3) (fun p => LT h a0 p) N = -1
        · rw [if_pos ⟨hb, cr⟩]
          rw [cr] at e3
          simp only [e279_0, e279_1, e279_2, e279_5, e279_6, e279_7, e279_10, e279_11, e279_12, e279_15, e279_18, e279_19, e279_20, e279_23, e279_24, e279_25, e279_26, e279_27, e279_30, e279_33, e279_34, e279_35, e279_38, e279_41, e279_42, e279_45, e279_46, psh0, psh1, psh3, true_or, or_true, eq_self, Option.bind_some, List.length_nil, List.length_cons, Nat.reduceAdd, Nat.reduceLeDiff, Nat.zero_le, ↓reduceIte, Int.reduceLT, Int.reduceEq, Int.reduceLE, Int.reduceNeg, Int.reduceAdd, Int.reduceMul, Int.reduceSub, ne_eq, not_true_eq_false, not_false_eq_true, and_true, true_and, and_false, false_and, c3lt, c3gt, c3eq, Bool.false_eq_true, isK_wr, inA_wr, inR_wr, cm1.1, hl, e1, cm2.1, e3]
        · have cr2 : ¬ wkF (mrd h 240 3) (fun p => LT h a0 p) N < 0 := fun z => cr (hr.2 z)
          rw [if_neg (fun z => cr z.2)]
          simp only [e279_0, e279_1, e279_2, e279_5, e279_6, e279_7, e279_10, e279_11, e279_12, e279_15, e279_18, e279_19, e279_20, e279_23, e279_24, e279_25, e279_26, e279_27, e279_30, e279_33, e279_34, e279_35, e279_38, e279_41, e279_42, e279_45, e279_46, psh0, psh1, psh3, true_or, or_true, eq_self, Option.bind_some, List.length_nil, List.length_cons, Nat.reduceAdd, Nat.reduceLeDiff, Nat.zero_le, ↓reduceIte, Int.reduceLT, Int.reduceEq, Int.reduceLE, Int.reduceNeg, Int.reduceAdd, Int.reduceMul, Int.reduceSub, ne_eq, not_true_eq_false, not_false_eq_true, and_true, true_and, and_false, false_and, c3lt, c3gt, c3eq, Bool.false_eq_true, isK_wr, inA_wr, inR_wr, cm1.1, hl, e1, cm2.1, e3, cr2]
  · have hl := fun v => m_isChildAt_q (d := d + 58) (k := a0) hI v
    simp only [hc, if_false] at hl hx
    refine opq hI (-1) 2 ?_ ?_
    · simp only [e132_0, e132_1, e132_4, e132_5, e132_8, e132_11, e132_12, e132_13, e132_16, e132_17, e132_18, e132_21, e132_24, e132_25, e132_26, e132_27, e132_28, e132_29, e132_32, e132_33, e132_34, e132_37, e132_40, e132_41, e132_44, e132_45, e132_48, e132_49, e132_52, e132_53, e132_56, e132_57, e132_60, psh0, psh1, psh3, true_or, or_true, eq_self, Option.bind_some, List.length_nil, List.length_cons, Nat.reduceAdd, Nat.reduceLeDiff, Nat.zero_le, ↓reduceIte, Int.reduceLT, Int.reduceEq, Int.reduceLE, Int.reduceNeg, Int.reduceAdd, Int.reduceMul, Int.reduceSub, ne_eq, not_true_eq_false, not_false_eq_true, and_true, true_and, and_false, false_and, c3lt, c3gt, c3eq, Bool.false_eq_true, isK_wr, inA_wr, inR_wr, k0, e8, ks, x_refuse, hx]
    · simp only [e279_0, e279_1, e279_2, e279_5, e279_6, e279_7, e279_10, e279_11, e279_12, e279_15, e279_18, e279_19, e279_20, e279_23, e279_24, e279_25, e279_26, e279_27, e279_30, e279_33, e279_34, e279_35, e279_38, e279_41, e279_42, e279_45, e279_46, psh0, psh1, psh3, true_or, or_true, eq_self, Option.bind_some, List.length_nil, List.length_cons, Nat.reduceAdd, Nat.reduceLeDiff, Nat.zero_le, ↓reduceIte, Int.reduceLT, Int.reduceEq, Int.reduceLE, Int.reduceNeg, Int.reduceAdd, Int.reduceMul, Int.reduceSub, ne_eq, not_true_eq_false, not_false_eq_true, and_true, true_and, and_false, false_and, c3lt, c3gt, c3eq, Bool.false_eq_true, isK_wr, inA_wr, inR_wr, kM, hl, m_refuse, wrwr]
section
variable {d : Nat} {h h1 : AM} {s a b c k p v w x y z : Int}
theorem x_vow_loop (kx : isK h 0 10) (k7 : isK h (s + 4) 9) (r4 : mrd h (s + 4) 0 = s + 5) (k8 : isK h (s + 5) 18) (k9 : mln h (s + 5) = 12) (N : Nat) (hN : mrd h (s + 4) 1 = N) (N12 : N ≤ 12) (f : Nat → Int) (hv : ∀ p : Nat, p < N → mrd h (s + 5) p = vow (f p)) (n : Nat) : ∀ i : Nat, i + n = N → EV (d + 1) 134 48 [(2, 0), (0, x), (2, s + 4), (0, cP (fun p => decide (vow (f p) = 1)) i), (0, (i : Int))] [] h = some ((0, cP (fun p => decide (vow (f p) = 1)) N), mwr h 0 11 0) := by
  induction n with
  | zero =>
    intro i hi
    have e : i = N := by omega
    subst e
    rw [e134_48]
    simp only [e134_0, e134_1, e134_4, e134_5, e134_8, e134_11, e134_12, e134_13, e134_16, e134_17, e134_18, e134_21, e134_24, e134_25, e134_26, e134_27, e134_30, e134_31, e134_34, e134_37, e134_38, e134_39, e134_40, e134_43, e134_44, e134_45, e134_46, e134_50, e134_51, e134_54, e134_57, e134_58, e134_61, e134_63, e134_63z, e134_64, e134_67, e134_70, e134_73, e134_76, e134_77, e134_78, e134_81, psh0, psh1, psh3, true_or, or_true, eq_self, Option.bind_some, List.length_nil, List.length_cons, Nat.reduceAdd, Nat.reduceLeDiff, Nat.zero_le, ↓reduceIte, Int.reduceLT, Int.reduceEq, Int.reduceLE, Int.reduceNeg, Int.reduceAdd, Int.reduceMul, Int.reduceSub, ne_eq, not_true_eq_false, not_false_eq_true, and_true, true_and, and_false, false_and, c3lt, c3gt, c3eq, Bool.false_eq_true, isK_wr, inA_wr, inR_wr, kx, k7, hN, Int.lt_irrefl, x_answer]
  | succ n ih =>
    intro i hi
    have ci : (i : Int) < N := by omega
    have w1 : w32 ((i : Int) + 1) = ((i + 1 : Nat) : Int) := by rw [w32_id (by omega) (by omega)]; omega
    have i1 : inA h (s + 5) 18 i := ⟨k8, by omega, by rw [k9]; omega⟩
    have e := hv i (by omega)
    have g3 := cP_rng (fun p => decide (vow (f p) = 1)) i
    have w2 : w32 (cP (fun p => decide (vow (f p) = 1)) i + 1) = cP (fun p => decide (vow (f p) = 1)) i + 1 := w32_id (by omega) (by omega)
    have ih' := ih (i + 1) (by omega)
    rw [cP] at ih'
    rw [e134_48]
    rcases vow_01 (f i) with c | c
    · rw [if_neg (show ¬ decide (vow (f i) = 1) = true by rw [c]; decide), Int.add_zero] at ih'
      simp only [e134_0, e134_1, e134_4, e134_5, e134_8, e134_11, e134_12, e134_13, e134_16, e134_17, e134_18, e134_21, e134_24, e134_25, e134_26, e134_27, e134_30, e134_31, e134_34, e134_37, e134_38, e134_39, e134_40, e134_43, e134_44, e134_45, e134_46, e134_50, e134_51, e134_54, e134_57, e134_58, e134_61, e134_63, e134_63z, e134_64, e134_67, e134_70, e134_73, e134_76, e134_77, e134_78, e134_81, psh0, psh1, psh3, true_or, or_true, eq_self, Option.bind_some, List.length_nil, List.length_cons, Nat.reduceAdd, Nat.reduceLeDiff, Nat.zero_le, ↓reduceIte, Int.reduceLT, Int.reduceEq, Int.reduceLE, Int.reduceNeg, Int.reduceAdd, Int.reduceMul, Int.reduceSub, ne_eq, not_true_eq_false, not_false_eq_true, and_true, true_and, and_false, false_and, c3lt, c3gt, c3eq, Bool.false_eq_true, isK_wr, inA_wr, inR_wr, k7, hN, ci, r4, i1, e, c, w1]
      exact ih'
    · rw [if_pos (show decide (vow (f i) = 1) = true by rw [c]; decide)] at ih'
      simp only [e134_0, e134_1, e134_4, e134_5, e134_8, e134_11, e134_12, e134_13, e134_16, e134_17, e134_18, e134_21, e134_24, e134_25, e134_26, e134_27, e134_30, e134_31, e134_34, e134_37, e134_38, e134_39, e134_40, e134_43, e134_44, e134_45, e134_46, e134_50, e134_51, e134_54, e134_57, e134_58, e134_61, e134_63, e134_63z, e134_64, e134_67, e134_70, e134_73, e134_76, e134_77, e134_78, e134_81, psh0, psh1, psh3, true_or, or_true, eq_self, Option.bind_some, List.length_nil, List.length_cons, Nat.reduceAdd, Nat.reduceLeDiff, Nat.zero_le, ↓reduceIte, Int.reduceLT, Int.reduceEq, Int.reduceLE, Int.reduceNeg, Int.reduceAdd, Int.reduceMul, Int.reduceSub, ne_eq, not_true_eq_false, not_false_eq_true, and_true, true_and, and_false, false_and, c3lt, c3gt, c3eq, Bool.false_eq_true, isK_wr, inA_wr, inR_wr, k7, hN, ci, r4, i1, e, c, w1, w2]
      exact ih'
theorem m_vow_loop (hm : CM h) (hc : MC h k) (N : Nat) (hN : mrd h 240 (76 + k) = N) (n : Nat) : ∀ i : Nat, i + n = N → EV (d + 2) 281 28 [(2, 235), (0, k), (0, cP (fun p => decide (vow (LT h k p) = 1)) i), (0, (i : Int))] [] h = some ((0, cP (fun p => decide (vow (LT h k p) = 1)) N), h) := by
  have gl := m_lengthOf (d := d + 1) hm hc.1.1 hc.1.2
  rw [hN] at gl
  have b12 := hc.2.1
  induction n with
  | zero =>
    intro i hi
    have e : i = N := by omega
    subst e
    rw [e281_28]
    simp only [e281_0, e281_1, e281_2, e281_5, e281_6, e281_7, e281_10, e281_11, e281_12, e281_15, e281_18, e281_19, e281_20, e281_23, e281_24, e281_25, e281_26, e281_27, e281_29, e281_30, e281_31, e281_34, e281_37, e281_38, e281_39, e281_40, e281_41, e281_44, e281_47, e281_50, e281_51, e281_54, e281_55, e281_56, e281_57, e281_60, e281_63, e281_64, psh0, psh1, psh3, true_or, or_true, eq_self, Option.bind_some, List.length_nil, List.length_cons, Nat.reduceAdd, Nat.reduceLeDiff, Nat.zero_le, ↓reduceIte, Int.reduceLT, Int.reduceEq, Int.reduceLE, Int.reduceNeg, Int.reduceAdd, Int.reduceMul, Int.reduceSub, ne_eq, not_true_eq_false, not_false_eq_true, and_true, true_and, and_false, false_and, c3lt, c3gt, c3eq, Bool.false_eq_true, isK_wr, inA_wr, inR_wr, hm.1, gl, Int.lt_irrefl]
  | succ n ih =>
    intro i hi
    have ci : (i : Int) < N := by omega
    have w1 : w32 ((i : Int) + 1) = ((i + 1 : Nat) : Int) := by rw [w32_id (by omega) (by omega)]; omega
    have gt := m_letter (d := d) (p := (i : Int)) hm hc (by omega) (by omega)
    have g3 := cP_rng (fun p => decide (vow (LT h k p) = 1)) i
    have w2 : w32 (cP (fun p => decide (vow (LT h k p) = 1)) i + 1) = cP (fun p => decide (vow (LT h k p) = 1)) i + 1 := w32_id (by omega) (by omega)
    have w3 : w32 (cP (fun p => decide (vow (LT h k p) = 1)) i + 0) = cP (fun p => decide (vow (LT h k p) = 1)) i + 0 := w32_id (by omega) (by omega)
    have ih' := ih (i + 1) (by omega)
    rw [cP] at ih'
    rw [e281_28]
    rcases vow_01 (LT h k i) with c | c
    · rw [if_neg (show ¬ decide (vow (LT h k i) = 1) = true by rw [c]; decide)] at ih'
      simp only [e281_0, e281_1, e281_2, e281_5, e281_6, e281_7, e281_10, e281_11, e281_12, e281_15, e281_18, e281_19, e281_20, e281_23, e281_24, e281_25, e281_26, e281_27, e281_29, e281_30, e281_31, e281_34, e281_37, e281_38, e281_39, e281_40, e281_41, e281_44, e281_47, e281_50, e281_51, e281_54, e281_55, e281_56, e281_57, e281_60, e281_63, e281_64, psh0, psh1, psh3, true_or, or_true, eq_self, Option.bind_some, List.length_nil, List.length_cons, Nat.reduceAdd, Nat.reduceLeDiff, Nat.zero_le, ↓reduceIte, Int.reduceLT, Int.reduceEq, Int.reduceLE, Int.reduceNeg, Int.reduceAdd, Int.reduceMul, Int.reduceSub, ne_eq, not_true_eq_false, not_false_eq_true, and_true, true_and, and_false, false_and, c3lt, c3gt, c3eq, Bool.false_eq_true, isK_wr, inA_wr, inR_wr, hm.1, gl, ci, gt, m_isVowel, c, w1, w3]
      exact ih'
    · rw [if_pos (show decide (vow (LT h k i) = 1) = true by rw [c]; decide)] at ih'
      simp only [e281_0, e281_1, e281_2, e281_5, e281_6, e281_7, e281_10, e281_11, e281_12, e281_15, e281_18, e281_19, e281_20, e281_23, e281_24, e281_25, e281_26, e281_27, e281_29, e281_30, e281_31, e281_34, e281_37, e281_38, e281_39, e281_40, e281_41, e281_44, e281_47, e281_50, e281_51, e281_54, e281_55, e281_56, e281_57, e281_60, e281_63, e281_64, psh0, psh1, psh3, true_or, or_true, eq_self, Option.bind_some, List.length_nil, List.length_cons, Nat.reduceAdd, Nat.reduceLeDiff, Nat.zero_le, ↓reduceIte, Int.reduceLT, Int.reduceEq, Int.reduceLE, Int.reduceNeg, Int.reduceAdd, Int.reduceMul, Int.reduceSub, ne_eq, not_true_eq_false, not_false_eq_true, and_true, true_and, and_false, false_and, c3lt, c3gt, c3eq, Bool.false_eq_true, isK_wr, inA_wr, inR_wr, hm.1, gl, ci, gt, m_isVowel, c, w1, w2]
      exact ih'
end
theorem op_vowels : Op_vowels Inv := by
  intro d h a0 hI i0
  obtain ⟨s, e8, hs, k0, kM, cs, ds⟩ := ctx hI
  have ds' := ds
  have ks := cs.1
  have r1 := cs.2.2.1
  have r2 := cs.2.2.2.1
  have r3 := cs.2.2.2.2.1
  have kl := cs.2.2.2.2.2.2.2.2.2.2.2.1
  have kc := cs.2.2.2.2.2.2.2.2.2.2.2.2
  obtain ⟨d5, d6, d7, d8, dl, dc⟩ := ds
  have hm : ∀ v, CM (mwr (mwr (mwr h 0 11 v) 235 1 0) 235 0 0) := fun v => CM_q (CM_of hI)
  have hx := x_hasChild_q (d := d + 59) (k := a0) ks d7.1
  by_cases hc : 0 ≤ a0 ∧ a0 < mrd h 240 2
  · simp only [hc, and_self, if_true] at hx
    obtain ⟨t1, t2, t3, t4, t5, t6⟩ := kc a0 hc.1 (by omega)
    obtain ⟨q1, q2, q3, q4, q5, q6, q7⟩ := dc a0 hc.1 hc.2
    obtain ⟨N, hN⟩ : ∃ N : Nat, mrd h 240 (76 + a0) = N := ⟨(mrd h 240 (76 + a0)).toNat, by omega⟩
    refine opSF hI (cP (fun p => decide (vow (LT h a0 p) = 1)) N) 0 ?_ ?_
    · obtain ⟨h', e1, e2⟩ := xs_spell (d := d + 59) (w := -1) hI hs ds' hc.1 hc.2 N hN (SF.rf hI)
      rw [kp_m1] at e2
      have hf := (SF.rf hI).spx hs e2
      obtain ⟨ks', -, r1', r2', r3', r4', -, -, k7', k8', k9', -⟩ := CS_cong e2.1 e2.2.1 cs
      have k7 := cs.2.2.2.2.2.2.2.2.1
      have gv := x_vow_loop (d := d + 59) (x := a0) hf.k0 k7' r4' k8' k9' N (by rw [e2.2.2.1, kp_none]) (by omega) (fun p => LT h a0 p) (fun p hp => by rw [e2.2.2.2 p (by rw [kp_none]; exact hp), kp_getD _ _ _ hp]) N 0 (by omega)
      refine ⟨mwr h' 0 11 0, ?_, hf.wr Scr_st (by omega), rde⟩
      refine Eq.trans ?_ gv
      simp only [e134_0, e134_1, e134_4, e134_5, e134_8, e134_11, e134_12, e134_13, e134_16, e134_17, e134_18, e134_21, e134_24, e134_25, e134_26, e134_27, e134_30, e134_31, e134_34, e134_37, e134_38, e134_39, e134_40, e134_43, e134_44, e134_45, e134_46, e134_50, e134_51, e134_54, e134_57, e134_58, e134_61, e134_63, e134_63z, e134_64, e134_67, e134_70, e134_73, e134_76, e134_77, e134_78, e134_81, psh0, psh1, psh3, true_or, or_true, eq_self, Option.bind_some, List.length_nil, List.length_cons, Nat.reduceAdd, Nat.reduceLeDiff, Nat.zero_le, ↓reduceIte, Int.reduceLT, Int.reduceEq, Int.reduceLE, Int.reduceNeg, Int.reduceAdd, Int.reduceMul, Int.reduceSub, ne_eq, not_true_eq_false, not_false_eq_true, and_true, true_and, and_false, false_and, c3lt, c3gt, c3eq, Bool.false_eq_true, isK_wr, inA_wr, inR_wr, k0, e8, ks, r2, r3, k7, hx, t1, t2, e1]
      rfl
    · intro h1 hf1
      have cm1 := hf1.cm hI
      have hfq : SF h (mwr (mwr h1 235 1 0) 235 0 0) := hf1.q
      have hl := m_isChildAt_s (d := d + 58) (k := a0) hI hfq
      rw [if_pos hc] at hl
      have gv := m_vow_loop (d := d + 58) (hfq.cm hI) (MC_congr hfq.c (MC_of ds' hc.1 hc.2)) N (by rw [hfq.c]; exact hN) N 0 (by omega)
      rw [cP_eq N (Q := fun p => decide (vow (LT h a0 p) = 1)) (fun i _ => by rw [LT_congr hfq.c])] at gv
      refine ⟨_, ?_, hfq, q00.1, q00.2⟩
      refine Eq.trans ?_ gv
      simp only [e281_0, e281_1, e281_2, e281_5, e281_6, e281_7, e281_10, e281_11, e281_12, e281_15, e281_18, e281_19, e281_20, e281_23, e281_24, e281_25, e281_26, e281_27, e281_29, e281_30, e281_31, e281_34, e281_37, e281_38, e281_39, e281_40, e281_41, e281_44, e281_47, e281_50, e281_51, e281_54, e281_55, e281_56, e281_57, e281_60, e281_63, e281_64, psh0, psh1, psh3, true_or, or_true, eq_self, Option.bind_some, List.length_nil, List.length_cons, Nat.reduceAdd, Nat.reduceLeDiff, Nat.zero_le, ↓reduceIte, Int.reduceLT, Int.reduceEq, Int.reduceLE, Int.reduceNeg, Int.reduceAdd, Int.reduceMul, Int.reduceSub, ne_eq, not_true_eq_false, not_false_eq_true, and_true, true_and, and_false, false_and, c3lt, c3gt, c3eq, Bool.false_eq_true, isK_wr, inA_wr, inR_wr, cm1.1, hl]
      rfl
  · have hl := fun v => m_isChildAt_q (d := d + 58) (k := a0) hI v
    simp only [hc, if_false] at hl hx
    refine opq hI (-1) 2 ?_ ?_
    · simp only [e134_0, e134_1, e134_4, e134_5, e134_8, e134_11, e134_12, e134_13, e134_16, e134_17, e134_18, e134_21, e134_24, e134_25, e134_26, e134_27, e134_30, e134_31, e134_34, e134_37, e134_38, e134_39, e134_40, e134_43, e134_44, e134_45, e134_46, e134_50, e134_51, e134_54, e134_57, e134_58, e134_61, e134_63, e134_63z, e134_64, e134_67, e134_70, e134_73, e134_76, e134_77, e134_78, e134_81, psh0, psh1, psh3, true_or, or_true, eq_self, Option.bind_some, List.length_nil, List.length_cons, Nat.reduceAdd, Nat.reduceLeDiff, Nat.zero_le, ↓reduceIte, Int.reduceLT, Int.reduceEq, Int.reduceLE, Int.reduceNeg, Int.reduceAdd, Int.reduceMul, Int.reduceSub, ne_eq, not_true_eq_false, not_false_eq_true, and_true, true_and, and_false, false_and, c3lt, c3gt, c3eq, Bool.false_eq_true, isK_wr, inA_wr, inR_wr, k0, e8, ks, x_refuse, hx]
    · simp only [e281_0, e281_1, e281_2, e281_5, e281_6, e281_7, e281_10, e281_11, e281_12, e281_15, e281_18, e281_19, e281_20, e281_23, e281_24, e281_25, e281_26, e281_27, e281_29, e281_30, e281_31, e281_34, e281_37, e281_38, e281_39, e281_40, e281_41, e281_44, e281_47, e281_50, e281_51, e281_54, e281_55, e281_56, e281_57, e281_60, e281_63, e281_64, psh0, psh1, psh3, true_or, or_true, eq_self, Option.bind_some, List.length_nil, List.length_cons, Nat.reduceAdd, Nat.reduceLeDiff, Nat.zero_le, ↓reduceIte, Int.reduceLT, Int.reduceEq, Int.reduceLE, Int.reduceNeg, Int.reduceAdd, Int.reduceMul, Int.reduceSub, ne_eq, not_true_eq_false, not_false_eq_true, and_true, true_and, and_false, false_and, c3lt, c3gt, c3eq, Bool.false_eq_true, isK_wr, inA_wr, inR_wr, kM, hl, m_refuse, wrwr]

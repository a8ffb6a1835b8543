/-! said, stumbles, weak, firm, vowels -/
def VX (h h' : AM) (s : Int) : Prop := h'.2 = h.2 ∧ ∀ a i, a ≠ s + 5 → ¬ (a = s + 4 ∧ i = 1) → mrd h' a i = mrd h a i
def VM (g g' : AM) : Prop := g'.2 = g.2 ∧ ∀ a i, a ≠ 243 → ¬ (a = 235 ∧ i = 27) → mrd g' a i = mrd g a i
theorem SpX.vx {h h' : AM} {s : Int} {l : List Int} (a : SpX h h' s l) : VX h h' s := ⟨a.1, a.2.1⟩
theorem SpM.vm {h h' : AM} {l : List Int} (a : SpM h h' l) : VM h h' := ⟨a.1, a.2.1⟩
theorem VX.rf {h : AM} {s : Int} : VX h h s := ⟨rfl, fun _ _ _ _ => rfl⟩
theorem VM.rf {h : AM} : VM h h := ⟨rfl, fun _ _ _ _ => rfl⟩
theorem VX.trans {h h1 h2 : AM} {s : Int} (a : VX h h1 s) (b : VX h1 h2 s) : VX h h2 s := ⟨b.1.trans a.1, fun x i h1 h2 => (b.2 x i h1 h2).trans (a.2 x i h1 h2)⟩
theorem VM.trans {h h1 h2 : AM} (a : VM h h1) (b : VM h1 h2) : VM h h2 := ⟨b.1.trans a.1, fun x i h1 h2 => (b.2 x i h1 h2).trans (a.2 x i h1 h2)⟩
theorem SF.vx {h h1 h2 : AM} {s : Int} (hf : SF h h1) (hs : s = 162 ∨ s = 195) (a : VX h1 h2 s) : SF h h2 := by
  refine hf.st a.1 (fun x i hn => a.2 x i (fun z => hn ?_) (fun z => hn ?_)) (a.2 _ _ (by omega) (by omega))
  · rw [z]; exact (Scr_v hs).1 i
  · rw [z.1, z.2]; exact (Scr_v hs).2
theorem SF.vm {h h1 h2 : AM} (hf : SF h h1) (a : VM h1 h2) : SF h h2 := by
  refine hf.st a.1 (fun x i hn => a.2 x i (fun z => hn ?_) (fun z => hn ?_)) (a.2 _ _ (by omega) (by omega))
  · rw [z]; exact Or.inl (by decide +kernel)
  · rw [z.1, z.2]; exact Or.inr (Or.inr (by decide +kernel))
section
variable {d : Nat} {h h1 : AM} {s a b c k p v w x y z : Int}
theorem spell_hl (ds : DS h s) (k0 : 0 ≤ k) (k1 : k < mrd h 240 2) (N : Nat) (hN : mrd h 240 (76 + k) = N) : mrd h (s + 25 + 2 * k) 6 = N ∧ N ≤ 12 ∧ (∀ p : Nat, p < N → 0 ≤ mrd h (s + 26 + 2 * k) p ∧ mrd h (s + 26 + 2 * k) p < 12 ∧ mrd h (s + 13 + mrd h (s + 26 + 2 * k) p) 2 = vow (mrd h (s + 13 + mrd h (s + 26 + 2 * k) p) 1)) ∧ ∀ p : Nat, p < N → mrd h (s + 13 + mrd h (s + 26 + 2 * k) p) 1 = LT h k p := by
  obtain ⟨d5, d6, d7, d8, dl, dc⟩ := ds
  obtain ⟨q1, q2, q3, q4, q5, q6, q7⟩ := dc k k0 k1
  refine ⟨by rw [q4.1, hN], by omega, fun p hp => ?_, fun p hp => ?_⟩
  · obtain ⟨e1, e2, e3⟩ := q5 p (by omega) (by omega)
    obtain ⟨p1, p2, p3⟩ := dl _ e2 e3
    rw [e1]
    exact ⟨e2, by omega, by rw [p2, p1.1]⟩
  · obtain ⟨e1, e2, e3⟩ := q5 p (by omega) (by omega)
    rw [e1, (dl _ e2 e3).1.1]
    rfl
theorem xs_spell (hI : Inv h) (h6 : s = 162 ∨ s = 195) (ds : DS h s) (k0 : 0 ≤ k) (k1 : k < mrd h 240 2) (N : Nat) (hN : mrd h 240 (76 + k) = N) (hf : SF h h1) : ∃ h', EV d 99 0 [(2, s + 4), (2, s), (2, s + 25 + 2 * k), (0, w), (3, 0)] [] h1 = some ((3, 0), h') ∧ SpX h1 h' s (kp (fun p => decide ((p : Int) = w)) (fun p => LT h k p) N) := by
  have cs := hf.cs hI h6
  obtain ⟨g1, g2, g3, g4⟩ := spell_hl (hf.ds h6 ds) k0 (by rw [hf.c]; exact k1) N (by rw [hf.c]; exact hN)
  have d7 := ds.2.2.1
  obtain ⟨h', e1, e2⟩ := x_spell (d := d) (w := w) cs k0 (by omega) N g1 g2 g3
  rw [kp_congr (g := fun p => LT h k p) N (fun _ _ => rfl) (fun i hi => (g4 i hi).trans (LT_congr hf.c))] at e2
  exact ⟨h', e1, e2⟩
theorem xs_said (hI : Inv h) (h6 : s = 162 ∨ s = 195) (ds : DS h s) (k0 : 0 ≤ k) (k1 : k < mrd h 240 2) (N : Nat) (hN : mrd h 240 (76 + k) = N) (hf : SF h h1) : ∃ h', EV (d + 1) 74 0 [(2, s), (2, s + 25 + 2 * k), (0, w)] [] h1 = some ((0, sdB (mrd h 240 3) (kp (fun p => decide ((p : Int) = w)) (fun p => LT h k p) N)), h') ∧ SpX h1 h' s (kp (fun p => decide ((p : Int) = w)) (fun p => LT h k p) N) := by
  have cs := hf.cs hI h6
  obtain ⟨g1, g2, g3, g4⟩ := spell_hl (hf.ds h6 ds) k0 (by rw [hf.c]; exact k1) N (by rw [hf.c]; exact hN)
  have d7 := ds.2.2.1
  have d8 := (hf.ds h6 ds).2.2.2.1
  obtain ⟨h', e1, e2⟩ := x_isSaid (d := d) (w := w) cs k0 (by omega) N g1 g2 g3
  rw [kp_congr (g := fun p => LT h k p) N (fun _ _ => rfl) (fun i hi => (g4 i hi).trans (LT_congr hf.c))] at e1 e2
  rw [d8.1, hf.c] at e1
  exact ⟨h', e1, e2⟩
theorem ms_lay (hI : Inv h) (ds : DS h s) (k0 : 0 ≤ k) (k1 : k < mrd h 240 2) (N : Nat) (hN : mrd h 240 (76 + k) = N) (hf : SF h h1) : ∃ h', EV (d + 2) 270 0 [(2, 235), (0, k), (0, x), (3, 0)] [] h1 = some ((3, 0), h') ∧ SpM h1 h' (kp (fun p => bI x p) (fun p => LT h k p) N) := by
  obtain ⟨h', e1, e2⟩ := m_layName (d := d) (x := x) (hf.cm hI) (MC_congr hf.c (MC_of ds k0 k1)) N (by rw [hf.c]; exact hN)
  rw [kp_congr (g := fun p => LT h k p) N (fun _ _ => rfl) (fun i hi => LT_congr hf.c)] at e2
  exact ⟨h', e1, e2⟩
theorem ms_said (hI : Inv h) (ds : DS h s) (k0 : 0 ≤ k) (k1 : k < mrd h 240 2) (N : Nat) (hN : mrd h 240 (76 + k) = N) (hf : SF h h1) : ∃ h', EV (d + 3) 271 0 [(2, 235), (0, k), (0, x)] [] h1 = some ((0, sdB (mrd h 240 3) (kp (fun p => bI x p) (fun p => LT h k p) N)), h') ∧ SpM h1 h' (kp (fun p => bI x p) (fun p => LT h k p) N) := by
  obtain ⟨h', e1, e2⟩ := m_saysName (d := d) (x := x) (hf.cm hI) (MC_congr hf.c (MC_of ds k0 k1)) N (by rw [hf.c]; exact hN)
  rw [kp_congr (g := fun p => LT h k p) N (fun _ _ => rfl) (fun i hi => LT_congr hf.c), hf.c] at e1
  rw [kp_congr (g := fun p => LT h k p) N (fun _ _ => rfl) (fun i hi => LT_congr hf.c)] at e2
  exact ⟨h', e1, e2⟩
end
theorem kp_m1 {f : Nat → Int} (N : Nat) : kp (fun p => decide ((p : Int) = -1)) f N = kp (fun _ => false) f N := kp_congr N (fun i _ => decide_eq_false (by omega)) (fun _ _ => rfl)
theorem kp_0 {f : Nat → Int} (N : Nat) : kp (fun p => bI 0 p) f N = kp (fun _ => false) f N := kp_congr N (fun i _ => bI_0 i) (fun _ _ => rfl)
/-- the reference's start of a call that asks of a child -/
theorem m_isChildAt_s {d : Nat} {h g : AM} {k : Int} (hI : Inv h) (hf : SF h g) : EV (d + 1) 240 0 [(2, 235), (0, k)] [] g = some ((0, if 0 ≤ k ∧ k < mrd h 240 2 then 1 else 0), g) := by
  obtain ⟨s, e8, hs, k0, kM, cs, ds⟩ := ctx hI
  obtain ⟨d5, d6, d7, d8, dl, dc⟩ := ds
  rw [m_isChildAt (hf.cm hI) (by rw [hf.c]; omega), hf.c]
  by_cases c : 0 ≤ k ∧ k < mrd h 240 2
  · rw [if_pos c, if_pos (by omega)]
  · rw [if_neg c, if_neg (by omega)]
theorem q00 {h : AM} {v : Int} : mrd (mwr (mwr h 235 1 0) 235 0 v) 235 0 = v ∧ mrd (mwr (mwr h 235 1 0) 235 0 v) 0 11 = mrd h 0 11 := ⟨rde, by rw [rdn1 (by decide), rdn1 (by decide)]⟩
theorem op_said : Op_said Inv := by
  intro d h a0 hI i0
  obtain ⟨s, e8, hs, k0, kM, cs, ds⟩ := ctx hI
  have ds' := ds
  have ks := cs.1
  have r1 := cs.2.2.1
  have r2 := cs.2.2.2.1
  have r3 := cs.2.2.2.2.1
  have kl := cs.2.2.2.2.2.2.2.2.2.2.2.1
  have kc := cs.2.2.2.2.2.2.2.2.2.2.2.2
  obtain ⟨d5, d6, d7, d8, dl, dc⟩ := ds
  have hm : ∀ v, CM (mwr (mwr (mwr h 0 11 v) 235 1 0) 235 0 0) := fun v => CM_q (CM_of hI)
  have hx := x_hasChild_q (d := d + 59) (k := a0) ks d7.1
  by_cases hc : 0 ≤ a0 ∧ a0 < mrd h 240 2
  · simp only [hc, and_self, if_true] at hx
    obtain ⟨t1, t2, t3, t4, t5, t6⟩ := kc a0 hc.1 (by omega)
    obtain ⟨q1, q2, q3, q4, q5, q6, q7⟩ := dc a0 hc.1 hc.2
    obtain ⟨N, hN⟩ : ∃ N : Nat, mrd h 240 (76 + a0) = N := ⟨(mrd h 240 (76 + a0)).toNat, by omega⟩
    have h01 := sdB_01 (mrd h 240 3) (kp (fun _ => false) (fun p => LT h a0 p) N)
    refine opSF hI (sdB (mrd h 240 3) (kp (fun _ => false) (fun p => LT h a0 p) N)) 0 ?_ ?_
    · obtain ⟨h', e1, e2⟩ := xs_said (d := d + 58) (w := -1) hI hs ds' hc.1 hc.2 N hN (SF.rf hI)
      rw [kp_m1] at e1 e2
      have hf := (SF.rf hI).spx hs e2
      have kk := hf.k0
      refine ⟨mwr h' 0 11 0, ?_, hf.wr Scr_st (by omega), rde⟩
      generalize sdB (mrd h 240 3) (kp (fun _ => false) (fun p => LT h a0 p) N) = R at e1 h01
      rcases h01 with rfl | rfl
      · simp only [e129_0, e129_1, e129_4, e129_5, e129_8, e129_11, e129_12, e129_13, e129_16, e129_17, e129_18, e129_19, e129_22, e129_23, e129_26, e129_29, e129_30, e129_31, e129_32, e129_35, e129_38, e129_39, e129_42, e129_43, e129_46, psh0, psh1, psh3, true_or, or_true, eq_self, Option.bind_some, List.length_nil, List.length_cons, Nat.reduceAdd, Nat.reduceLeDiff, Nat.zero_le, ↓reduceIte, Int.reduceLT, Int.reduceEq, Int.reduceLE, Int.reduceNeg, Int.reduceAdd, Int.reduceMul, Int.reduceSub, ne_eq, not_true_eq_false, not_false_eq_true, and_true, true_and, and_false, false_and, c3lt, c3gt, c3eq, Bool.false_eq_true, isK_wr, inA_wr, inR_wr, k0, e8, ks, r2, hx, t1, t2, e1, kk, x_answer]
      · simp only [e129_0, e129_1, e129_4, e129_5, e129_8, e129_11, e129_12, e129_13, e129_16, e129_17, e129_18, e129_19, e129_22, e129_23, e129_26, e129_29, e129_30, e129_31, e129_32, e129_35, e129_38, e129_39, e129_42, e129_43, e129_46, psh0, psh1, psh3, true_or, or_true, eq_self, Option.bind_some, List.length_nil, List.length_cons, Nat.reduceAdd, Nat.reduceLeDiff, Nat.zero_le, ↓reduceIte, Int.reduceLT, Int.reduceEq, Int.reduceLE, Int.reduceNeg, Int.reduceAdd, Int.reduceMul, Int.reduceSub, ne_eq, not_true_eq_false, not_false_eq_true, and_true, true_and, and_false, false_and, c3lt, c3gt, c3eq, Bool.false_eq_true, isK_wr, inA_wr, inR_wr, k0, e8, ks, r2, hx, t1, t2, e1, kk, x_answer]
    · intro h1 hf1
      have cm1 := hf1.cm hI
      have hfq : SF h (mwr (mwr h1 235 1 0) 235 0 0) := hf1.q
      have hl := m_isChildAt_s (d := d + 58) (k := a0) hI hfq
      rw [if_pos hc] at hl
      obtain ⟨h', e1, e2⟩ := ms_said (d := d + 56) (x := 0) hI ds' hc.1 hc.2 N hN hfq
      rw [kp_0] at e1 e2
      refine ⟨h', ?_, hfq.spm e2, by rw [e2.2.1 _ _ (by decide) (by omega)]; exact q00.1, by rw [e2.2.1 _ _ (by decide) (by omega)]; exact q00.2⟩
      generalize sdB (mrd h 240 3) (kp (fun _ => false) (fun p => LT h a0 p) N) = R at e1 h01
      rcases h01 with rfl | rfl
      · simp only [e275_0, e275_1, e275_2, e275_5, e275_6, e275_7, e275_10, e275_11, e275_12, e275_15, e275_18, e275_19, e275_20, e275_23, e275_24, e275_25, e275_26, e275_27, e275_30, e275_33, e275_34, e275_37, e275_38, psh0, psh1, psh3, true_or, or_true, eq_self, Option.bind_some, List.length_nil, List.length_cons, Nat.reduceAdd, Nat.reduceLeDiff, Nat.zero_le, ↓reduceIte, Int.reduceLT, Int.reduceEq, Int.reduceLE, Int.reduceNeg, Int.reduceAdd, Int.reduceMul, Int.reduceSub, ne_eq, not_true_eq_false, not_false_eq_true, and_true, true_and, and_false, false_and, c3lt, c3gt, c3eq, Bool.false_eq_true, isK_wr, inA_wr, inR_wr, cm1.1, hl, e1]
      · simp only [e275_0, e275_1, e275_2, e275_5, e275_6, e275_7, e275_10, e275_11, e275_12, e275_15, e275_18, e275_19, e275_20, e275_23, e275_24, e275_25, e275_26, e275_27, e275_30, e275_33, e275_34, e275_37, e275_38, psh0, psh1, psh3, true_or, or_true, eq_self, Option.bind_some, List.length_nil, List.length_cons, Nat.reduceAdd, Nat.reduceLeDiff, Nat.zero_le, ↓reduceIte, Int.reduceLT, Int.reduceEq, Int.reduceLE, Int.reduceNeg, Int.reduceAdd, Int.reduceMul, Int.reduceSub, ne_eq, not_true_eq_false, not_false_eq_true, and_true, true_and, and_false, false_and, c3lt, c3gt, c3eq, Bool.false_eq_true, isK_wr, inA_wr, inR_wr, cm1.1, hl, e1]
  · have hl := fun v => m_isChildAt_q (d := d + 58) (k := a0) hI v
    simp only [hc, if_false] at hl hx
    refine opq hI (-1) 2 ?_ ?_
    · simp only [e129_0, e129_1, e129_4, e129_5, e129_8, e129_11, e129_12, e129_13, e129_16, e129_17, e129_18, e129_19, e129_22, e129_23, e129_26, e129_29, e129_30, e129_31, e129_32, e129_35, e129_38, e129_39, e129_42, e129_43, e129_46, psh0, psh1, psh3, true_or, or_true, eq_self, Option.bind_some, List.length_nil, List.length_cons, Nat.reduceAdd, Nat.reduceLeDiff, Nat.zero_le, ↓reduceIte, Int.reduceLT, Int.reduceEq, Int.reduceLE, Int.reduceNeg, Int.reduceAdd, Int.reduceMul, Int.reduceSub, ne_eq, not_true_eq_false, not_false_eq_true, and_true, true_and, and_false, false_and, c3lt, c3gt, c3eq, Bool.false_eq_true, isK_wr, inA_wr, inR_wr, k0, e8, ks, x_refuse, hx]
    · simp only [e275_0, e275_1, e275_2, e275_5, e275_6, e275_7, e275_10, e275_11, e275_12, e275_15, e275_18, e275_19, e275_20, e275_23, e275_24, e275_25, e275_26, e275_27, e275_30, e275_33, e275_34, e275_37, e275_38, psh0, psh1, psh3, true_or, or_true, eq_self, Option.bind_some, List.length_nil, List.length_cons, Nat.reduceAdd, Nat.reduceLeDiff, Nat.zero_le, ↓reduceIte, Int.reduceLT, Int.reduceEq, Int.reduceLE, Int.reduceNeg, Int.reduceAdd, Int.reduceMul, Int.reduceSub, ne_eq, not_true_eq_false, not_false_eq_true, and_true, true_and, and_false, false_and, c3lt, c3gt, c3eq, Bool.false_eq_true, isK_wr, inA_wr, inR_wr, kM, hl, m_refuse, wrwr]
theorem op_stumbles : Op_stumbles Inv := by
  intro d h a0 hI i0
  obtain ⟨s, e8, hs, k0, kM, cs, ds⟩ := ctx hI
  have ds' := ds
  have ks := cs.1
  have r1 := cs.2.2.1
  have r2 := cs.2.2.2.1
  have r3 := cs.2.2.2.2.1
  have kl := cs.2.2.2.2.2.2.2.2.2.2.2.1
  have kc := cs.2.2.2.2.2.2.2.2.2.2.2.2
  obtain ⟨d5, d6, d7, d8, dl, dc⟩ := ds
  have hm : ∀ v, CM (mwr (mwr (mwr h 0 11 v) 235 1 0) 235 0 0) := fun v => CM_q (CM_of hI)
  have hx := x_hasChild_q (d := d + 59) (k := a0) ks d7.1
  by_cases hc : 0 ≤ a0 ∧ a0 < mrd h 240 2
  · simp only [hc, and_self, if_true] at hx
    obtain ⟨t1, t2, t3, t4, t5, t6⟩ := kc a0 hc.1 (by omega)
    obtain ⟨q1, q2, q3, q4, q5, q6, q7⟩ := dc a0 hc.1 hc.2
    obtain ⟨N, hN⟩ : ∃ N : Nat, mrd h 240 (76 + a0) = N := ⟨(mrd h 240 (76 + a0)).toNat, by omega⟩
    have hlen : (kp (fun _ => false) (fun p => LT h a0 p) N).length = N := kp_none _ N
    have hr := stF_rng (v := fun p => vow ((kp (fun _ => false) (fun p => LT h a0 p) N).getD p 0)) (so := mrd h 240 3) (kp (fun _ => false) (fun p => LT h a0 p) N).length 0 0
    change -1 ≤ stL (mrd h 240 3) (kp (fun _ => false) (fun p => LT h a0 p) N) ∧ _ ∧ (stL (mrd h 240 3) (kp (fun _ => false) (fun p => LT h a0 p) N) < 0 → stL (mrd h 240 3) (kp (fun _ => false) (fun p => LT h a0 p) N) = -1) at hr
    refine opSF hI (stL (mrd h 240 3) (kp (fun _ => false) (fun p => LT h a0 p) N)) (if stL (mrd h 240 3) (kp (fun _ => false) (fun p => LT h a0 p) N) = -1 then 8 else 0) ?_ ?_
    · obtain ⟨h', e1, e2⟩ := xs_spell (d := d + 59) (w := -1) hI hs ds' hc.1 hc.2 N hN (SF.rf hI)
      rw [kp_m1] at e2
      have hf := (SF.rf hI).spx hs e2
      have kk := hf.k0
      have ee8 : mrd h' 0 8 = s := hf.e8.trans e8
      obtain ⟨ks', -, r1', r2', r3', r4', -, -, k7', -⟩ := CS_cong e2.1 e2.2.1 cs
      have s8 : mrd h' s 8 = mrd h 240 3 := by rw [e2.2.1 _ _ (by omega) (by omega), d8.1]
      have g3 := x_stumble (d := d + 59) (x := mrd h 240 3) cs e2 (by rw [hlen]; omega)
      have k7 := cs.2.2.2.2.2.2.2.2.1
      refine ⟨mwr h' 0 11 _, ?_, hf.wr Scr_st (by omega), rde⟩
      simp only [e130_0, e130_1, e130_4, e130_5, e130_8, e130_11, e130_12, e130_13, e130_16, e130_17, e130_18, e130_21, e130_24, e130_25, e130_28, e130_29, e130_32, e130_35, e130_36, e130_37, e130_38, e130_41, e130_42, e130_43, e130_46, e130_49, e130_50, e130_53, e130_56, e130_59, e130_62, psh0, psh1, psh3, true_or, or_true, eq_self, Option.bind_some, List.length_nil, List.length_cons, Nat.reduceAdd, Nat.reduceLeDiff, Nat.zero_le, ↓reduceIte, Int.reduceLT, Int.reduceEq, Int.reduceLE, Int.reduceNeg, Int.reduceAdd, Int.reduceMul, Int.reduceSub, ne_eq, not_true_eq_false, not_false_eq_true, and_true, true_and, and_false, false_and, c3lt, c3gt, c3eq, Bool.false_eq_true, isK_wr, inA_wr, inR_wr, k0, e8, ks, r2, r3, k7, hx, t1, t2, e1, kk, ee8, ks', r3', k7', s8, g3, x_answerIfThere]
    · intro h1 hf1
      have cm1 := hf1.cm hI
      have hfq : SF h (mwr (mwr h1 235 1 0) 235 0 0) := hf1.q
      have hl := m_isChildAt_s (d := d + 58) (k := a0) hI hfq
      rw [if_pos hc] at hl
      obtain ⟨h', e1, e2⟩ := ms_lay (d := d + 57) (x := 0) hI ds' hc.1 hc.2 N hN hfq
      rw [kp_0] at e2
      have hf' := hfq.spm e2
      have cm' := hf'.cm hI
      have g3 := m_stumble (d := d + 58) cm' e2.2.2.1 e2.2.2.2 (by rw [hlen]; omega)
      rw [hf'.c] at g3
      have z0 : mrd h' 235 0 = 0 := by rw [e2.2.1 _ _ (by decide) (by omega)]; exact q00.1
      have z11 : mrd h' 0 11 = mrd h1 0 11 := by rw [e2.2.1 _ _ (by decide) (by omega)]; exact q00.2
      generalize stL (mrd h 240 3) (kp (fun _ => false) (fun p => LT h a0 p) N) = R at g3 hr
      by_cases cr : R < 0
      · have er := hr.2.2 cr
        subst er
        refine ⟨mwr h' 235 0 8, ?_, hf'.wr Scr_m0 (by omega), rde, by rw [rdn1 (by decide)]; exact z11⟩
        simp only [e276_0, e276_1, e276_2, e276_5, e276_6, e276_7, e276_10, e276_11, e276_12, e276_15, e276_18, e276_19, e276_20, e276_23, e276_24, e276_25, e276_26, e276_27, e276_30, e276_31, e276_34, e276_35, e276_36, e276_39, e276_40, e276_42, e276_45, e276_48, e276_49, psh0, psh1, psh3, true_or, or_true, eq_self, Option.bind_some, List.length_nil, List.length_cons, Nat.reduceAdd, Nat.reduceLeDiff, Nat.zero_le, ↓reduceIte, Int.reduceLT, Int.reduceEq, Int.reduceLE, Int.reduceNeg, Int.reduceAdd, Int.reduceMul, Int.reduceSub, ne_eq, not_true_eq_false, not_false_eq_true, and_true, true_and, and_false, false_and, c3lt, c3gt, c3eq, Bool.false_eq_true, isK_wr, inA_wr, inR_wr, cm1.1, hl, e1, cm'.1, g3, m_refuse]
      · have cn : ¬ R = -1 := by omega
        refine ⟨h', ?_, hf', by rw [if_neg cn]; exact z0, z11⟩
        simp only [e276_0, e276_1, e276_2, e276_5, e276_6, e276_7, e276_10, e276_11, e276_12, e276_15, e276_18, e276_19, e276_20, e276_23, e276_24, e276_25, e276_26, e276_27, e276_30, e276_31, e276_34, e276_35, e276_36, e276_39, e276_40, e276_42, e276_45, e276_48, e276_49, psh0, psh1, psh3, true_or, or_true, eq_self, Option.bind_some, List.length_nil, List.length_cons, Nat.reduceAdd, Nat.reduceLeDiff, Nat.zero_le, ↓reduceIte, Int.reduceLT, Int.reduceEq, Int.reduceLE, Int.reduceNeg, Int.reduceAdd, Int.reduceMul, Int.reduceSub, ne_eq, not_true_eq_false, not_false_eq_true, and_true, true_and, and_false, false_and, c3lt, c3gt, c3eq, Bool.false_eq_true, isK_wr, inA_wr, inR_wr, cm1.1, hl, e1, cm'.1, g3, cr]
  · have hl := fun v => m_isChildAt_q (d := d + 58) (k := a0) hI v
    simp only [hc, if_false] at hl hx
    refine opq hI (-1) 2 ?_ ?_
    · simp only [e130_0, e130_1, e130_4, e130_5, e130_8, e130_11, e130_12, e130_13, e130_16, e130_17, e130_18, e130_21, e130_24, e130_25, e130_28, e130_29, e130_32, e130_35, e130_36, e130_37, e130_38, e130_41, e130_42, e130_43, e130_46, e130_49, e130_50, e130_53, e130_56, e130_59, e130_62, psh0, psh1, psh3, true_or, or_true, eq_self, Option.bind_some, List.length_nil, List.length_cons, Nat.reduceAdd, Nat.reduceLeDiff, Nat.zero_le, ↓reduceIte, Int.reduceLT, Int.reduceEq, Int.reduceLE, Int.reduceNeg, Int.reduceAdd, Int.reduceMul, Int.reduceSub, ne_eq, not_true_eq_false, not_false_eq_true, and_true, true_and, and_false, false_and, c3lt, c3gt, c3eq, Bool.false_eq_true, isK_wr, inA_wr, inR_wr, k0, e8, ks, x_refuse, hx]
    · simp only [e276_0, e276_1, e276_2, e276_5, e276_6, e276_7, e276_10, e276_11, e276_12, e276_15, e276_18, e276_19, e276_20, e276_23, e276_24, e276_25, e276_26, e276_27, e276_30, e276_31, e276_34, e276_35, e276_36, e276_39, e276_40, e276_42, e276_45, e276_48, e276_49, psh0, psh1, psh3, true_or, or_true, eq_self, Option.bind_some, List.length_nil, List.length_cons, Nat.reduceAdd, Nat.reduceLeDiff, Nat.zero_le, ↓reduceIte, Int.reduceLT, Int.reduceEq, Int.reduceLE, Int.reduceNeg, Int.reduceAdd, Int.reduceMul, Int.reduceSub, ne_eq, not_true_eq_false, not_false_eq_true, and_true, true_and, and_false, false_and, c3lt, c3gt, c3eq, Bool.false_eq_true, isK_wr, inA_wr, inR_wr, kM, hl, m_refuse, wrwr]

section
variable {d : Nat} {h h1 : AM} {s a b c k p v w x y z : Int}
theorem x_tooMany_loop (k7 : isK h (s + 4) 9) (r4 : mrd h (s + 4) 0 = s + 5) (k8 : isK h (s + 5) 18) (k9 : mln h (s + 5) = 12) (N : Nat) (hN : mrd h (s + 4) 1 = N) (N12 : N ≤ 12) (n : Nat) : ∀ i : Nat, i + n = N → EV d 102 7 [(2, s + 4), (0, x), (0, rnF (fun p => mrd h (s + 5) p) i), (0, cP (ovr x (fun p => mrd h (s + 5) p)) i), (0, (i : Int))] [] h = some ((0, cP (ovr x (fun p => mrd h (s + 5) p)) N), h) := by
  induction n with
  | zero =>
    intro i hi
    have e : i = N := by omega
    subst e
    rw [e102_7]
    simp only [e102_0, e102_1, e102_2, e102_3, e102_4, e102_5, e102_9, e102_10, e102_13, e102_16, e102_18, e102_21, e102_22, e102_25, e102_27, e102_27z, e102_28, e102_29, e102_32, e102_34, e102_35, e102_36, e102_36z, e102_37, e102_40, e102_41, e102_42, e102_43, e102_46, e102_47, e102_48, e102_49, e102_50, e102_53, e102_56, e102_59, e102_62, e102_63, psh0, psh1, psh3, true_or, or_true, eq_self, Option.bind_some, List.length_nil, List.length_cons, Nat.reduceAdd, Nat.reduceLeDiff, Nat.zero_le, ↓reduceIte, Int.reduceLT, Int.reduceEq, Int.reduceLE, Int.reduceNeg, Int.reduceAdd, Int.reduceMul, Int.reduceSub, ne_eq, not_true_eq_false, not_false_eq_true, and_true, true_and, and_false, false_and, c3lt, c3gt, c3eq, Bool.false_eq_true, isK_wr, inA_wr, inR_wr, k7, hN, Int.lt_irrefl]
  | succ n ih =>
    intro i hi
    have ci : (i : Int) < N := by omega
    have w1 : w32 ((i : Int) + 1) = ((i + 1 : Nat) : Int) := by rw [w32_id (by omega) (by omega)]; omega
    have rp := rnF_pos (fun p => mrd h (s + 5) p) i
    have g3 := cP_rng (ovr x (fun p => mrd h (s + 5) p)) i
    have w2 : w32 (rnF (fun p => mrd h (s + 5) p) i + 1) = rnF (fun p => mrd h (s + 5) p) i + 1 := w32_id (by omega) (by omega)
    have w4 : w32 (cP (ovr x (fun p => mrd h (s + 5) p)) i + 1) = cP (ovr x (fun p => mrd h (s + 5) p)) i + 1 := w32_id (by omega) (by omega)
    have i1 : inA h (s + 5) 18 i := ⟨k8, by omega, by rw [k9]; omega⟩
    have ih' := ih (i + 1) (by omega)
    have er : rnF (fun p => mrd h (s + 5) p) (i + 1) = if 0 < i ∧ mrd h (s + 5) i = mrd h (s + 5) ((i - 1 : Nat) : Int) then rnF (fun p => mrd h (s + 5) p) i + 1 else 1 := rfl
    have eo : cP (ovr x (fun p => mrd h (s + 5) p)) (i + 1) = cP (ovr x (fun p => mrd h (s + 5) p)) i + if x < rnF (fun p => mrd h (s + 5) p) (i + 1) then 1 else 0 := by
      rw [cP]
      unfold ovr
      simp only [decide_eq_true_eq]
    rw [eo, er] at ih'
    rw [e102_7]
    by_cases c0 : 0 < i
    · have c0' : (0 : Int) < (i : Int) := by omega
      have w3 : w32 ((i : Int) - 1) = ((i - 1 : Nat) : Int) := by rw [w32_id (by omega) (by omega)]; omega
      have i2 : inA h (s + 5) 18 ((i - 1 : Nat) : Int) := ⟨k8, by omega, by rw [k9]; omega⟩
      by_cases ce : mrd h (s + 5) i = mrd h (s + 5) ((i - 1 : Nat) : Int)
      · rw [if_pos ⟨c0, ce⟩] at ih'
        by_cases cs : x < rnF (fun p => mrd h (s + 5) p) i + 1
        · rw [if_pos cs] at ih'
          simp only [e102_0, e102_1, e102_2, e102_3, e102_4, e102_5, e102_9, e102_10, e102_13, e102_16, e102_18, e102_21, e102_22, e102_25, e102_27, e102_27z, e102_28, e102_29, e102_32, e102_34, e102_35, e102_36, e102_36z, e102_37, e102_40, e102_41, e102_42, e102_43, e102_46, e102_47, e102_48, e102_49, e102_50, e102_53, e102_56, e102_59, e102_62, e102_63, psh0, psh1, psh3, true_or, or_true, eq_self, Option.bind_some, List.length_nil, List.length_cons, Nat.reduceAdd, Nat.reduceLeDiff, Nat.zero_le, ↓reduceIte, Int.reduceLT, Int.reduceEq, Int.reduceLE, Int.reduceNeg, Int.reduceAdd, Int.reduceMul, Int.reduceSub, ne_eq, not_true_eq_false, not_false_eq_true, and_true, true_and, and_false, false_and, c3lt, c3gt, c3eq, Bool.false_eq_true, isK_wr, inA_wr, inR_wr, k7, hN, ci, c0', r4, i1, i2, w1, w2, w3, w4, ce, cs]
          exact ih'
        · rw [if_neg cs, Int.add_zero] at ih'
          simp only [e102_0, e102_1, e102_2, e102_3, e102_4, e102_5, e102_9, e102_10, e102_13, e102_16, e102_18, e102_21, e102_22, e102_25, e102_27, e102_27z, e102_28, e102_29, e102_32, e102_34, e102_35, e102_36, e102_36z, e102_37, e102_40, e102_41, e102_42, e102_43, e102_46, e102_47, e102_48, e102_49, e102_50, e102_53, e102_56, e102_59, e102_62, e102_63, psh0, psh1, psh3, true_or, or_true, eq_self, Option.bind_some, List.length_nil, List.length_cons, Nat.reduceAdd, Nat.reduceLeDiff, Nat.zero_le, ↓reduceIte, Int.reduceLT, Int.reduceEq, Int.reduceLE, Int.reduceNeg, Int.reduceAdd, Int.reduceMul, Int.reduceSub, ne_eq, not_true_eq_false, not_false_eq_true, and_true, true_and, and_false, false_and, c3lt, c3gt, c3eq, Bool.false_eq_true, isK_wr, inA_wr, inR_wr, k7, hN, ci, c0', r4, i1, i2, w1, w2, w3, ce, cs]
          exact ih'
      · rw [if_neg (fun z => ce z.2)] at ih'
        by_cases cs : x < 1
        · rw [if_pos cs] at ih'
          simp only [e102_0, e102_1, e102_2, e102_3, e102_4, e102_5, e102_9, e102_10, e102_13, e102_16, e102_18, e102_21, e102_22, e102_25, e102_27, e102_27z, e102_28, e102_29, e102_32, e102_34, e102_35, e102_36, e102_36z, e102_37, e102_40, e102_41, e102_42, e102_43, e102_46, e102_47, e102_48, e102_49, e102_50, e102_53, e102_56, e102_59, e102_62, e102_63, psh0, psh1, psh3, true_or, or_true, eq_self, Option.bind_some, List.length_nil, List.length_cons, Nat.reduceAdd, Nat.reduceLeDiff, Nat.zero_le, ↓reduceIte, Int.reduceLT, Int.reduceEq, Int.reduceLE, Int.reduceNeg, Int.reduceAdd, Int.reduceMul, Int.reduceSub, ne_eq, not_true_eq_false, not_false_eq_true, and_true, true_and, and_false, false_and, c3lt, c3gt, c3eq, Bool.false_eq_true, isK_wr, inA_wr, inR_wr, k7, hN, ci, c0', r4, i1, i2, w1, w3, w4, ce, cs]
          exact ih'
        · rw [if_neg cs, Int.add_zero] at ih'
          simp only [e102_0, e102_1, e102_2, e102_3, e102_4, e102_5, e102_9, e102_10, e102_13, e102_16, e102_18, e102_21, e102_22, e102_25, e102_27, e102_27z, e102_28, e102_29, e102_32, e102_34, e102_35, e102_36, e102_36z, e102_37, e102_40, e102_41, e102_42, e102_43, e102_46, e102_47, e102_48, e102_49, e102_50, e102_53, e102_56, e102_59, e102_62, e102_63, psh0, psh1, psh3, true_or, or_true, eq_self, Option.bind_some, List.length_nil, List.length_cons, Nat.reduceAdd, Nat.reduceLeDiff, Nat.zero_le, ↓reduceIte, Int.reduceLT, Int.reduceEq, Int.reduceLE, Int.reduceNeg, Int.reduceAdd, Int.reduceMul, Int.reduceSub, ne_eq, not_true_eq_false, not_false_eq_true, and_true, true_and, and_false, false_and, c3lt, c3gt, c3eq, Bool.false_eq_true, isK_wr, inA_wr, inR_wr, k7, hN, ci, c0', r4, i1, i2, w1, w3, ce, cs]
          exact ih'
    · have c0' : ¬ (0 : Int) < (i : Int) := by omega
      rw [if_neg (fun z => c0 z.1)] at ih'
      by_cases cs : x < 1
      · rw [if_pos cs] at ih'
        simp only [e102_0, e102_1, e102_2, e102_3, e102_4, e102_5, e102_9, e102_10, e102_13, e102_16, e102_18, e102_21, e102_22, e102_25, e102_27, e102_27z, e102_28, e102_29, e102_32, e102_34, e102_35, e102_36, e102_36z, e102_37, e102_40, e102_41, e102_42, e102_43, e102_46, e102_47, e102_48, e102_49, e102_50, e102_53, e102_56, e102_59, e102_62, e102_63, psh0, psh1, psh3, true_or, or_true, eq_self, Option.bind_some, List.length_nil, List.length_cons, Nat.reduceAdd, Nat.reduceLeDiff, Nat.zero_le, ↓reduceIte, Int.reduceLT, Int.reduceEq, Int.reduceLE, Int.reduceNeg, Int.reduceAdd, Int.reduceMul, Int.reduceSub, ne_eq, not_true_eq_false, not_false_eq_true, and_true, true_and, and_false, false_and, c3lt, c3gt, c3eq, Bool.false_eq_true, isK_wr, inA_wr, inR_wr, k7, hN, ci, c0', w1, w4, cs]
        exact ih'
      · rw [if_neg cs, Int.add_zero] at ih'
        simp only [e102_0, e102_1, e102_2, e102_3, e102_4, e102_5, e102_9, e102_10, e102_13, e102_16, e102_18, e102_21, e102_22, e102_25, e102_27, e102_27z, e102_28, e102_29, e102_32, e102_34, e102_35, e102_36, e102_36z, e102_37, e102_40, e102_41, e102_42, e102_43, e102_46, e102_47, e102_48, e102_49, e102_50, e102_53, e102_56, e102_59, e102_62, e102_63, psh0, psh1, psh3, true_or, or_true, eq_self, Option.bind_some, List.length_nil, List.length_cons, Nat.reduceAdd, Nat.reduceLeDiff, Nat.zero_le, ↓reduceIte, Int.reduceLT, Int.reduceEq, Int.reduceLE, Int.reduceNeg, Int.reduceAdd, Int.reduceMul, Int.reduceSub, ne_eq, not_true_eq_false, not_false_eq_true, and_true, true_and, and_false, false_and, c3lt, c3gt, c3eq, Bool.false_eq_true, isK_wr, inA_wr, inR_wr, k7, hN, ci, c0', w1, cs]
        exact ih'
theorem ovr_congr {so : Int} {v v' : Nat → Int} : ∀ n, (∀ j, j < n → v j = v' j) → cP (ovr so v) n = cP (ovr so v') n := fun n h => cP_eq n (fun i hi => by
  unfold ovr
  rw [rnF_congr (i + 1) (fun j hj => h j (by omega))])
theorem x_tooMany {h0 : AM} (hs0 : CS h0 s) (f : Nat → Int) (N : Nat) (N12 : N ≤ 12) (hsp : SpX h0 h s (kp (fun _ => false) f N)) : EV d 102 0 [(2, s + 4), (0, x), (3, 0), (3, 0), (3, 0)] [] h = some ((0, cP (ovr x (fun p => vow (f p))) N), h) := by
  obtain ⟨ks, -, r1, r2, r3, r4, -, -, k7, k8, k9, kl, kc⟩ := CS_cong hsp.1 hsp.2.1 hs0
  refine Eq.trans ?_ ((x_tooMany_loop (d := d) (x := x) k7 r4 k8 k9 N (by rw [hsp.2.2.1, kp_none]) N12 N 0 (by omega)).trans ?_)
  · simp only [e102_0, e102_1, e102_2, e102_3, e102_4, e102_5, e102_9, e102_10, e102_13, e102_16, e102_18, e102_21, e102_22, e102_25, e102_27, e102_27z, e102_28, e102_29, e102_32, e102_34, e102_35, e102_36, e102_36z, e102_37, e102_40, e102_41, e102_42, e102_43, e102_46, e102_47, e102_48, e102_49, e102_50, e102_53, e102_56, e102_59, e102_62, e102_63, psh0, psh1, psh3, true_or, or_true, eq_self, Option.bind_some, List.length_nil, List.length_cons, Nat.reduceAdd, Nat.reduceLeDiff, Nat.zero_le, ↓reduceIte, Int.reduceLT, Int.reduceEq, Int.reduceLE, Int.reduceNeg, Int.reduceAdd, Int.reduceMul, Int.reduceSub, ne_eq, not_true_eq_false, not_false_eq_true, and_true, true_and, and_false, false_and, c3lt, c3gt, c3eq, Bool.false_eq_true, isK_wr, inA_wr, inR_wr]
    rfl
  · rw [ovr_congr N (fun j hj => by rw [hsp.2.2.2 j (by rw [kp_none]; exact hj), kp_getD _ _ _ hj])]
theorem shl_pow : ∀ n, n < 13 → i_shl 1 ((n : Nat) : Int) = ((2 ^ n : Nat) : Int) := by decide +kernel
theorem pow_13 {n : Nat} (hn : n ≤ 12) : 2 ^ n ≤ 4096 := Nat.le_trans (Nat.pow_le_pow_right (by decide) hn) (by decide)
noncomputable def drS (so : Int) (f : Nat → Int) (N : Nat) : Nat → Bool := fun t => decide (sdB so (kp (fun p => bI (t : Int) p) f N) = 1)
def drZ : Nat → Int := fun t => cB (t : Int) 12
theorem ms_drop_loop (hI : Inv h) (ds : DS h s) (k0 : 0 ≤ k) (k1 : k < mrd h 240 2) (N : Nat) (hN : mrd h 240 (76 + k) = N) (n : Nat) : ∀ (t : Nat) (h1 : AM), t + n = 2 ^ N → SF h h1 → ∃ h', EV (d + 4) 277 46 [(2, 235), (0, k), (0, (N : Int)), (0, drF (drS (mrd h 240 3) (fun p => LT h k p) N) drZ N t), (0, (t : Int))] [] h1 = some ((0, drF (drS (mrd h 240 3) (fun p => LT h k p) N) drZ N (2 ^ N)), h') ∧ VM h1 h' := by
  have b12 := (MC_of ds k0 k1).2.1
  have eN := shl_pow N (by omega)
  have hp := pow_13 (n := N) (by omega)
  induction n with
  | zero =>
    intro t h1 ht hf
    have e : t = 2 ^ N := by omega
    refine ⟨h1, ?_, VM.rf⟩
    rw [e277_46, e]
    simp only [e277_0, e277_1, e277_2, e277_5, e277_6, e277_7, e277_10, e277_11, e277_12, e277_15, e277_18, e277_19, e277_20, e277_23, e277_24, e277_25, e277_26, e277_29, e277_30, e277_31, e277_34, e277_35, e277_37, e277_40, e277_41, e277_42, e277_43, e277_44, e277_48, e277_49, e277_50, e277_51, e277_54, e277_56, e277_59, e277_60, e277_63, e277_64, e277_65, e277_67, e277_70, e277_73, e277_75, e277_78, e277_79, e277_82, e277_85, e277_86, psh0, psh1, psh3, true_or, or_true, eq_self, Option.bind_some, List.length_nil, List.length_cons, Nat.reduceAdd, Nat.reduceLeDiff, Nat.zero_le, ↓reduceIte, Int.reduceLT, Int.reduceEq, Int.reduceLE, Int.reduceNeg, Int.reduceAdd, Int.reduceMul, Int.reduceSub, ne_eq, not_true_eq_false, not_false_eq_true, and_true, true_and, and_false, false_and, c3lt, c3gt, c3eq, Bool.false_eq_true, isK_wr, inA_wr, inR_wr, eN, Int.lt_irrefl]
  | succ n ih =>
    intro t h1 ht hf
    have cm := hf.cm hI
    have ci : (t : Int) < ((2 ^ N : Nat) : Int) := by omega
    have w1 : w32 ((t : Int) + 1) = ((t + 1 : Nat) : Int) := by rw [w32_id (by omega) (by omega)]; omega
    have gs := fun g => m_sizeOf (d := d + 2) (h := g) (x := (t : Int))
    by_cases cz : cB (t : Int) 12 < drF (drS (mrd h 240 3) (fun p => LT h k p) N) drZ N t
    · obtain ⟨h2, e1, e2⟩ := ms_said (d := d) (x := (t : Int)) hI ds k0 k1 N hN hf
      have h01 := sdB_01 (mrd h 240 3) (kp (fun p => bI (t : Int) p) (fun p => LT h k p) N)
      have cm2 := CM_spm cm e2
      rcases h01 with hb | hb
      · have es : drF (drS (mrd h 240 3) (fun p => LT h k p) N) drZ N (t + 1) = drF (drS (mrd h 240 3) (fun p => LT h k p) N) drZ N t := by
          rw [drF, if_neg]
          rintro ⟨-, z⟩
          have := of_decide_eq_true z
          omega
        obtain ⟨h3, e3, e4⟩ := ih (t + 1) h2 (by omega) (hf.spm e2)
        rw [es] at e3
        rw [hb] at e1
        refine ⟨h3, ?_, e2.vm.trans e4⟩
        rw [← e3, e277_46]
        simp only [e277_0, e277_1, e277_2, e277_5, e277_6, e277_7, e277_10, e277_11, e277_12, e277_15, e277_18, e277_19, e277_20, e277_23, e277_24, e277_25, e277_26, e277_29, e277_30, e277_31, e277_34, e277_35, e277_37, e277_40, e277_41, e277_42, e277_43, e277_44, e277_48, e277_49, e277_50, e277_51, e277_54, e277_56, e277_59, e277_60, e277_63, e277_64, e277_65, e277_67, e277_70, e277_73, e277_75, e277_78, e277_79, e277_82, e277_85, e277_86, psh0, psh1, psh3, true_or, or_true, eq_self, Option.bind_some, List.length_nil, List.length_cons, Nat.reduceAdd, Nat.reduceLeDiff, Nat.zero_le, ↓reduceIte, Int.reduceLT, Int.reduceEq, Int.reduceLE, Int.reduceNeg, Int.reduceAdd, Int.reduceMul, Int.reduceSub, ne_eq, not_true_eq_false, not_false_eq_true, and_true, true_and, and_false, false_and, c3lt, c3gt, c3eq, Bool.false_eq_true, isK_wr, inA_wr, inR_wr, eN, ci, gs, cz, cm.1, e1, w1]
      · have es : drF (drS (mrd h 240 3) (fun p => LT h k p) N) drZ N (t + 1) = cB (t : Int) 12 := by
          rw [drF, if_pos ⟨cz, decide_eq_true hb⟩]
          rfl
        obtain ⟨h3, e3, e4⟩ := ih (t + 1) h2 (by omega) (hf.spm e2)
        rw [es] at e3
        rw [hb] at e1
        refine ⟨h3, ?_, e2.vm.trans e4⟩
        rw [← e3, e277_46]
        simp only [e277_0, e277_1, e277_2, e277_5, e277_6, e277_7, e277_10, e277_11, e277_12, e277_15, e277_18, e277_19, e277_20, e277_23, e277_24, e277_25, e277_26, e277_29, e277_30, e277_31, e277_34, e277_35, e277_37, e277_40, e277_41, e277_42, e277_43, e277_44, e277_48, e277_49, e277_50, e277_51, e277_54, e277_56, e277_59, e277_60, e277_63, e277_64, e277_65, e277_67, e277_70, e277_73, e277_75, e277_78, e277_79, e277_82, e277_85, e277_86, psh0, psh1, psh3, true_or, or_true, eq_self, Option.bind_some, List.length_nil, List.length_cons, Nat.reduceAdd, Nat.reduceLeDiff, Nat.zero_le, ↓reduceIte, Int.reduceLT, Int.reduceEq, Int.reduceLE, Int.reduceNeg, Int.reduceAdd, Int.reduceMul, Int.reduceSub, ne_eq, not_true_eq_false, not_false_eq_true, and_true, true_and, and_false, false_and, c3lt, c3gt, c3eq, Bool.false_eq_true, isK_wr, inA_wr, inR_wr, eN, ci, gs, cz, cm.1, e1, w1]
    · have es : drF (drS (mrd h 240 3) (fun p => LT h k p) N) drZ N (t + 1) = drF (drS (mrd h 240 3) (fun p => LT h k p) N) drZ N t := by
        rw [drF, if_neg (fun z => cz z.1)]
      obtain ⟨h3, e3, e4⟩ := ih (t + 1) h1 (by omega) hf
      rw [es] at e3
      refine ⟨h3, ?_, e4⟩
      rw [← e3, e277_46]
      simp only [e277_0, e277_1, e277_2, e277_5, e277_6, e277_7, e277_10, e277_11, e277_12, e277_15, e277_18, e277_19, e277_20, e277_23, e277_24, e277_25, e277_26, e277_29, e277_30, e277_31, e277_34, e277_35, e277_37, e277_40, e277_41, e277_42, e277_43, e277_44, e277_48, e277_49, e277_50, e277_51, e277_54, e277_56, e277_59, e277_60, e277_63, e277_64, e277_65, e277_67, e277_70, e277_73, e277_75, e277_78, e277_79, e277_82, e277_85, e277_86, psh0, psh1, psh3, true_or, or_true, eq_self, Option.bind_some, List.length_nil, List.length_cons, Nat.reduceAdd, Nat.reduceLeDiff, Nat.zero_le, ↓reduceIte, Int.reduceLT, Int.reduceEq, Int.reduceLE, Int.reduceNeg, Int.reduceAdd, Int.reduceMul, Int.reduceSub, ne_eq, not_true_eq_false, not_false_eq_true, and_true, true_and, and_false, false_and, c3lt, c3gt, c3eq, Bool.false_eq_true, isK_wr, inA_wr, inR_wr, eN, ci, gs, cz, w1]
end
theorem cP_mono (P : Nat → Bool) (n : Nat) : ∀ m, cP P n ≤ cP P (n + m)
  | 0 => Int.le_refl _
  | m + 1 => by
    have := cP_mono P n m
    rw [← Nat.add_assoc, cP]
    split <;> omega
theorem sdB_1 {so : Int} {l : List Int} : sdB so l = 1 ↔ 0 < l.length ∧ okL so l := by
  unfold sdB
  rw [← stL_iff]
  constructor
  · intro h
    by_cases c : 0 < l.length ∧ stL so l = -1
    · exact c
    · rw [if_neg c] at h; cases h
  · intro h; rw [if_pos h]
theorem drop_eq {so : Int} (s1 : 1 ≤ so) (f : Nat → Int) (N : Nat) (n0 : 0 < N) (n1 : N ≤ 12) : drF (drS so f N) drZ N (2 ^ N) = cP (ovr so (fun p => vow (f p))) N := by
  have hr := cP_rng (ovr so (fun p => vow (f p))) N
  have hp := pow_13 n1
  refine Int.le_antisymm ?_ (drF_low hr.2 _ (fun t ht hS => ?_))
  · have hb := fun i => sF_bit (ovr so (fun p => vow (f p))) N i (by omega)
    have hx := bI_rng (n := N) (sF_in (ovr so (fun p => vow (f p))) N) (by omega) (fun i h0 _ => by rw [hb, decide_eq_false (by omega), Bool.false_and])
    generalize hX : sF (ovr so (fun p => vow (f p))) N = X at hb hx
    obtain ⟨t, rfl⟩ := Int.eq_ofNat_of_zero_le hx.1
    have ht : t < 2 ^ N := by
      have : ((2 ^ N : Nat) : Int) = (2 : Int) ^ N := by push_cast; rfl
      have h2 := hx.2
      rw [← this] at h2
      exact Int.ofNat_lt.mp h2
    have hS : drS so f N t = true := by
      refine decide_eq_true (sdB_1.mpr ?_)
      have e : kp (fun p => bI ((t : Nat) : Int) p) f N = kp (ovr so (fun p => vow (f p))) f N := kp_congr N (fun i hi => by
        show bI ((t : Nat) : Int) i = _
        rw [hb, decide_eq_true hi, Bool.true_and]) (fun _ _ => rfl)
      rw [e]
      exact ⟨((drop_up s1 N).2 n0).1, (drop_up s1 N).1⟩
    refine Int.le_trans ((drF_mono (2 ^ N)).2 t ht hS) (Int.le_of_eq ?_)
    show cB ((t : Nat) : Int) 12 = _
    have e1 : cB ((t : Nat) : Int) 12 = cP (fun l => decide (l < N) && ovr so (fun p => vow (f p)) l) 12 := cB_cP 12 (fun i _ => hb i)
    rw [e1, show 12 = N + (12 - N) by omega, cP_ext (12 - N) (fun i h0 _ => by rw [decide_eq_false (by omega)]; rfl)]
    exact cP_eq N (fun i hi => by rw [decide_eq_true hi, Bool.true_and])
  · have hs := sdB_1.mp (of_decide_eq_true hS)
    have hl := drop_low s1 N hs.2
    have e1 : drZ t = cP (fun l => bI (t : Int) l) 12 := cB_cP 12 (fun _ _ => rfl)
    have hm := cP_mono (fun l => bI (t : Int) l) N (12 - N)
    rw [show N + (12 - N) = 12 by omega] at hm
    have rp := rnF_pos (fun p => vow (f p)) N
    rw [e1]
    rcases hl with ⟨z, -⟩ | ⟨-, ⟨-, -, z3, -⟩ | ⟨-, z2⟩⟩
    · omega
    · omega
    · split at z2 <;> omega
theorem op_drop : Op_drop Inv := by
  intro d h a0 hI i0
  obtain ⟨s, e8, hs, k0, kM, cs, ds⟩ := ctx hI
  have ds' := ds
  have ks := cs.1
  have r1 := cs.2.2.1
  have r2 := cs.2.2.2.1
  have r3 := cs.2.2.2.2.1
  have kl := cs.2.2.2.2.2.2.2.2.2.2.2.1
  have kc := cs.2.2.2.2.2.2.2.2.2.2.2.2
  obtain ⟨d5, d6, d7, d8, dl, dc⟩ := ds
  have hm : ∀ v, CM (mwr (mwr (mwr h 0 11 v) 235 1 0) 235 0 0) := fun v => CM_q (CM_of hI)
  have hx := x_hasChild_q (d := d + 59) (k := a0) ks d7.1
  by_cases hc : 0 ≤ a0 ∧ a0 < mrd h 240 2
  · simp only [hc, and_self, if_true] at hx
    obtain ⟨t1, t2, t3, t4, t5, t6⟩ := kc a0 hc.1 (by omega)
    obtain ⟨q1, q2, q3, q4, q5, q6, q7⟩ := dc a0 hc.1 hc.2
    obtain ⟨N, hN⟩ : ∃ N : Nat, mrd h 240 (76 + a0) = N := ⟨(mrd h 240 (76 + a0)).toNat, by omega⟩
    have q4' : mrd h (s + 25 + 2 * a0) 6 = N := by rw [q4.1, hN]
    by_cases cN : N = 0
    · subst cN
      refine opSF hI (-1) 8 ⟨mwr h 0 11 8, ?_, (SF.rf hI).wr Scr_st (by omega), rde⟩ (fun h1 hf1 => ?_)
      · simp only [e131_0, e131_1, e131_4, e131_5, e131_8, e131_11, e131_12, e131_13, e131_16, e131_17, e131_18, e131_21, e131_24, e131_25, e131_26, e131_27, e131_28, e131_31, e131_34, e131_35, e131_37, e131_40, e131_41, e131_42, e131_45, e131_48, e131_49, e131_52, e131_53, e131_54, e131_57, e131_58, e131_59, e131_62, e131_65, e131_66, e131_69, e131_72, e131_75, e131_78, psh0, psh1, psh3, true_or, or_true, eq_self, Option.bind_some, List.length_nil, List.length_cons, Nat.reduceAdd, Nat.reduceLeDiff, Nat.zero_le, ↓reduceIte, Int.reduceLT, Int.reduceEq, Int.reduceLE, Int.reduceNeg, Int.reduceAdd, Int.reduceMul, Int.reduceSub, ne_eq, not_true_eq_false, not_false_eq_true, and_true, true_and, and_false, false_and, c3lt, c3gt, c3eq, Bool.false_eq_true, isK_wr, inA_wr, inR_wr, k0, e8, ks, r2, hx, t1, t2, t3, q4', Int.natCast_zero, x_refuse]
      · have cm1 := hf1.cm hI
        have hfq : SF h (mwr (mwr h1 235 1 0) 235 0 0) := hf1.q
        have hl := m_isChildAt_s (d := d + 58) (k := a0) hI hfq
        rw [if_pos hc] at hl
        have gl := m_lengthOf (d := d + 59) (hfq.cm hI) hc.1 (show a0 < 4 by omega)
        rw [hfq.c, hN] at gl
        refine ⟨mwr (mwr (mwr h1 235 1 0) 235 0 0) 235 0 8, ?_, hfq.wr Scr_m0 (by omega), rde, by rw [rdn1 (by decide)]; exact q00.2⟩
        simp only [e277_0, e277_1, e277_2, e277_5, e277_6, e277_7, e277_10, e277_11, e277_12, e277_15, e277_18, e277_19, e277_20, e277_23, e277_24, e277_25, e277_26, e277_29, e277_30, e277_31, e277_34, e277_35, e277_37, e277_40, e277_41, e277_42, e277_43, e277_44, e277_48, e277_49, e277_50, e277_51, e277_54, e277_56, e277_59, e277_60, e277_63, e277_64, e277_65, e277_67, e277_70, e277_73, e277_75, e277_78, e277_79, e277_82, e277_85, e277_86, psh0, psh1, psh3, true_or, or_true, eq_self, Option.bind_some, List.length_nil, List.length_cons, Nat.reduceAdd, Nat.reduceLeDiff, Nat.zero_le, ↓reduceIte, Int.reduceLT, Int.reduceEq, Int.reduceLE, Int.reduceNeg, Int.reduceAdd, Int.reduceMul, Int.reduceSub, ne_eq, not_true_eq_false, not_false_eq_true, and_true, true_and, and_false, false_and, c3lt, c3gt, c3eq, Bool.false_eq_true, isK_wr, inA_wr, inR_wr, cm1.1, hl, gl, Int.natCast_zero, m_refuse]
    · have cN' : ¬ (N : Int) = 0 := by omega
      refine opSF hI (cP (ovr (mrd h 240 3) (fun p => vow (LT h a0 p))) N) 0 ?_ ?_
      · obtain ⟨h', e1, e2⟩ := xs_spell (d := d + 59) (w := -1) hI hs ds' hc.1 hc.2 N hN (SF.rf hI)
        rw [kp_m1] at e2
        have hf := (SF.rf hI).spx hs e2
        have kk := hf.k0
        have ee8 : mrd h' 0 8 = s := hf.e8.trans e8
        obtain ⟨ks', -, r1', r2', r3', r4', -, -, k7', -⟩ := CS_cong e2.1 e2.2.1 cs
        have s8 : mrd h' s 8 = mrd h 240 3 := by rw [e2.2.1 _ _ (by omega) (by omega), d8.1]
        have g3 := x_tooMany (d := d + 59) (x := mrd h 240 3) cs (fun p => LT h a0 p) N (by omega) e2
        have k7 := cs.2.2.2.2.2.2.2.2.1
        refine ⟨mwr h' 0 11 _, ?_, hf.wr Scr_st (by omega), rde⟩
        simp only [e131_0, e131_1, e131_4, e131_5, e131_8, e131_11, e131_12, e131_13, e131_16, e131_17, e131_18, e131_21, e131_24, e131_25, e131_26, e131_27, e131_28, e131_31, e131_34, e131_35, e131_37, e131_40, e131_41, e131_42, e131_45, e131_48, e131_49, e131_52, e131_53, e131_54, e131_57, e131_58, e131_59, e131_62, e131_65, e131_66, e131_69, e131_72, e131_75, e131_78, psh0, psh1, psh3, true_or, or_true, eq_self, Option.bind_some, List.length_nil, List.length_cons, Nat.reduceAdd, Nat.reduceLeDiff, Nat.zero_le, ↓reduceIte, Int.reduceLT, Int.reduceEq, Int.reduceLE, Int.reduceNeg, Int.reduceAdd, Int.reduceMul, Int.reduceSub, ne_eq, not_true_eq_false, not_false_eq_true, and_true, true_and, and_false, false_and, c3lt, c3gt, c3eq, Bool.false_eq_true, isK_wr, inA_wr, inR_wr, k0, e8, ks, r2, r3, k7, hx, t1, t2, t3, q4', cN', e1, kk, ee8, ks', r3', k7', s8, g3, x_answer]
      · intro h1 hf1
        have cm1 := hf1.cm hI
        have hfq : SF h (mwr (mwr h1 235 1 0) 235 0 0) := hf1.q
        have hl := m_isChildAt_s (d := d + 58) (k := a0) hI hfq
        rw [if_pos hc] at hl
        have gl := m_lengthOf (d := d + 59) (hfq.cm hI) hc.1 (show a0 < 4 by omega)
        rw [hfq.c, hN] at gl
        obtain ⟨h', e1, e2⟩ := ms_drop_loop (d := d + 56) hI ds' hc.1 hc.2 N hN (2 ^ N) 0 _ (by omega) hfq
        rw [drop_eq (by omega) _ N (by omega) (by omega)] at e1
        refine ⟨h', ?_, hfq.vm e2, by rw [e2.2 _ _ (by decide) (by omega)]; exact q00.1, by rw [e2.2 _ _ (by decide) (by omega)]; exact q00.2⟩
        refine Eq.trans ?_ e1
        simp only [e277_0, e277_1, e277_2, e277_5, e277_6, e277_7, e277_10, e277_11, e277_12, e277_15, e277_18, e277_19, e277_20, e277_23, e277_24, e277_25, e277_26, e277_29, e277_30, e277_31, e277_34, e277_35, e277_37, e277_40, e277_41, e277_42, e277_43, e277_44, e277_48, e277_49, e277_50, e277_51, e277_54, e277_56, e277_59, e277_60, e277_63, e277_64, e277_65, e277_67, e277_70, e277_73, e277_75, e277_78, e277_79, e277_82, e277_85, e277_86, psh0, psh1, psh3, true_or, or_true, eq_self, Option.bind_some, List.length_nil, List.length_cons, Nat.reduceAdd, Nat.reduceLeDiff, Nat.zero_le, ↓reduceIte, Int.reduceLT, Int.reduceEq, Int.reduceLE, Int.reduceNeg, Int.reduceAdd, Int.reduceMul, Int.reduceSub, ne_eq, not_true_eq_false, not_false_eq_true, and_true, true_and, and_false, false_and, c3lt, c3gt, c3eq, Bool.false_eq_true, isK_wr, inA_wr, inR_wr, cm1.1, hl, gl, cN']
        rfl
  · have hl := fun v => m_isChildAt_q (d := d + 58) (k := a0) hI v
    simp only [hc, if_false] at hl hx
    refine opq hI (-1) 2 ?_ ?_
    · simp only [e131_0, e131_1, e131_4, e131_5, e131_8, e131_11, e131_12, e131_13, e131_16, e131_17, e131_18, e131_21, e131_24, e131_25, e131_26, e131_27, e131_28, e131_31, e131_34, e131_35, e131_37, e131_40, e131_41, e131_42, e131_45, e131_48, e131_49, e131_52, e131_53, e131_54, e131_57, e131_58, e131_59, e131_62, e131_65, e131_66, e131_69, e131_72, e131_75, e131_78, psh0, psh1, psh3, true_or, or_true, eq_self, Option.bind_some, List.length_nil, List.length_cons, Nat.reduceAdd, Nat.reduceLeDiff, Nat.zero_le, ↓reduceIte, Int.reduceLT, Int.reduceEq, Int.reduceLE, Int.reduceNeg, Int.reduceAdd, Int.reduceMul, Int.reduceSub, ne_eq, not_true_eq_false, not_false_eq_true, and_true, true_and, and_false, false_and, c3lt, c3gt, c3eq, Bool.false_eq_true, isK_wr, inA_wr, inR_wr, k0, e8, ks, x_refuse, hx]
    · simp only [e277_0, e277_1, e277_2, e277_5, e277_6, e277_7, e277_10, e277_11, e277_12, e277_15, e277_18, e277_19, e277_20, e277_23, e277_24, e277_25, e277_26, e277_29, e277_30, e277_31, e277_34, e277_35, e277_37, e277_40, e277_41, e277_42, e277_43, e277_44, e277_48, e277_49, e277_50, e277_51, e277_54, e277_56, e277_59, e277_60, e277_63, e277_64, e277_65, e277_67, e277_70, e277_73, e277_75, e277_78, e277_79, e277_82, e277_85, e277_86, psh0, psh1, psh3, true_or, or_true, eq_self, Option.bind_some, List.length_nil, List.length_cons, Nat.reduceAdd, Nat.reduceLeDiff, Nat.zero_le, ↓reduceIte, Int.reduceLT, Int.reduceEq, Int.reduceLE, Int.reduceNeg, Int.reduceAdd, Int.reduceMul, Int.reduceSub, ne_eq, not_true_eq_false, not_false_eq_true, and_true, true_and, and_false, false_and, c3lt, c3gt, c3eq, Bool.false_eq_true, isK_wr, inA_wr, inR_wr, kM, hl, m_refuse, wrwr]

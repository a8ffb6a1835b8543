/-! the class pushes a row of names on -/
theorem adv_mono {m b c : Nat} {f : Nat → Int} {n : Nat} (hf : ∀ st, st < n → 0 ≤ f st) : ∀ k j, j + k = n → adv m b f c j ≤ adv m b f c n
  | 0, j, h => by
    have : j = n := by omega
    rw [this]
    exact Int.le_refl _
  | k + 1, j, h => by
    have h1 := adv_mono (m := m) (b := b) (c := c) hf k (j + 1) (by omega)
    have e : adv m b f c (j + 1) = adv m b f c j + (if nxS m b j = c ∧ c < b + m then f j else 0) := rfl
    have h2 := hf j (by omega)
    split at e <;> omega
theorem adv_s {m b c j : Nat} {f : Nat → Int} : adv m b f c (j + 1) = adv m b f c j + (if nxS m b j = c ∧ c < b + m then f j else 0) := rfl
theorem x_say_loop {d : Nat} {h0 : AM} {S : Int} {u t m b : Nat} (k148 : isK h0 148 7) (e5 : mrd h0 148 5 = S) (hSn : S ≠ 148) (kS : isK h0 S 19) (ut : u < t) (t4 : t < 4096) (m1 : 1 ≤ m) (m9 : m ≤ 9) (hb : b + m ≤ 2 * m) (hD : ((t * (2 * m) + 2 * m : Nat) : Int) ≤ mln h0 S) (hB : ∀ c j : Nat, c < 2 * m → j ≤ 2 * m → 0 ≤ mrd h0 S ((t * (2 * m) + c : Nat) : Int) + adv m b (fun c => mrd h0 S ((u * (2 * m) + c : Nat) : Int)) c j ∧ mrd h0 S ((t * (2 * m) + c : Nat) : Int) + adv m b (fun c => mrd h0 S ((u * (2 * m) + c : Nat) : Int)) c j < 9223372036854775808) (n : Nat) : ∀ (j : Nat) (h : AM) (l6 l7 : AV), j + n = 2 * m → h.2 = h0.2 → (∀ a i, a ≠ S → mrd h a i = mrd h0 a i) → (∀ i : Int, i < ((t * (2 * m) : Nat) : Int) ∨ ((t * (2 * m) + 2 * m : Nat) : Int) ≤ i → mrd h S i = mrd h0 S i) → (∀ c : Nat, c < 2 * m → mrd h S ((t * (2 * m) + c : Nat) : Int) = mrd h0 S ((t * (2 * m) + c : Nat) : Int) + adv m b (fun c => mrd h0 S ((u * (2 * m) + c : Nat) : Int)) c j) → ∃ h', EV d 93 22 [(2, 148), (0, (u : Int)), (0, (t : Int)), (0, (b : Int)), (0, (m : Int)), (0, (j : Int)), l6, l7] [] h = some ((3, 0), h') ∧ h'.2 = h0.2 ∧ (∀ a i, a ≠ S → mrd h' a i = mrd h0 a i) ∧ (∀ i : Int, i < ((t * (2 * m) : Nat) : Int) ∨ ((t * (2 * m) + 2 * m : Nat) : Int) ≤ i → mrd h' S i = mrd h0 S i) ∧ (∀ c : Nat, c < 2 * m → mrd h' S ((t * (2 * m) + c : Nat) : Int) = mrd h0 S ((t * (2 * m) + c : Nat) : Int) + adv m b (fun c => mrd h0 S ((u * (2 * m) + c : Nat) : Int)) c (2 * m)) := by
  obtain ⟨D, eD⟩ : ∃ D, D = t * (2 * m) := ⟨_, rfl⟩
  obtain ⟨F, eF⟩ : ∃ F, F = u * (2 * m) := ⟨_, rfl⟩
  have FD : F + 2 * m ≤ D := by
    rw [eF, eD, ← Nat.succ_mul]
    exact Nat.mul_le_mul_right _ ut
  have D4 : D ≤ 73728 := by
    rw [eD]
    exact Nat.le_trans (Nat.mul_le_mul (show t ≤ 4096 by omega) (show 2 * m ≤ 18 by omega)) (by decide)
  have xD : (t : Int) * 2 * (m : Int) = (D : Int) := by rw [eD]; push_cast; rw [Int.mul_assoc]
  have xF : (u : Int) * 2 * (m : Int) = (F : Int) := by rw [eF]; push_cast; rw [Int.mul_assoc]
  rw [← eD] at hB hD ⊢
  rw [← eF] at hB ⊢
  have w1 : w32 ((t : Int) * 2) = (t : Int) * 2 := w32_id (by omega) (by omega)
  have w2 : w32 ((u : Int) * 2) = (u : Int) * 2 := w32_id (by omega) (by omega)
  have w3 : w32 (D : Int) = D := w32_id (by omega) (by omega)
  have w4 : w32 (F : Int) = F := w32_id (by omega) (by omega)
  have w5 : w32 (2 * (m : Int)) = 2 * (m : Int) := w32_id (by omega) (by omega)
  have w6 : w32 ((b : Int) + m) = (b : Int) + m := w32_id (by omega) (by omega)
  induction n with
  | zero =>
    intro j h l6 l7 hj h2 hf hi hc
    have e : j = 2 * m := by omega
    subst e
    refine ⟨h, ?_, h2, hf, hi, hc⟩
    have c1 : ¬ (((2 * m : Nat) : Int) < 2 * (m : Int)) := by omega
    rw [e93_22]
    simp only [e93_0, e93_1, e93_4, e93_5, e93_8, e93_9, e93_10, e93_11, e93_13, e93_14, e93_15, e93_16, e93_17, e93_18, e93_19, e93_20, e93_24, e93_25, e93_27, e93_28, e93_31, e93_33, e93_34, e93_37, e93_39, e93_40, e93_42, e93_43, e93_46, e93_47, e93_50, e93_51, e93_53, e93_55, e93_58, e93_60, e93_61, e93_62, e93_65, e93_66, e93_68, e93_70, e93_71, e93_73, e93_74, e93_77, e93_78, e93_81, e93_82, e93_83, e93_84, e93_86, e93_87, e93_89, e93_90, e93_91, e93_92, e93_93, e93_96, e93_97, e93_98, e93_99, e93_101, e93_102, e93_104, e93_105, e93_106, e93_107, e93_108, e93_111, e93_114, psh0, psh1, psh3, true_or, or_true, eq_self, Option.bind_some, List.length_nil, List.length_cons, Nat.reduceAdd, Nat.reduceLeDiff, Nat.zero_le, ↓reduceIte, Int.reduceLT, Int.reduceEq, Int.reduceLE, Int.reduceNeg, Int.reduceAdd, Int.reduceMul, Int.reduceSub, ne_eq, not_true_eq_false, not_false_eq_true, and_true, true_and, and_false, false_and, c3lt, c3gt, c3eq, Bool.false_eq_true, isK_wr, inA_wr, inR_wr, w5, c1]
  | succ n ih =>
    intro j h l6 l7 hj h2 hf hi hc
    have kg : isK h 148 7 := (isK_eq h2).mpr k148
    have ks : isK h S 19 := (isK_eq h2).mpr kS
    have g5 : mrd h 148 5 = S := by rw [hf _ _ (fun z => hSn z.symm)]; exact e5
    have lS : mln h S = mln h0 S := by unfold mln; rw [h2]
    have cj : (j : Int) < 2 * (m : Int) := by omega
    have wj : w32 ((j : Int) + 1) = ((j + 1 : Nat) : Int) := by rw [w32_id (by omega) (by omega)]; omega
    have hfj : mrd h S ((F + j : Nat) : Int) = mrd h0 S ((F + j : Nat) : Int) := hi _ (Or.inl (by omega))
    have iF : inA h S 19 ((F + j : Nat) : Int) := ⟨ks, by omega, by rw [lS]; omega⟩
    have wF : w32 ((F : Int) + (j : Int)) = ((F + j : Nat) : Int) := by rw [w32_id (by omega) (by omega)]; omega
    -- the write, at the cell p
    have wrt : ∀ p : Nat, p < b + m → nxS m b j = p → w64 (mrd h S ((D + p : Nat) : Int) + mrd h S ((F + j : Nat) : Int)) = mrd h0 S ((D + p : Nat) : Int) + adv m b (fun c => mrd h0 S ((F + c : Nat) : Int)) p (j + 1) := fun p hp hn => by
      have := hB p (j + 1) (by omega) (by omega)
      rw [adv_s, if_pos ⟨hn, hp⟩] at this ⊢
      rw [hc p (by omega), hfj, Int.add_assoc]
      exact w64_id (by omega) (by omega)
    have ins : ∀ p : Nat, p < b + m → inA h S 19 ((D + p : Nat) : Int) := fun p hp => ⟨ks, by omega, by rw [lS]; omega⟩
    have wp : ∀ p : Nat, p < b + m → w32 ((D : Int) + (p : Int)) = ((D + p : Nat) : Int) := fun p hp => by rw [w32_id (by omega) (by omega)]; omega
    have go : ∀ (p : Nat), p < b + m → nxS m b j = p → ∀ l6 l7 : AV, ∃ h', EV d 93 22 [(2, 148), (0, (u : Int)), (0, (t : Int)), (0, (b : Int)), (0, (m : Int)), (0, ((j + 1 : Nat) : Int)), l6, l7] [] (mwr h S ((D + p : Nat) : Int) (mrd h0 S ((D + p : Nat) : Int) + adv m b (fun c => mrd h0 S ((F + c : Nat) : Int)) p (j + 1))) = some ((3, 0), h') ∧ h'.2 = h0.2 ∧ (∀ a i, a ≠ S → mrd h' a i = mrd h0 a i) ∧ (∀ i : Int, i < (D : Int) ∨ ((D + 2 * m : Nat) : Int) ≤ i → mrd h' S i = mrd h0 S i) ∧ (∀ c : Nat, c < 2 * m → mrd h' S ((D + c : Nat) : Int) = mrd h0 S ((D + c : Nat) : Int) + adv m b (fun c => mrd h0 S ((F + c : Nat) : Int)) c (2 * m)) := by
      intro p hp hn l6 l7
      refine ih (j + 1) _ l6 l7 (by omega) h2 (fun a i ha => by rw [rdn1 ha]; exact hf a i ha) (fun i hi' => ?_) (fun c c1 => ?_)
      · rw [rdn2 (by omega)]
        exact hi i hi'
      · by_cases e : c = p
        · rw [e, rde]
        · rw [rdn2 (by omega), hc c c1, adv_s, if_neg (fun z => e (z.1.symm.trans hn)), Int.add_zero]
    by_cases c1 : (j : Int) < (b : Int)
    · have hn : nxS m b j = b := by unfold nxS; rw [if_neg (by omega)]
      obtain ⟨h', z1, z2⟩ := go b (by omega) hn (0, 0) (0, (b : Int))
      refine ⟨h', ?_, z2⟩
      rw [← z1, ← wrt b (by omega) hn, e93_22]
      have c3 : (b : Int) < (b : Int) + m := by omega
      simp only [e93_0, e93_1, e93_4, e93_5, e93_8, e93_9, e93_10, e93_11, e93_13, e93_14, e93_15, e93_16, e93_17, e93_18, e93_19, e93_20, e93_24, e93_25, e93_27, e93_28, e93_31, e93_33, e93_34, e93_37, e93_39, e93_40, e93_42, e93_43, e93_46, e93_47, e93_50, e93_51, e93_53, e93_55, e93_58, e93_60, e93_61, e93_62, e93_65, e93_66, e93_68, e93_70, e93_71, e93_73, e93_74, e93_77, e93_78, e93_81, e93_82, e93_83, e93_84, e93_86, e93_87, e93_89, e93_90, e93_91, e93_92, e93_93, e93_96, e93_97, e93_98, e93_99, e93_101, e93_102, e93_104, e93_105, e93_106, e93_107, e93_108, e93_111, e93_114, psh0, psh1, psh3, true_or, or_true, eq_self, Option.bind_some, List.length_nil, List.length_cons, Nat.reduceAdd, Nat.reduceLeDiff, Nat.zero_le, ↓reduceIte, Int.reduceLT, Int.reduceEq, Int.reduceLE, Int.reduceNeg, Int.reduceAdd, Int.reduceMul, Int.reduceSub, ne_eq, not_true_eq_false, not_false_eq_true, and_true, true_and, and_false, false_and, c3lt, c3gt, c3eq, Bool.false_eq_true, isK_wr, inA_wr, inR_wr, w1, w2, w3, w4, w5, w6, cj, c1, c3, kg, g5, xD, xF, wF, wp b (by omega), ins b (by omega), iF, wj]
    · by_cases c2 : (j : Int) < (b : Int) + m
      · have hn : nxS m b j = j + 1 := by unfold nxS; rw [if_pos (by omega)]
        by_cases c3 : ((j + 1 : Nat) : Int) < (b : Int) + m
        · obtain ⟨h', z1, z2⟩ := go (j + 1) (by omega) hn (0, 1) (0, ((j + 1 : Nat) : Int))
          refine ⟨h', ?_, z2⟩
          rw [← z1, ← wrt (j + 1) (by omega) hn, e93_22]
          simp only [e93_0, e93_1, e93_4, e93_5, e93_8, e93_9, e93_10, e93_11, e93_13, e93_14, e93_15, e93_16, e93_17, e93_18, e93_19, e93_20, e93_24, e93_25, e93_27, e93_28, e93_31, e93_33, e93_34, e93_37, e93_39, e93_40, e93_42, e93_43, e93_46, e93_47, e93_50, e93_51, e93_53, e93_55, e93_58, e93_60, e93_61, e93_62, e93_65, e93_66, e93_68, e93_70, e93_71, e93_73, e93_74, e93_77, e93_78, e93_81, e93_82, e93_83, e93_84, e93_86, e93_87, e93_89, e93_90, e93_91, e93_92, e93_93, e93_96, e93_97, e93_98, e93_99, e93_101, e93_102, e93_104, e93_105, e93_106, e93_107, e93_108, e93_111, e93_114, psh0, psh1, psh3, true_or, or_true, eq_self, Option.bind_some, List.length_nil, List.length_cons, Nat.reduceAdd, Nat.reduceLeDiff, Nat.zero_le, ↓reduceIte, Int.reduceLT, Int.reduceEq, Int.reduceLE, Int.reduceNeg, Int.reduceAdd, Int.reduceMul, Int.reduceSub, ne_eq, not_true_eq_false, not_false_eq_true, and_true, true_and, and_false, false_and, c3lt, c3gt, c3eq, Bool.false_eq_true, isK_wr, inA_wr, inR_wr, w1, w2, w3, w4, w5, w6, cj, c1, c2, c3, kg, g5, xD, xF, wF, wp (j + 1) (by omega), ins (j + 1) (by omega), iF, wj]
        · obtain ⟨h', z1, z2⟩ := ih (j + 1) h (0, 1) (0, ((j + 1 : Nat) : Int)) (by omega) h2 hf hi (fun c q => by
            rw [hc c q, adv_s, if_neg (by rw [hn]; omega), Int.add_zero])
          refine ⟨h', ?_, z2⟩
          rw [← z1, e93_22]
          simp only [e93_0, e93_1, e93_4, e93_5, e93_8, e93_9, e93_10, e93_11, e93_13, e93_14, e93_15, e93_16, e93_17, e93_18, e93_19, e93_20, e93_24, e93_25, e93_27, e93_28, e93_31, e93_33, e93_34, e93_37, e93_39, e93_40, e93_42, e93_43, e93_46, e93_47, e93_50, e93_51, e93_53, e93_55, e93_58, e93_60, e93_61, e93_62, e93_65, e93_66, e93_68, e93_70, e93_71, e93_73, e93_74, e93_77, e93_78, e93_81, e93_82, e93_83, e93_84, e93_86, e93_87, e93_89, e93_90, e93_91, e93_92, e93_93, e93_96, e93_97, e93_98, e93_99, e93_101, e93_102, e93_104, e93_105, e93_106, e93_107, e93_108, e93_111, e93_114, psh0, psh1, psh3, true_or, or_true, eq_self, Option.bind_some, List.length_nil, List.length_cons, Nat.reduceAdd, Nat.reduceLeDiff, Nat.zero_le, ↓reduceIte, Int.reduceLT, Int.reduceEq, Int.reduceLE, Int.reduceNeg, Int.reduceAdd, Int.reduceMul, Int.reduceSub, ne_eq, not_true_eq_false, not_false_eq_true, and_true, true_and, and_false, false_and, c3lt, c3gt, c3eq, Bool.false_eq_true, isK_wr, inA_wr, inR_wr, w1, w2, w3, w4, w5, w6, cj, c1, c2, c3, kg, g5, wj]
      · have hn : nxS m b j = b := by unfold nxS; rw [if_neg (by omega)]
        obtain ⟨h', z1, z2⟩ := go b (by omega) hn (0, 0) (0, (b : Int))
        refine ⟨h', ?_, z2⟩
        rw [← z1, ← wrt b (by omega) hn, e93_22]
        have c3 : (b : Int) < (b : Int) + m := by omega
        simp only [e93_0, e93_1, e93_4, e93_5, e93_8, e93_9, e93_10, e93_11, e93_13, e93_14, e93_15, e93_16, e93_17, e93_18, e93_19, e93_20, e93_24, e93_25, e93_27, e93_28, e93_31, e93_33, e93_34, e93_37, e93_39, e93_40, e93_42, e93_43, e93_46, e93_47, e93_50, e93_51, e93_53, e93_55, e93_58, e93_60, e93_61, e93_62, e93_65, e93_66, e93_68, e93_70, e93_71, e93_73, e93_74, e93_77, e93_78, e93_81, e93_82, e93_83, e93_84, e93_86, e93_87, e93_89, e93_90, e93_91, e93_92, e93_93, e93_96, e93_97, e93_98, e93_99, e93_101, e93_102, e93_104, e93_105, e93_106, e93_107, e93_108, e93_111, e93_114, psh0, psh1, psh3, true_or, or_true, eq_self, Option.bind_some, List.length_nil, List.length_cons, Nat.reduceAdd, Nat.reduceLeDiff, Nat.zero_le, ↓reduceIte, Int.reduceLT, Int.reduceEq, Int.reduceLE, Int.reduceNeg, Int.reduceAdd, Int.reduceMul, Int.reduceSub, ne_eq, not_true_eq_false, not_false_eq_true, and_true, true_and, and_false, false_and, c3lt, c3gt, c3eq, Bool.false_eq_true, isK_wr, inA_wr, inR_wr, w1, w2, w3, w4, w5, w6, cj, c1, c2, c3, kg, g5, xD, xF, wF, wp b (by omega), ins b (by omega), iF, wj]

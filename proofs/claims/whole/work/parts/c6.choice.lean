/-! choice -/
def chF (rd sw : Nat → Bool) (dy : Nat → Int) : Nat → Int × Bool
  | 0 => (-1, false)
  | n + 1 => if rd n = true then (if (chF rd sw dy n).1 = -1 ∨ (sw n = true ∧ (chF rd sw dy n).2 = false) ∨ (sw n = (chF rd sw dy n).2 ∧ dy n < dy (chF rd sw dy n).1.toNat) then ((n : Int), sw n) else chF rd sw dy n) else chF rd sw dy n
theorem chF_rng (rd sw : Nat → Bool) (dy : Nat → Int) : ∀ n, -1 ≤ (chF rd sw dy n).1 ∧ (chF rd sw dy n).1 < n ∧ ((chF rd sw dy n).1 ≠ -1 → rd (chF rd sw dy n).1.toNat = true)
  | 0 => by rw [chF]; exact ⟨by decide, by decide, fun h => absurd rfl h⟩
  | n + 1 => by
    have := chF_rng rd sw dy n
    rw [chF]
    split
    · split
      · rename_i h1 h2
        exact ⟨by show -1 ≤ (n : Int); omega, by show (n : Int) < ((n + 1 : Nat) : Int); omega, fun _ => by show rd (n : Int).toNat = true; rw [Int.toNat_natCast]; exact h1⟩
      · exact ⟨this.1, by have := this.2.1; omega, this.2.2⟩
    · exact ⟨this.1, by have := this.2.1; omega, this.2.2⟩
theorem chF_congr {rd sw rd' sw' : Nat → Bool} {dy dy' : Nat → Int} : ∀ n, (∀ i, i < n → rd i = rd' i) → (∀ i, i < n → sw i = sw' i) → (∀ i, i < n → dy i = dy' i) → chF rd sw dy n = chF rd' sw' dy' n
  | 0, _, _, _ => rfl
  | n + 1, h1, h2, h3 => by
    have ih := chF_congr n (fun i hi => h1 i (by omega)) (fun i hi => h2 i (by omega)) (fun i hi => h3 i (by omega))
    have hr := chF_rng rd' sw' dy' n
    rw [chF, chF, ih, h1 n (by omega), h2 n (by omega), h3 n (by omega)]
    by_cases c : (chF rd' sw' dy' n).1 = -1
    · rw [if_pos (Or.inl c), if_pos (Or.inl c)]
    · rw [h3 (chF rd' sw' dy' n).1.toNat (by omega)]
def b01 (b : Bool) : Int := if b = true then 1 else 0
section
variable {d : Nat} {h g : AM} {s a b c k l p v w x y z : Int}
theorem x_add {h0 : AM} {L : List Int} (hs0 : CS h0 s) (hsp : SpX h0 h s L) (h12 : L.length < 12) : ∃ h', EV d 100 0 [(2, s + 4), (0, vow x)] [] h = some ((3, 0), h') ∧ SpX h0 h' s (L ++ [x]) := by
  obtain ⟨ks, -, r1, r2, r3, r4, -, -, k7, k8, k9, kl, kc⟩ := CS_cong hsp.1 hsp.2.1 hs0
  have eL := hsp.2.2.1
  have c12 : (L.length : Int) < 12 := by omega
  have iV : inA h (s + 5) 18 L.length := ⟨k8, by omega, by rw [k9]; omega⟩
  have w2 : w32 ((L.length : Int) + 1) = (L.length : Int) + 1 := w32_id (by omega) (by omega)
  have nV : (s + 4 = s + 5) = False := eq_false (by omega)
  have hv := vow_01 x
  refine ⟨mwr (mwr h (s + 5) L.length (vow x)) (s + 4) 1 ((L.length : Int) + 1), ?_, hsp.1, fun a j h1 h2 => ?_, ?_, fun p hp => ?_⟩
  · simp only [e100_0, e100_1, e100_4, e100_6, e100_9, e100_10, e100_13, e100_14, e100_17, e100_18, e100_18z, e100_19, e100_20, e100_20i, e100_21, e100_24, e100_25, e100_26, e100_29, psh0, psh1, psh3, true_or, or_true, eq_self, Option.bind_some, List.length_nil, List.length_cons, Nat.reduceAdd, Nat.reduceLeDiff, Nat.zero_le, ↓reduceIte, Int.reduceLT, Int.reduceEq, Int.reduceLE, Int.reduceNeg, Int.reduceAdd, Int.reduceMul, Int.reduceSub, ne_eq, not_true_eq_false, not_false_eq_true, and_true, true_and, and_false, false_and, c3lt, c3gt, c3eq, Bool.false_eq_true, isK_wr, inA_wr, inR_wr, k7, r4, eL, c12, iV, hv, rd_wr, nV, w2]
  · rw [rd_wr, if_neg h2, rd_wr, if_neg (by omega)]
    exact hsp.2.1 a j h1 h2
  · rw [rde, len_snoc]; push_cast; rfl
  · rw [rdn1 (by omega), rd_wr, getD_snoc hp]
    rw [len_snoc] at hp
    by_cases c2 : p = L.length
    · rw [if_pos ⟨rfl, by omega⟩, if_pos c2]
    · rw [if_neg (by omega), if_neg c2]
      exact hsp.2.2.2 p (by omega)
/-- a name with a lesson more is said, on the class's side -/
def swX (h : AM) (s k : Int) (M : Nat) : Nat → Bool := fun l => decide (stL (mrd h s 8) (kp (fun _ => false) (fun p => mrd h (s + 13 + mrd h (s + 26 + 2 * k) p) 1) M ++ [mrd h (s + 13 + l) 1]) = -1)
def rdX (h : AM) (s k : Int) : Nat → Bool := rdy (mrd h (s + 25 + 2 * k) 5) (mrd h (s + 25 + 2 * k) 3) (fun l => mrd h (s + 13 + l) 6) (fun l => mrd h (s + 13 + l) 4) true
def dyX (h : AM) (s k : Int) : Nat → Int := fun l => dyF (mrd h (s + 13 + l) 3) (mrd h (s + 25 + 2 * k) 2)
/-- the decision, once it is known whether it is said -/
theorem x_choose_B {best D1 D2 : Int} {bs sd : Bool} {i : Nat} {l6 : AV} (hk : isK h s 6) (i12 : i < 12) (g1 : EV d 70 0 [(2, s), (2, a), (0, (i : Int)), (3, 0)] [] h = some ((0, D1), h)) (g2 : best ≠ -1 → EV d 70 0 [(2, s), (2, a), (0, best), (3, 0)] [] h = some ((0, D2), h)) : ∃ l6' : AV, EV (d + 1) 73 91 [(2, s), (2, a), (0, best), (0, b01 bs), (0, (i : Int)), (0, b01 sd), l6] [] h = EV (d + 1) 73 7 [(2, s), (2, a), (0, if best = -1 ∨ (sd = true ∧ bs = false) ∨ (sd = bs ∧ D1 < D2) then (i : Int) else best), (0, b01 (if best = -1 ∨ (sd = true ∧ bs = false) ∨ (sd = bs ∧ D1 < D2) then sd else bs)), (0, ((i + 1 : Nat) : Int)), (0, b01 sd), l6'] [] h := by
  have w1 : w32 ((i : Int) + 1) = ((i + 1 : Nat) : Int) := by rw [w32_id (by omega) (by omega)]; omega
  by_cases cb : best = -1
  · refine ⟨(0, 1), ?_⟩
    rw [if_pos (Or.inl cb), if_pos (Or.inl cb), cb]
    simp only [e73_0, e73_1, e73_2, e73_3, e73_4, e73_5, e73_9, e73_10, e73_13, e73_16, e73_17, e73_18, e73_21, e73_23, e73_26, e73_29, e73_30, e73_31, e73_33, e73_36, e73_39, e73_42, e73_43, e73_46, e73_47, e73_48, e73_49, e73_52, e73_53, e73_56, e73_57, e73_60, e73_62, e73_63, e73_66, e73_69, e73_70, e73_73, e73_74, e73_77, e73_80, e73_81, e73_84, e73_85, e73_88, e73_89, e73_91, e73_92, e73_93, e73_96, e73_98, e73_101, e73_102, e73_105, e73_107, e73_108, e73_111, e73_112, e73_113, e73_115, e73_118, e73_119, e73_120, e73_121, e73_124, e73_127, e73_128, e73_131, e73_132, e73_134, e73_136, e73_139, e73_141, e73_142, e73_144, e73_145, e73_148, e73_151, e73_152, psh0, psh1, psh3, true_or, or_true, eq_self, Option.bind_some, List.length_nil, List.length_cons, Nat.reduceAdd, Nat.reduceLeDiff, Nat.zero_le, ↓reduceIte, Int.reduceLT, Int.reduceEq, Int.reduceLE, Int.reduceNeg, Int.reduceAdd, Int.reduceMul, Int.reduceSub, ne_eq, not_true_eq_false, not_false_eq_true, and_true, true_and, and_false, false_and, c3lt, c3gt, c3eq, Bool.false_eq_true, isK_wr, inA_wr, inR_wr, w1]
  · have g2 := g2 cb
    cases sd with
    | true =>
      cases bs with
      | false =>
        refine ⟨(0, 1), ?_⟩
        rw [if_pos (Or.inr (Or.inl ⟨rfl, rfl⟩)), if_pos (Or.inr (Or.inl ⟨rfl, rfl⟩))]
        simp only [e73_0, e73_1, e73_2, e73_3, e73_4, e73_5, e73_9, e73_10, e73_13, e73_16, e73_17, e73_18, e73_21, e73_23, e73_26, e73_29, e73_30, e73_31, e73_33, e73_36, e73_39, e73_42, e73_43, e73_46, e73_47, e73_48, e73_49, e73_52, e73_53, e73_56, e73_57, e73_60, e73_62, e73_63, e73_66, e73_69, e73_70, e73_73, e73_74, e73_77, e73_80, e73_81, e73_84, e73_85, e73_88, e73_89, e73_91, e73_92, e73_93, e73_96, e73_98, e73_101, e73_102, e73_105, e73_107, e73_108, e73_111, e73_112, e73_113, e73_115, e73_118, e73_119, e73_120, e73_121, e73_124, e73_127, e73_128, e73_131, e73_132, e73_134, e73_136, e73_139, e73_141, e73_142, e73_144, e73_145, e73_148, e73_151, e73_152, psh0, psh1, psh3, true_or, or_true, eq_self, Option.bind_some, List.length_nil, List.length_cons, Nat.reduceAdd, Nat.reduceLeDiff, Nat.zero_le, ↓reduceIte, Int.reduceLT, Int.reduceEq, Int.reduceLE, Int.reduceNeg, Int.reduceAdd, Int.reduceMul, Int.reduceSub, ne_eq, not_true_eq_false, not_false_eq_true, and_true, true_and, and_false, false_and, c3lt, c3gt, c3eq, Bool.false_eq_true, isK_wr, inA_wr, inR_wr, b01, cb, w1]
      | true =>
        by_cases cd : D1 < D2
        · refine ⟨(0, 1), ?_⟩
          rw [if_pos (Or.inr (Or.inr ⟨rfl, cd⟩)), if_pos (Or.inr (Or.inr ⟨rfl, cd⟩))]
          simp only [e73_0, e73_1, e73_2, e73_3, e73_4, e73_5, e73_9, e73_10, e73_13, e73_16, e73_17, e73_18, e73_21, e73_23, e73_26, e73_29, e73_30, e73_31, e73_33, e73_36, e73_39, e73_42, e73_43, e73_46, e73_47, e73_48, e73_49, e73_52, e73_53, e73_56, e73_57, e73_60, e73_62, e73_63, e73_66, e73_69, e73_70, e73_73, e73_74, e73_77, e73_80, e73_81, e73_84, e73_85, e73_88, e73_89, e73_91, e73_92, e73_93, e73_96, e73_98, e73_101, e73_102, e73_105, e73_107, e73_108, e73_111, e73_112, e73_113, e73_115, e73_118, e73_119, e73_120, e73_121, e73_124, e73_127, e73_128, e73_131, e73_132, e73_134, e73_136, e73_139, e73_141, e73_142, e73_144, e73_145, e73_148, e73_151, e73_152, psh0, psh1, psh3, true_or, or_true, eq_self, Option.bind_some, List.length_nil, List.length_cons, Nat.reduceAdd, Nat.reduceLeDiff, Nat.zero_le, ↓reduceIte, Int.reduceLT, Int.reduceEq, Int.reduceLE, Int.reduceNeg, Int.reduceAdd, Int.reduceMul, Int.reduceSub, ne_eq, not_true_eq_false, not_false_eq_true, and_true, true_and, and_false, false_and, c3lt, c3gt, c3eq, Bool.false_eq_true, isK_wr, inA_wr, inR_wr, b01, cb, hk, g1, g2, cd, w1]
        · refine ⟨(0, 0), ?_⟩
          have cn : ¬ (best = -1 ∨ (true = true ∧ true = false) ∨ (true = true ∧ D1 < D2)) := by
            rintro (z | z | z)
            · exact cb z
            · exact absurd z.2 (by decide)
            · exact cd z.2
          rw [if_neg cn, if_neg cn]
          simp only [e73_0, e73_1, e73_2, e73_3, e73_4, e73_5, e73_9, e73_10, e73_13, e73_16, e73_17, e73_18, e73_21, e73_23, e73_26, e73_29, e73_30, e73_31, e73_33, e73_36, e73_39, e73_42, e73_43, e73_46, e73_47, e73_48, e73_49, e73_52, e73_53, e73_56, e73_57, e73_60, e73_62, e73_63, e73_66, e73_69, e73_70, e73_73, e73_74, e73_77, e73_80, e73_81, e73_84, e73_85, e73_88, e73_89, e73_91, e73_92, e73_93, e73_96, e73_98, e73_101, e73_102, e73_105, e73_107, e73_108, e73_111, e73_112, e73_113, e73_115, e73_118, e73_119, e73_120, e73_121, e73_124, e73_127, e73_128, e73_131, e73_132, e73_134, e73_136, e73_139, e73_141, e73_142, e73_144, e73_145, e73_148, e73_151, e73_152, psh0, psh1, psh3, true_or, or_true, eq_self, Option.bind_some, List.length_nil, List.length_cons, Nat.reduceAdd, Nat.reduceLeDiff, Nat.zero_le, ↓reduceIte, Int.reduceLT, Int.reduceEq, Int.reduceLE, Int.reduceNeg, Int.reduceAdd, Int.reduceMul, Int.reduceSub, ne_eq, not_true_eq_false, not_false_eq_true, and_true, true_and, and_false, false_and, c3lt, c3gt, c3eq, Bool.false_eq_true, isK_wr, inA_wr, inR_wr, b01, cb, hk, g1, g2, cd, w1]
    | false =>
      cases bs with
      | true =>
        refine ⟨(0, 0), ?_⟩
        have cn : ¬ (best = -1 ∨ (false = true ∧ true = false) ∨ (false = true ∧ D1 < D2)) := by
          rintro (z | z | z)
          · exact cb z
          · exact absurd z.1 (by decide)
          · exact absurd z.1 (by decide)
        rw [if_neg cn, if_neg cn]
        simp only [e73_0, e73_1, e73_2, e73_3, e73_4, e73_5, e73_9, e73_10, e73_13, e73_16, e73_17, e73_18, e73_21, e73_23, e73_26, e73_29, e73_30, e73_31, e73_33, e73_36, e73_39, e73_42, e73_43, e73_46, e73_47, e73_48, e73_49, e73_52, e73_53, e73_56, e73_57, e73_60, e73_62, e73_63, e73_66, e73_69, e73_70, e73_73, e73_74, e73_77, e73_80, e73_81, e73_84, e73_85, e73_88, e73_89, e73_91, e73_92, e73_93, e73_96, e73_98, e73_101, e73_102, e73_105, e73_107, e73_108, e73_111, e73_112, e73_113, e73_115, e73_118, e73_119, e73_120, e73_121, e73_124, e73_127, e73_128, e73_131, e73_132, e73_134, e73_136, e73_139, e73_141, e73_142, e73_144, e73_145, e73_148, e73_151, e73_152, psh0, psh1, psh3, true_or, or_true, eq_self, Option.bind_some, List.length_nil, List.length_cons, Nat.reduceAdd, Nat.reduceLeDiff, Nat.zero_le, ↓reduceIte, Int.reduceLT, Int.reduceEq, Int.reduceLE, Int.reduceNeg, Int.reduceAdd, Int.reduceMul, Int.reduceSub, ne_eq, not_true_eq_false, not_false_eq_true, and_true, true_and, and_false, false_and, c3lt, c3gt, c3eq, Bool.false_eq_true, isK_wr, inA_wr, inR_wr, b01, cb, w1]
      | false =>
        by_cases cd : D1 < D2
        · refine ⟨(0, 1), ?_⟩
          rw [if_pos (Or.inr (Or.inr ⟨rfl, cd⟩)), if_pos (Or.inr (Or.inr ⟨rfl, cd⟩))]
          simp only [e73_0, e73_1, e73_2, e73_3, e73_4, e73_5, e73_9, e73_10, e73_13, e73_16, e73_17, e73_18, e73_21, e73_23, e73_26, e73_29, e73_30, e73_31, e73_33, e73_36, e73_39, e73_42, e73_43, e73_46, e73_47, e73_48, e73_49, e73_52, e73_53, e73_56, e73_57, e73_60, e73_62, e73_63, e73_66, e73_69, e73_70, e73_73, e73_74, e73_77, e73_80, e73_81, e73_84, e73_85, e73_88, e73_89, e73_91, e73_92, e73_93, e73_96, e73_98, e73_101, e73_102, e73_105, e73_107, e73_108, e73_111, e73_112, e73_113, e73_115, e73_118, e73_119, e73_120, e73_121, e73_124, e73_127, e73_128, e73_131, e73_132, e73_134, e73_136, e73_139, e73_141, e73_142, e73_144, e73_145, e73_148, e73_151, e73_152, psh0, psh1, psh3, true_or, or_true, eq_self, Option.bind_some, List.length_nil, List.length_cons, Nat.reduceAdd, Nat.reduceLeDiff, Nat.zero_le, ↓reduceIte, Int.reduceLT, Int.reduceEq, Int.reduceLE, Int.reduceNeg, Int.reduceAdd, Int.reduceMul, Int.reduceSub, ne_eq, not_true_eq_false, not_false_eq_true, and_true, true_and, and_false, false_and, c3lt, c3gt, c3eq, Bool.false_eq_true, isK_wr, inA_wr, inR_wr, b01, cb, hk, g1, g2, cd, w1]
        · refine ⟨(0, 0), ?_⟩
          have cn : ¬ (best = -1 ∨ (false = true ∧ false = false) ∨ (false = false ∧ D1 < D2)) := by
            rintro (z | z | z)
            · exact cb z
            · exact absurd z.1 (by decide)
            · exact cd z.2
          rw [if_neg cn, if_neg cn]
          simp only [e73_0, e73_1, e73_2, e73_3, e73_4, e73_5, e73_9, e73_10, e73_13, e73_16, e73_17, e73_18, e73_21, e73_23, e73_26, e73_29, e73_30, e73_31, e73_33, e73_36, e73_39, e73_42, e73_43, e73_46, e73_47, e73_48, e73_49, e73_52, e73_53, e73_56, e73_57, e73_60, e73_62, e73_63, e73_66, e73_69, e73_70, e73_73, e73_74, e73_77, e73_80, e73_81, e73_84, e73_85, e73_88, e73_89, e73_91, e73_92, e73_93, e73_96, e73_98, e73_101, e73_102, e73_105, e73_107, e73_108, e73_111, e73_112, e73_113, e73_115, e73_118, e73_119, e73_120, e73_121, e73_124, e73_127, e73_128, e73_131, e73_132, e73_134, e73_136, e73_139, e73_141, e73_142, e73_144, e73_145, e73_148, e73_151, e73_152, psh0, psh1, psh3, true_or, or_true, eq_self, Option.bind_some, List.length_nil, List.length_cons, Nat.reduceAdd, Nat.reduceLeDiff, Nat.zero_le, ↓reduceIte, Int.reduceLT, Int.reduceEq, Int.reduceLE, Int.reduceNeg, Int.reduceAdd, Int.reduceMul, Int.reduceSub, ne_eq, not_true_eq_false, not_false_eq_true, and_true, true_and, and_false, false_and, c3lt, c3gt, c3eq, Bool.false_eq_true, isK_wr, inA_wr, inR_wr, b01, cb, hk, g1, g2, cd, w1]
/-- a lesson that can be learnt: is the name said with it -/
theorem x_choose_A {h0 : AM} {best bs : Int} {l5 l6 : AV} {i : Nat} (cs : CS h0 s) (k0 : 0 ≤ k) (k1 : k < 4) (M : Nat) (hM : mrd h0 (s + 25 + 2 * k) 6 = M) (M12 : M < 12) (hl : ∀ p : Nat, p < M → 0 ≤ mrd h0 (s + 26 + 2 * k) p ∧ mrd h0 (s + 26 + 2 * k) p < 12 ∧ mrd h0 (s + 13 + mrd h0 (s + 26 + 2 * k) p) 2 = vow (mrd h0 (s + 13 + mrd h0 (s + 26 + 2 * k) p) 1)) (N : Nat) (hN : mrd h0 s 6 = N) (N12 : N ≤ 12) (hi : i < N) (hv : mrd h0 (s + 13 + i) 2 = vow (mrd h0 (s + 13 + i) 1)) (g1 : EV d 68 0 [(2, s), (0, mrd h0 (s + 25 + 2 * k) 5), (0, (i : Int))] [] h0 = some ((0, 1), h0)) (g2 : EV d 69 0 [(2, s), (2, s + 25 + 2 * k), (0, (i : Int))] [] h0 = some ((0, 1), h0)) : ∃ h3, EV (d + 1) 73 7 [(2, s), (2, s + 25 + 2 * k), (0, best), (0, bs), (0, (i : Int)), l5, l6] [] h0 = EV (d + 1) 73 91 [(2, s), (2, s + 25 + 2 * k), (0, best), (0, bs), (0, (i : Int)), (0, b01 (swX h0 s k M i)), l6] [] h3 ∧ VX h0 h3 s := by
  obtain ⟨h2, e1, e2⟩ := x_spell (d := d) (w := -1) cs k0 k1 M hM (by omega) hl
  rw [kp_m1] at e2
  obtain ⟨h3, e3, e4⟩ := x_add (d := d) (x := mrd h0 (s + 13 + i) 1) cs e2 (by rw [kp_none]; exact M12)
  refine ⟨h3, ?_, e4.vx⟩
  have g4 := x_stumble (d := d) (x := mrd h0 s 8) cs e4 (by rw [len_snoc, kp_none]; omega)
  have ci : (i : Int) < N := by omega
  obtain ⟨ks, -, r1, r2, r3, r4, -, -, k7, k8, k9, kl, kc⟩ := id cs
  obtain ⟨q1, q2, q3, q4, q5, q6⟩ := kc k k0 k1
  obtain ⟨ks2, -, r12, r22, r32, r42, -, -, k72, k82, k92, kl2, kc2⟩ := CS_cong e2.1 e2.2.1 cs
  obtain ⟨u1, u2, u3⟩ := kl2 i (by omega) (by omega)
  obtain ⟨ks3, -, r13, r23, r33, r43, -, -, k73, k83, k93, kl3, kc3⟩ := CS_cong e4.1 e4.2.1 cs
  have ev2 : mrd h2 (s + 13 + i) 2 = vow (mrd h0 (s + 13 + i) 1) := by rw [e2.2.1 (s + 13 + i) 2 (by omega) (by omega)]; exact hv
  have es8 : mrd h3 s 8 = mrd h0 s 8 := e4.2.1 s 8 (by omega) (by omega)
  have esw : swX h0 s k M i = decide (stL (mrd h0 s 8) (kp (fun _ => false) (fun p => mrd h0 (s + 13 + mrd h0 (s + 26 + 2 * k) p) 1) M ++ [mrd h0 (s + 13 + i) 1]) = -1) := rfl
  rw [esw]
  generalize stL (mrd h0 s 8) (kp (fun _ => false) (fun p => mrd h0 (s + 13 + mrd h0 (s + 26 + 2 * k) p) 1) M ++ [mrd h0 (s + 13 + i) 1]) = ST at g4
  rw [e73_7]
  by_cases cs' : ST = -1
  · subst cs'
    simp only [e73_0, e73_1, e73_2, e73_3, e73_4, e73_5, e73_9, e73_10, e73_13, e73_16, e73_17, e73_18, e73_21, e73_23, e73_26, e73_29, e73_30, e73_31, e73_33, e73_36, e73_39, e73_42, e73_43, e73_46, e73_47, e73_48, e73_49, e73_52, e73_53, e73_56, e73_57, e73_60, e73_62, e73_63, e73_66, e73_69, e73_70, e73_73, e73_74, e73_77, e73_80, e73_81, e73_84, e73_85, e73_88, e73_89, e73_92, e73_93, e73_96, e73_98, e73_101, e73_102, e73_105, e73_107, e73_108, e73_111, e73_112, e73_113, e73_115, e73_118, e73_119, e73_120, e73_121, e73_124, e73_127, e73_128, e73_131, e73_132, e73_134, e73_136, e73_139, e73_141, e73_142, e73_144, e73_145, e73_148, e73_151, e73_152, psh0, psh1, psh3, true_or, or_true, eq_self, Option.bind_some, List.length_nil, List.length_cons, Nat.reduceAdd, Nat.reduceLeDiff, Nat.zero_le, ↓reduceIte, Int.reduceLT, Int.reduceEq, Int.reduceLE, Int.reduceNeg, Int.reduceAdd, Int.reduceMul, Int.reduceSub, ne_eq, not_true_eq_false, not_false_eq_true, and_true, true_and, and_false, false_and, c3lt, c3gt, c3eq, Bool.false_eq_true, isK_wr, inA_wr, inR_wr, ks, hN, ci, q3, g1, g2, r3, k7, e1, ks2, r32, r12, u1, u2, u3, ev2, k72, e3, ks3, r33, k73, es8, g4, b01, decide_true]
  · rw [decide_eq_false cs']
    simp only [e73_0, e73_1, e73_2, e73_3, e73_4, e73_5, e73_9, e73_10, e73_13, e73_16, e73_17, e73_18, e73_21, e73_23, e73_26, e73_29, e73_30, e73_31, e73_33, e73_36, e73_39, e73_42, e73_43, e73_46, e73_47, e73_48, e73_49, e73_52, e73_53, e73_56, e73_57, e73_60, e73_62, e73_63, e73_66, e73_69, e73_70, e73_73, e73_74, e73_77, e73_80, e73_81, e73_84, e73_85, e73_88, e73_89, e73_92, e73_93, e73_96, e73_98, e73_101, e73_102, e73_105, e73_107, e73_108, e73_111, e73_112, e73_113, e73_115, e73_118, e73_119, e73_120, e73_121, e73_124, e73_127, e73_128, e73_131, e73_132, e73_134, e73_136, e73_139, e73_141, e73_142, e73_144, e73_145, e73_148, e73_151, e73_152, psh0, psh1, psh3, true_or, or_true, eq_self, Option.bind_some, List.length_nil, List.length_cons, Nat.reduceAdd, Nat.reduceLeDiff, Nat.zero_le, ↓reduceIte, Int.reduceLT, Int.reduceEq, Int.reduceLE, Int.reduceNeg, Int.reduceAdd, Int.reduceMul, Int.reduceSub, ne_eq, not_true_eq_false, not_false_eq_true, and_true, true_and, and_false, false_and, c3lt, c3gt, c3eq, Bool.false_eq_true, isK_wr, inA_wr, inR_wr, ks, hN, ci, q3, g1, g2, r3, k7, e1, ks2, r32, r12, u1, u2, u3, ev2, k72, e3, ks3, r33, k73, es8, g4, cs', b01]
/-- a lesson that can't -/
theorem x_choose_N {best bs : Int} {l5 l6 : AV} {i : Nat} (cs : CS h s) (k0 : 0 ≤ k) (k1 : k < 4) (N : Nat) (hN : mrd h s 6 = N) (N12 : N ≤ 12) (hi : i < N) (hb : rdX h s k i = false) : EV (d + 1) 73 7 [(2, s), (2, s + 25 + 2 * k), (0, best), (0, bs), (0, (i : Int)), l5, l6] [] h = EV (d + 1) 73 7 [(2, s), (2, s + 25 + 2 * k), (0, best), (0, bs), (0, ((i + 1 : Nat) : Int)), l5, l6] [] h := by
  obtain ⟨ks, -, r1, r2, r3, r4, -, -, k7, k8, k9, kl, kc⟩ := id cs
  obtain ⟨q1, q2, q3, q4, q5, q6⟩ := kc k k0 k1
  have ci : (i : Int) < N := by omega
  have w1 : w32 ((i : Int) + 1) = ((i + 1 : Nat) : Int) := by rw [w32_id (by omega) (by omega)]; omega
  have g1 := x_lets (d := d) (x := mrd h (s + 25 + 2 * k) 5) (l := (i : Int)) cs (by omega) (by omega)
  have g2 := x_canPay (d := d) (l := (i : Int)) cs k0 k1 (by omega) (by omega)
  have er : rdX h s k i = (decide (opn (mrd h (s + 25 + 2 * k) 5) (mrd h (s + 13 + i) 6) i) && !decide (mrd h (s + 25 + 2 * k) 3 < mrd h (s + 13 + i) 4)) := rfl
  rw [e73_7]
  conv => rhs; rw [← w1]
  by_cases ho : opn (mrd h (s + 25 + 2 * k) 5) (mrd h (s + 13 + i) 6) i
  · rw [if_pos ho] at g1
    by_cases hp : mrd h (s + 25 + 2 * k) 3 < mrd h (s + 13 + i) 4
    · rw [if_pos hp] at g2
      simp only [e73_0, e73_1, e73_2, e73_3, e73_4, e73_5, e73_9, e73_10, e73_13, e73_16, e73_17, e73_18, e73_21, e73_23, e73_26, e73_29, e73_30, e73_31, e73_33, e73_36, e73_39, e73_42, e73_43, e73_46, e73_47, e73_48, e73_49, e73_52, e73_53, e73_56, e73_57, e73_60, e73_62, e73_63, e73_66, e73_69, e73_70, e73_73, e73_74, e73_77, e73_80, e73_81, e73_84, e73_85, e73_88, e73_89, e73_91, e73_92, e73_93, e73_96, e73_98, e73_101, e73_102, e73_105, e73_107, e73_108, e73_111, e73_112, e73_113, e73_115, e73_118, e73_119, e73_120, e73_121, e73_124, e73_127, e73_128, e73_131, e73_132, e73_134, e73_136, e73_139, e73_141, e73_142, e73_144, e73_145, e73_148, e73_151, e73_152, psh0, psh1, psh3, true_or, or_true, eq_self, Option.bind_some, List.length_nil, List.length_cons, Nat.reduceAdd, Nat.reduceLeDiff, Nat.zero_le, ↓reduceIte, Int.reduceLT, Int.reduceEq, Int.reduceLE, Int.reduceNeg, Int.reduceAdd, Int.reduceMul, Int.reduceSub, ne_eq, not_true_eq_false, not_false_eq_true, and_true, true_and, and_false, false_and, c3lt, c3gt, c3eq, Bool.false_eq_true, isK_wr, inA_wr, inR_wr, ks, hN, ci, q3, g1, g2]
    · rw [er, decide_eq_true ho, decide_eq_false hp] at hb
      cases hb
  · rw [if_neg ho] at g1
    simp only [e73_0, e73_1, e73_2, e73_3, e73_4, e73_5, e73_9, e73_10, e73_13, e73_16, e73_17, e73_18, e73_21, e73_23, e73_26, e73_29, e73_30, e73_31, e73_33, e73_36, e73_39, e73_42, e73_43, e73_46, e73_47, e73_48, e73_49, e73_52, e73_53, e73_56, e73_57, e73_60, e73_62, e73_63, e73_66, e73_69, e73_70, e73_73, e73_74, e73_77, e73_80, e73_81, e73_84, e73_85, e73_88, e73_89, e73_91, e73_92, e73_93, e73_96, e73_98, e73_101, e73_102, e73_105, e73_107, e73_108, e73_111, e73_112, e73_113, e73_115, e73_118, e73_119, e73_120, e73_121, e73_124, e73_127, e73_128, e73_131, e73_132, e73_134, e73_136, e73_139, e73_141, e73_142, e73_144, e73_145, e73_148, e73_151, e73_152, psh0, psh1, psh3, true_or, or_true, eq_self, Option.bind_some, List.length_nil, List.length_cons, Nat.reduceAdd, Nat.reduceLeDiff, Nat.zero_le, ↓reduceIte, Int.reduceLT, Int.reduceEq, Int.reduceLE, Int.reduceNeg, Int.reduceAdd, Int.reduceMul, Int.reduceSub, ne_eq, not_true_eq_false, not_false_eq_true, and_true, true_and, and_false, false_and, c3lt, c3gt, c3eq, Bool.false_eq_true, isK_wr, inA_wr, inR_wr, ks, hN, ci, q3, g1]
theorem swX_vx {h0 : AM} (hvx : VX h0 h s) (k0 : 0 ≤ k) (M : Nat) (hl : ∀ p : Nat, p < M → 0 ≤ mrd h0 (s + 26 + 2 * k) p) : swX h s k M = swX h0 s k M ∧ rdX h s k = rdX h0 s k ∧ dyX h s k = dyX h0 s k := by
  have eC : ∀ j, mrd h (s + 25 + 2 * k) j = mrd h0 (s + 25 + 2 * k) j := fun j => hvx.2 _ _ (by omega) (by omega)
  have eA : ∀ j, mrd h (s + 26 + 2 * k) j = mrd h0 (s + 26 + 2 * k) j := fun j => hvx.2 _ _ (by omega) (by omega)
  have eO : ∀ (l : Nat) (j : Int), mrd h (s + 13 + l) j = mrd h0 (s + 13 + l) j := fun l j => hvx.2 _ _ (by omega) (by omega)
  have e8 : mrd h s 8 = mrd h0 s 8 := hvx.2 _ _ (by omega) (by omega)
  refine ⟨funext fun l => ?_, ?_, ?_⟩
  · unfold swX
    rw [e8, eO, kp_congr (g := fun p => mrd h0 (s + 13 + mrd h0 (s + 26 + 2 * k) p) 1) M (fun _ _ => rfl) (fun p hp => by
      show mrd h (s + 13 + mrd h (s + 26 + 2 * k) p) 1 = _
      rw [eA]
      exact hvx.2 _ _ (by have := hl p hp; omega) (by have := hl p hp; omega))]
  · unfold rdX
    rw [eC, eC]
    simp only [eO]
  · unfold dyX
    simp only [eO, eC]
theorem x_choose_loop {h0 : AM} (hs0 : CS h0 s) (k0 : 0 ≤ k) (k1 : k < 4) (M : Nat) (hM : mrd h0 (s + 25 + 2 * k) 6 = M) (hl : ∀ p : Nat, p < M → 0 ≤ mrd h0 (s + 26 + 2 * k) p ∧ mrd h0 (s + 26 + 2 * k) p < 12 ∧ mrd h0 (s + 13 + mrd h0 (s + 26 + 2 * k) p) 2 = vow (mrd h0 (s + 13 + mrd h0 (s + 26 + 2 * k) p) 1)) (N : Nat) (hN : mrd h0 s 6 = N) (N12 : N ≤ 12) (hv : ∀ l : Nat, l < N → mrd h0 (s + 13 + l) 2 = vow (mrd h0 (s + 13 + l) 1)) (hd : ∀ l : Nat, l < N → 1 ≤ mrd h0 (s + 13 + l) 3 ∧ mrd h0 (s + 13 + l) 3 ≤ 30) (hg : 0 ≤ mrd h0 (s + 25 + 2 * k) 2 ∧ mrd h0 (s + 25 + 2 * k) 2 ≤ 9) (hr : ∀ l : Nat, l < N → bI (mrd h0 (s + 25 + 2 * k) 5) l = false → M < 12) (n : Nat) : ∀ (i : Nat) (h : AM) (l5 l6 : AV), i + n = N → VX h0 h s → ∃ h', EV (d + 1) 73 7 [(2, s), (2, s + 25 + 2 * k), (0, (chF (rdX h0 s k) (swX h0 s k M) (dyX h0 s k) i).1), (0, b01 (chF (rdX h0 s k) (swX h0 s k M) (dyX h0 s k) i).2), (0, (i : Int)), l5, l6] [] h = some ((0, (chF (rdX h0 s k) (swX h0 s k M) (dyX h0 s k) N).1), h') ∧ VX h0 h' s := by
  induction n with
  | zero =>
    intro i h l5 l6 hi hvx
    have e : i = N := by omega
    subst e
    obtain ⟨ks, -⟩ := CS_cong hvx.1 hvx.2 hs0
    have e6 : mrd h s 6 = i := by rw [hvx.2 s 6 (by omega) (by omega), hN]
    refine ⟨h, ?_, hvx⟩
    rw [e73_7]
    simp only [e73_9, e73_10, e73_13, e73_151, e73_152, psh0, psh1, psh3, true_or, or_true, eq_self, Option.bind_some, List.length_nil, List.length_cons, Nat.reduceAdd, Nat.reduceLeDiff, Nat.zero_le, ↓reduceIte, Int.reduceLT, Int.reduceEq, Int.reduceLE, Int.reduceNeg, Int.reduceAdd, Int.reduceMul, Int.reduceSub, ne_eq, not_true_eq_false, not_false_eq_true, and_true, true_and, and_false, false_and, c3lt, c3gt, c3eq, Bool.false_eq_true, isK_wr, inA_wr, inR_wr, ks, e6, Int.lt_irrefl]
  | succ n ih =>
    intro i h l5 l6 hi hvx
    have cs := CS_cong hvx.1 hvx.2 hs0
    obtain ⟨esw, erd, edy⟩ := swX_vx hvx k0 M (fun p hp => (hl p hp).1)
    have e6 : mrd h s 6 = N := by rw [hvx.2 s 6 (by omega) (by omega), hN]
    have eC : ∀ j, mrd h (s + 25 + 2 * k) j = mrd h0 (s + 25 + 2 * k) j := fun j => hvx.2 _ _ (by omega) (by omega)
    have eO : ∀ (l : Nat) (j : Int), mrd h (s + 13 + l) j = mrd h0 (s + 13 + l) j := fun l j => hvx.2 _ _ (by omega) (by omega)
    have ek : chF (rdX h0 s k) (swX h0 s k M) (dyX h0 s k) (i + 1) = if rdX h0 s k i = true then (if (chF (rdX h0 s k) (swX h0 s k M) (dyX h0 s k) i).1 = -1 ∨ (swX h0 s k M i = true ∧ (chF (rdX h0 s k) (swX h0 s k M) (dyX h0 s k) i).2 = false) ∨ (swX h0 s k M i = (chF (rdX h0 s k) (swX h0 s k M) (dyX h0 s k) i).2 ∧ dyX h0 s k i < dyX h0 s k (chF (rdX h0 s k) (swX h0 s k M) (dyX h0 s k) i).1.toNat) then ((i : Int), swX h0 s k M i) else chF (rdX h0 s k) (swX h0 s k M) (dyX h0 s k) i) else chF (rdX h0 s k) (swX h0 s k M) (dyX h0 s k) i := rfl
    cases hb : rdX h0 s k i with
    | false =>
      rw [hb, if_neg (by decide)] at ek
      obtain ⟨h3, e3, e4⟩ := ih (i + 1) h l5 l6 (by omega) hvx
      rw [ek] at e3
      exact ⟨h3, (x_choose_N cs k0 k1 N e6 N12 (by omega) (by rw [erd]; exact hb)).trans e3, e4⟩
    | true =>
      rw [hb, if_pos rfl] at ek
      have hq := chF_rng (rdX h0 s k) (swX h0 s k M) (dyX h0 s k) i
      generalize chF (rdX h0 s k) (swX h0 s k M) (dyX h0 s k) i = B at ek hq
      have er : rdX h0 s k i = (decide (opn (mrd h0 (s + 25 + 2 * k) 5) (mrd h0 (s + 13 + i) 6) i) && !decide (mrd h0 (s + 25 + 2 * k) 3 < mrd h0 (s + 13 + i) 4)) := rfl
      rw [hb] at er
      have er' := er.symm
      rw [Bool.and_eq_true, decide_eq_true_iff, Bool.not_eq_true', decide_eq_false_iff_not] at er'
      have g1 := x_lets (d := d) (x := mrd h (s + 25 + 2 * k) 5) (l := (i : Int)) cs (by omega) (by omega)
      rw [eO, eC, if_pos er'.1, ← eC] at g1
      have g2 := x_canPay (d := d) (l := (i : Int)) cs k0 k1 (by omega) (by omega)
      rw [eC, eO, if_neg er'.2] at g2
      have hM12 : M < 12 := hr i (by omega) (by have := er'.1.1; rw [Int.toNat_natCast] at this; exact this)
      obtain ⟨h3, e3, e4⟩ := x_choose_A (d := d) (best := B.1) (bs := b01 B.2) (l5 := l5) (l6 := l6) (i := i) cs k0 k1 M (by rw [eC]; exact hM) hM12 (fun p hp => by
        obtain ⟨a1, a2, a3⟩ := hl p hp
        have eA : mrd h (s + 26 + 2 * k) p = mrd h0 (s + 26 + 2 * k) p := hvx.2 _ _ (by omega) (by omega)
        have eo : ∀ j, mrd h (s + 13 + mrd h0 (s + 26 + 2 * k) p) j = mrd h0 (s + 13 + mrd h0 (s + 26 + 2 * k) p) j := fun j => hvx.2 _ _ (by omega) (by omega)
        rw [eA, eo, eo]
        exact ⟨a1, a2, a3⟩) N e6 N12 (by omega) (by rw [eO, eO]; exact hv i (by omega)) g1 g2
      rw [esw] at e3
      have vx3 := hvx.trans e4
      have cs3 := CS_cong vx3.1 vx3.2 hs0
      have gd : ∀ l : Nat, l < N → EV d 70 0 [(2, s), (2, s + 25 + 2 * k), (0, (l : Int)), (3, 0)] [] h3 = some ((0, dyX h0 s k l), h3) := fun l hl' => by
        have eo : ∀ j, mrd h3 (s + 13 + l) j = mrd h0 (s + 13 + l) j := fun j => vx3.2 _ _ (by omega) (by omega)
        have ec : ∀ j, mrd h3 (s + 25 + 2 * k) j = mrd h0 (s + 25 + 2 * k) j := fun j => vx3.2 _ _ (by omega) (by omega)
        rw [x_daysFor cs3 k0 k1 (by omega) (by omega) (by rw [eo]; exact hd l hl') (by rw [ec]; exact hg), eo, ec]
        rfl
      obtain ⟨l6', e5⟩ := x_choose_B (d := d) (h := h3) (s := s) (a := s + 25 + 2 * k) (best := B.1) (bs := B.2) (sd := swX h0 s k M i) (i := i) (l6 := l6) (D2 := dyX h0 s k B.1.toNat) cs3.1 (by omega) (gd i (by omega)) (fun hne => by
        have := gd B.1.toNat (by omega)
        rw [Int.toNat_of_nonneg (by omega)] at this
        exact this)
      obtain ⟨h4, e7, e8⟩ := ih (i + 1) h3 (0, b01 (swX h0 s k M i)) l6' (by omega) vx3
      refine ⟨h4, ?_, e8⟩
      rw [e3, e5, ← e7, ek]
      by_cases cc : B.1 = -1 ∨ (swX h0 s k M i = true ∧ B.2 = false) ∨ (swX h0 s k M i = B.2 ∧ dyX h0 s k i < dyX h0 s k B.1.toNat)
      · rw [if_pos cc, if_pos cc, if_pos cc]
      · rw [if_neg cc, if_neg cc, if_neg cc]
theorem x_choose {h0 : AM} (hs0 : CS h0 s) (k0 : 0 ≤ k) (k1 : k < 4) (M : Nat) (hM : mrd h0 (s + 25 + 2 * k) 6 = M) (hl : ∀ p : Nat, p < M → 0 ≤ mrd h0 (s + 26 + 2 * k) p ∧ mrd h0 (s + 26 + 2 * k) p < 12 ∧ mrd h0 (s + 13 + mrd h0 (s + 26 + 2 * k) p) 2 = vow (mrd h0 (s + 13 + mrd h0 (s + 26 + 2 * k) p) 1)) (N : Nat) (hN : mrd h0 s 6 = N) (N12 : N ≤ 12) (hv : ∀ l : Nat, l < N → mrd h0 (s + 13 + l) 2 = vow (mrd h0 (s + 13 + l) 1)) (hd : ∀ l : Nat, l < N → 1 ≤ mrd h0 (s + 13 + l) 3 ∧ mrd h0 (s + 13 + l) 3 ≤ 30) (hg : 0 ≤ mrd h0 (s + 25 + 2 * k) 2 ∧ mrd h0 (s + 25 + 2 * k) 2 ≤ 9) (hr : ∀ l : Nat, l < N → bI (mrd h0 (s + 25 + 2 * k) 5) l = false → M < 12) : ∃ h', EV (d + 1) 73 0 [(2, s), (2, s + 25 + 2 * k), (3, 0), (3, 0), (3, 0), (3, 0), (3, 0)] [] h0 = some ((0, (chF (rdX h0 s k) (swX h0 s k M) (dyX h0 s k) N).1), h') ∧ VX h0 h' s := by
  obtain ⟨h4, e7, e8⟩ := x_choose_loop (d := d) hs0 k0 k1 M hM hl N hN N12 hv hd hg hr N 0 h0 (3, 0) (3, 0) (by omega) VX.rf
  refine ⟨h4, Eq.trans ?_ e7, e8⟩
  simp only [e73_0, e73_1, e73_2, e73_3, e73_4, e73_5]
  rfl
end

/-! life -/
def RW (h : AM) (t n lo : Int) : Int := if 0 ≤ t ∧ t < 4 then (if mrd h 237 t < 0 then 3 else if mrd h 237 t < n then 4 else if lo ≤ n ∧ n ≤ 12 then 0 else 5) else 1
/-- where a row of lessons can't go on -/
def slF (nd f : Nat → Int) : Nat → Nat → Int → Int
  | 0, _, _ => -1
  | n + 1, i, kn => if opn kn (nd (f i).toNat) (f i) then slF nd f n (i + 1) (i_or kn (i_shl 1 (f i))) else (i : Int)
theorem slF_congr {nd f nd' f' : Nat → Int} : ∀ (n i : Nat) (kn : Int), (∀ j, i ≤ j → j < i + n → f j = f' j) → (∀ j, i ≤ j → j < i + n → nd (f j).toNat = nd' (f j).toNat) → slF nd f n i kn = slF nd' f' n i kn
  | 0, _, _, _, _ => rfl
  | n + 1, i, kn, h1, h2 => by
    have e := h2 i (by omega) (by omega)
    rw [slF, slF, ← h1 i (by omega) (by omega), e]
    by_cases c : opn kn (nd' (f i).toNat) (f i)
    · rw [if_pos c, if_pos c]
      exact slF_congr n (i + 1) _ (fun j a b => h1 j (by omega) (by omega)) (fun j a b => h2 j (by omega) (by omega))
    · rw [if_neg c, if_neg c]
theorem slF_rng {nd f : Nat → Int} : ∀ (n i : Nat) (kn : Int), -1 ≤ slF nd f n i kn ∧ (slF nd f n i kn < 0 → slF nd f n i kn = -1)
  | 0, _, _ => by rw [slF]; omega
  | n + 1, i, kn => by
    rw [slF]
    have := slF_rng (nd := nd) (f := f) n (i + 1) (i_or kn (i_shl 1 (f i)))
    split
    · exact this
    · omega
section
variable {d : Nat} {h : AM} {s a b c k l p t v w x y z : Int}
theorem x_askRow (k0 : isK h 0 10) (x0 : mrd h 0 0 = 1) (hc : 0 ≤ t → t < 4 → CT h t) (hr : 0 ≤ t → t < 4 → RTry (mrd h) t) : EV (d + 1) 167 0 [(2, 0), (0, t), (0, x), (0, y)] [] h = some ((0, RW h t x y), h) := by
  have g := x_isTray (d := d) (h := h) (c := t)
  unfold RW
  by_cases ct : 0 ≤ t ∧ t < 4
  · rw [if_pos ct] at g ⊢
    obtain ⟨q1, q2, q3, q4, q5, q6⟩ := hc ct.1 ct.2
    rcases hr ct.1 ct.2 with ⟨e1, e2⟩ | ⟨e1, -, e3, -⟩
    · rw [if_pos (by omega)]
      simp only [e167_0, e167_1, e167_4, e167_7, e167_8, e167_9, e167_10, e167_13, e167_14, e167_15, e167_18, e167_21, e167_22, e167_23, e167_24, e167_25, e167_28, e167_29, e167_30, e167_33, e167_36, e167_37, e167_38, e167_39, e167_40, e167_43, e167_44, e167_46, e167_49, e167_50, e167_53, e167_54, psh0, psh1, psh3, true_or, or_true, eq_self, Option.bind_some, List.length_nil, List.length_cons, Nat.reduceAdd, Nat.reduceLeDiff, Nat.zero_le, ↓reduceIte, Int.reduceLT, Int.reduceEq, Int.reduceLE, Int.reduceNeg, Int.reduceAdd, Int.reduceMul, Int.reduceSub, ne_eq, not_true_eq_false, not_false_eq_true, and_true, true_and, and_false, false_and, c3lt, c3gt, c3eq, Bool.false_eq_true, isK_wr, inA_wr, inR_wr, k0, x0, g, q1, q2, q3, e1]
    · rw [if_neg (by omega)]
      by_cases cp : mrd h 237 t < x
      · rw [if_pos cp]
        simp only [e167_0, e167_1, e167_4, e167_7, e167_8, e167_9, e167_10, e167_13, e167_14, e167_15, e167_18, e167_21, e167_22, e167_23, e167_24, e167_25, e167_28, e167_29, e167_30, e167_33, e167_36, e167_37, e167_38, e167_39, e167_40, e167_43, e167_44, e167_46, e167_49, e167_50, e167_53, e167_54, psh0, psh1, psh3, true_or, or_true, eq_self, Option.bind_some, List.length_nil, List.length_cons, Nat.reduceAdd, Nat.reduceLeDiff, Nat.zero_le, ↓reduceIte, Int.reduceLT, Int.reduceEq, Int.reduceLE, Int.reduceNeg, Int.reduceAdd, Int.reduceMul, Int.reduceSub, ne_eq, not_true_eq_false, not_false_eq_true, and_true, true_and, and_false, false_and, c3lt, c3gt, c3eq, Bool.false_eq_true, isK_wr, inA_wr, inR_wr, k0, x0, g, q1, q2, q3, e1, e3.1, cp]
      rw [if_neg cp]
      by_cases c1 : x < y
      · rw [if_neg (by omega)]
        simp only [e167_0, e167_1, e167_4, e167_7, e167_8, e167_9, e167_10, e167_13, e167_14, e167_15, e167_18, e167_21, e167_22, e167_23, e167_24, e167_25, e167_28, e167_29, e167_30, e167_33, e167_36, e167_37, e167_38, e167_39, e167_40, e167_43, e167_44, e167_46, e167_49, e167_50, e167_53, e167_54, psh0, psh1, psh3, true_or, or_true, eq_self, Option.bind_some, List.length_nil, List.length_cons, Nat.reduceAdd, Nat.reduceLeDiff, Nat.zero_le, ↓reduceIte, Int.reduceLT, Int.reduceEq, Int.reduceLE, Int.reduceNeg, Int.reduceAdd, Int.reduceMul, Int.reduceSub, ne_eq, not_true_eq_false, not_false_eq_true, and_true, true_and, and_false, false_and, c3lt, c3gt, c3eq, Bool.false_eq_true, isK_wr, inA_wr, inR_wr, k0, x0, g, q1, q2, q3, e1, e3.1, cp, c1]
      by_cases c2 : 12 < x
      · rw [if_neg (by omega)]
        simp only [e167_0, e167_1, e167_4, e167_7, e167_8, e167_9, e167_10, e167_13, e167_14, e167_15, e167_18, e167_21, e167_22, e167_23, e167_24, e167_25, e167_28, e167_29, e167_30, e167_33, e167_36, e167_37, e167_38, e167_39, e167_40, e167_43, e167_44, e167_46, e167_49, e167_50, e167_53, e167_54, psh0, psh1, psh3, true_or, or_true, eq_self, Option.bind_some, List.length_nil, List.length_cons, Nat.reduceAdd, Nat.reduceLeDiff, Nat.zero_le, ↓reduceIte, Int.reduceLT, Int.reduceEq, Int.reduceLE, Int.reduceNeg, Int.reduceAdd, Int.reduceMul, Int.reduceSub, ne_eq, not_true_eq_false, not_false_eq_true, and_true, true_and, and_false, false_and, c3lt, c3gt, c3eq, Bool.false_eq_true, isK_wr, inA_wr, inR_wr, k0, x0, g, q1, q2, q3, e1, e3.1, cp, c1, c2]
      · rw [if_pos (by omega)]
        simp only [e167_0, e167_1, e167_4, e167_7, e167_8, e167_9, e167_10, e167_13, e167_14, e167_15, e167_18, e167_21, e167_22, e167_23, e167_24, e167_25, e167_28, e167_29, e167_30, e167_33, e167_36, e167_37, e167_38, e167_39, e167_40, e167_43, e167_44, e167_46, e167_49, e167_50, e167_53, e167_54, psh0, psh1, psh3, true_or, or_true, eq_self, Option.bind_some, List.length_nil, List.length_cons, Nat.reduceAdd, Nat.reduceLeDiff, Nat.zero_le, ↓reduceIte, Int.reduceLT, Int.reduceEq, Int.reduceLE, Int.reduceNeg, Int.reduceAdd, Int.reduceMul, Int.reduceSub, ne_eq, not_true_eq_false, not_false_eq_true, and_true, true_and, and_false, false_and, c3lt, c3gt, c3eq, Bool.false_eq_true, isK_wr, inA_wr, inR_wr, k0, x0, g, q1, q2, q3, e1, e3.1, cp, c1, c2]
  · rw [if_neg ct] at g ⊢
    simp only [e167_0, e167_1, e167_4, e167_7, e167_8, e167_9, e167_10, e167_13, e167_14, e167_15, e167_18, e167_21, e167_22, e167_23, e167_24, e167_25, e167_28, e167_29, e167_30, e167_33, e167_36, e167_37, e167_38, e167_39, e167_40, e167_43, e167_44, e167_46, e167_49, e167_50, e167_53, e167_54, psh0, psh1, psh3, true_or, or_true, eq_self, Option.bind_some, List.length_nil, List.length_cons, Nat.reduceAdd, Nat.reduceLeDiff, Nat.zero_le, ↓reduceIte, Int.reduceLT, Int.reduceEq, Int.reduceLE, Int.reduceNeg, Int.reduceAdd, Int.reduceMul, Int.reduceSub, ne_eq, not_true_eq_false, not_false_eq_true, and_true, true_and, and_false, false_and, c3lt, c3gt, c3eq, Bool.false_eq_true, isK_wr, inA_wr, inR_wr, k0, g]
theorem x_hasAll_loop (hct : CT h t) (ks : isK h s 6) (N : Int) (hN : mrd h s 6 = N) (m : Nat) (m60 : m ≤ 60) (n : Nat) : ∀ i : Nat, i + n = m → EV (d + 1) 66 2 [(2, s), (2, 2 + 2 * t), (0, (m : Int)), (0, (i : Int))] [] h = some ((0, if fI (fun p => decide (¬ (0 ≤ mrd h (3 + 2 * t) p ∧ mrd h (3 + 2 * t) p < N))) i n = m then 1 else 0), h) := by
  obtain ⟨q1, q2, q3, q4, q5, q6⟩ := hct
  induction n with
  | zero =>
    intro i hi
    have e : i = m := by omega
    subst e
    rw [e66_2, fI, if_pos rfl]
    simp only [e66_0, e66_1, e66_3, e66_4, e66_7, e66_8, e66_9, e66_12, e66_13, e66_14, e66_17, e66_20, e66_21, e66_22, e66_25, e66_28, e66_29, psh0, psh1, psh3, true_or, or_true, eq_self, Option.bind_some, List.length_nil, List.length_cons, Nat.reduceAdd, Nat.reduceLeDiff, Nat.zero_le, ↓reduceIte, Int.reduceLT, Int.reduceEq, Int.reduceLE, Int.reduceNeg, Int.reduceAdd, Int.reduceMul, Int.reduceSub, ne_eq, not_true_eq_false, not_false_eq_true, and_true, true_and, and_false, false_and, c3lt, c3gt, c3eq, Bool.false_eq_true, isK_wr, inA_wr, inR_wr, Int.lt_irrefl]
  | succ n ih =>
    intro i hi
    have ci : (i : Int) < m := by omega
    have w1 : w32 ((i : Int) + 1) = ((i + 1 : Nat) : Int) := by rw [w32_id (by omega) (by omega)]; omega
    have i1 : inA h (3 + 2 * t) 19 i := ⟨q5, by omega, by rw [q6]; omega⟩
    have g := x_hasLesson (d := d) (c := mrd h (3 + 2 * t) i) ks
    rw [hN] at g
    rw [e66_2, fI]
    by_cases c : 0 ≤ mrd h (3 + 2 * t) i ∧ mrd h (3 + 2 * t) i < N
    · rw [if_pos c] at g
      rw [if_neg (show ¬ decide (¬ (0 ≤ mrd h (3 + 2 * t) i ∧ mrd h (3 + 2 * t) i < N)) = true by rw [decide_eq_true_iff]; exact fun z => z c), ← ih (i + 1) (by omega)]
      simp only [e66_0, e66_1, e66_3, e66_4, e66_7, e66_8, e66_9, e66_12, e66_13, e66_14, e66_17, e66_20, e66_21, e66_22, e66_25, e66_28, e66_29, psh0, psh1, psh3, true_or, or_true, eq_self, Option.bind_some, List.length_nil, List.length_cons, Nat.reduceAdd, Nat.reduceLeDiff, Nat.zero_le, ↓reduceIte, Int.reduceLT, Int.reduceEq, Int.reduceLE, Int.reduceNeg, Int.reduceAdd, Int.reduceMul, Int.reduceSub, ne_eq, not_true_eq_false, not_false_eq_true, and_true, true_and, and_false, false_and, c3lt, c3gt, c3eq, Bool.false_eq_true, isK_wr, inA_wr, inR_wr, ci, ks, q3, q4, i1, g, w1]
    · rw [if_neg c] at g
      rw [if_pos (show decide (¬ (0 ≤ mrd h (3 + 2 * t) i ∧ mrd h (3 + 2 * t) i < N)) = true from decide_eq_true c), if_neg (show ¬ i = m by omega)]
      simp only [e66_0, e66_1, e66_3, e66_4, e66_7, e66_8, e66_9, e66_12, e66_13, e66_14, e66_17, e66_20, e66_21, e66_22, e66_25, e66_28, e66_29, psh0, psh1, psh3, true_or, or_true, eq_self, Option.bind_some, List.length_nil, List.length_cons, Nat.reduceAdd, Nat.reduceLeDiff, Nat.zero_le, ↓reduceIte, Int.reduceLT, Int.reduceEq, Int.reduceLE, Int.reduceNeg, Int.reduceAdd, Int.reduceMul, Int.reduceSub, ne_eq, not_true_eq_false, not_false_eq_true, and_true, true_and, and_false, false_and, c3lt, c3gt, c3eq, Bool.false_eq_true, isK_wr, inA_wr, inR_wr, ci, ks, q3, q4, i1, g]
theorem x_hasAll (hct : CT h t) (ks : isK h s 6) (N : Int) (hN : mrd h s 6 = N) (m : Nat) (m60 : m ≤ 60) : EV (d + 1) 66 0 [(2, s), (2, 2 + 2 * t), (0, (m : Int)), (3, 0)] [] h = some ((0, if fI (fun p => decide (¬ (0 ≤ mrd h (3 + 2 * t) p ∧ mrd h (3 + 2 * t) p < N))) 0 m = m then 1 else 0), h) := by
  refine Eq.trans ?_ (x_hasAll_loop (d := d) hct ks N hN m m60 m 0 (by omega))
  simp only [e66_0, e66_1, e66_3, e66_4, e66_7, e66_8, e66_9, e66_12, e66_13, e66_14, e66_17, e66_20, e66_21, e66_22, e66_25, e66_28, e66_29, psh0, psh1, psh3, true_or, or_true, eq_self, Option.bind_some, List.length_nil, List.length_cons, Nat.reduceAdd, Nat.reduceLeDiff, Nat.zero_le, ↓reduceIte, Int.reduceLT, Int.reduceEq, Int.reduceLE, Int.reduceNeg, Int.reduceAdd, Int.reduceMul, Int.reduceSub, ne_eq, not_true_eq_false, not_false_eq_true, and_true, true_and, and_false, false_and, c3lt, c3gt, c3eq, Bool.false_eq_true, isK_wr, inA_wr, inR_wr]
  rfl
theorem x_stop_loop (hs : CS h s) (hct : CT h t) (m : Nat) (m60 : m ≤ 60) (hf : ∀ p : Nat, p < m → 0 ≤ mrd h (3 + 2 * t) p ∧ mrd h (3 + 2 * t) p < 12) (n : Nat) : ∀ (i : Nat) (kn : Int) (l6 : AV), i + n = m → EV (d + 1) 78 6 [(2, s), (2, 2 + 2 * t), (0, (m : Int)), (0, x), (0, kn), (0, (i : Int)), l6] [] h = some ((0, slF (fun l => mrd h (s + 13 + l) 6) (fun p => mrd h (3 + 2 * t) p) n i kn), h) := by
  obtain ⟨q1, q2, q3, q4, q5, q6⟩ := hct
  induction n with
  | zero =>
    intro i kn l6 hi
    have e : i = m := by omega
    subst e
    rw [e78_6, slF]
    simp only [e78_0, e78_1, e78_3, e78_4, e78_8, e78_9, e78_12, e78_13, e78_16, e78_18, e78_19, e78_20, e78_22, e78_23, e78_25, e78_27, e78_30, e78_33, e78_35, e78_36, e78_38, e78_39, e78_41, e78_42, e78_43, e78_45, e78_48, e78_51, e78_52, psh0, psh1, psh3, true_or, or_true, eq_self, Option.bind_some, List.length_nil, List.length_cons, Nat.reduceAdd, Nat.reduceLeDiff, Nat.zero_le, ↓reduceIte, Int.reduceLT, Int.reduceEq, Int.reduceLE, Int.reduceNeg, Int.reduceAdd, Int.reduceMul, Int.reduceSub, ne_eq, not_true_eq_false, not_false_eq_true, and_true, true_and, and_false, false_and, c3lt, c3gt, c3eq, Bool.false_eq_true, isK_wr, inA_wr, inR_wr, Int.lt_irrefl]
  | succ n ih =>
    intro i kn l6 hi
    have ci : (i : Int) < m := by omega
    have w1 : w32 ((i : Int) + 1) = ((i + 1 : Nat) : Int) := by rw [w32_id (by omega) (by omega)]; omega
    have i1 : inA h (3 + 2 * t) 19 i := ⟨q5, by omega, by rw [q6]; omega⟩
    have hp := hf i (by omega)
    have w2 : w32 (mrd h (3 + 2 * t) i) = mrd h (3 + 2 * t) i := w32_id (by omega) (by omega)
    have g := x_lets (d := d) (x := kn) (l := mrd h (3 + 2 * t) i) hs hp.1 hp.2
    rw [e78_6, slF, Int.toNat_of_nonneg hp.1]
    by_cases c : opn kn (mrd h (s + 13 + mrd h (3 + 2 * t) i) 6) (mrd h (3 + 2 * t) i)
    · rw [if_pos c] at g
      rw [if_pos c, ← ih (i + 1) _ (0, mrd h (3 + 2 * t) i) (by omega)]
      simp only [e78_0, e78_1, e78_3, e78_4, e78_8, e78_9, e78_12, e78_13, e78_16, e78_18, e78_19, e78_20, e78_22, e78_23, e78_25, e78_27, e78_30, e78_33, e78_35, e78_36, e78_38, e78_39, e78_41, e78_42, e78_43, e78_45, e78_48, e78_51, e78_52, psh0, psh1, psh3, true_or, or_true, eq_self, Option.bind_some, List.length_nil, List.length_cons, Nat.reduceAdd, Nat.reduceLeDiff, Nat.zero_le, ↓reduceIte, Int.reduceLT, Int.reduceEq, Int.reduceLE, Int.reduceNeg, Int.reduceAdd, Int.reduceMul, Int.reduceSub, ne_eq, not_true_eq_false, not_false_eq_true, and_true, true_and, and_false, false_and, c3lt, c3gt, c3eq, Bool.false_eq_true, isK_wr, inA_wr, inR_wr, ci, hs.1, q3, q4, i1, w2, g, w1]
    · rw [if_neg c] at g
      rw [if_neg c]
      simp only [e78_0, e78_1, e78_3, e78_4, e78_8, e78_9, e78_12, e78_13, e78_16, e78_18, e78_19, e78_20, e78_22, e78_23, e78_25, e78_27, e78_30, e78_33, e78_35, e78_36, e78_38, e78_39, e78_41, e78_42, e78_43, e78_45, e78_48, e78_51, e78_52, psh0, psh1, psh3, true_or, or_true, eq_self, Option.bind_some, List.length_nil, List.length_cons, Nat.reduceAdd, Nat.reduceLeDiff, Nat.zero_le, ↓reduceIte, Int.reduceLT, Int.reduceEq, Int.reduceLE, Int.reduceNeg, Int.reduceAdd, Int.reduceMul, Int.reduceSub, ne_eq, not_true_eq_false, not_false_eq_true, and_true, true_and, and_false, false_and, c3lt, c3gt, c3eq, Bool.false_eq_true, isK_wr, inA_wr, inR_wr, ci, hs.1, q3, q4, i1, w2, g]
theorem x_stop (hs : CS h s) (hct : CT h t) (m : Nat) (m60 : m ≤ 60) (hf : ∀ p : Nat, p < m → 0 ≤ mrd h (3 + 2 * t) p ∧ mrd h (3 + 2 * t) p < 12) : EV (d + 1) 78 0 [(2, s), (2, 2 + 2 * t), (0, (m : Int)), (0, x), (3, 0), (3, 0), (3, 0)] [] h = some ((0, slF (fun l => mrd h (s + 13 + l) 6) (fun p => mrd h (3 + 2 * t) p) m 0 x), h) := by
  refine Eq.trans ?_ (x_stop_loop (d := d) (x := x) hs hct m m60 hf m 0 x (3, 0) (by omega))
  simp only [e78_0, e78_1, e78_3, e78_4, e78_8, e78_9, e78_12, e78_13, e78_16, e78_18, e78_19, e78_20, e78_22, e78_23, e78_25, e78_27, e78_30, e78_33, e78_35, e78_36, e78_38, e78_39, e78_41, e78_42, e78_43, e78_45, e78_48, e78_51, e78_52, psh0, psh1, psh3, true_or, or_true, eq_self, Option.bind_some, List.length_nil, List.length_cons, Nat.reduceAdd, Nat.reduceLeDiff, Nat.zero_le, ↓reduceIte, Int.reduceLT, Int.reduceEq, Int.reduceLE, Int.reduceNeg, Int.reduceAdd, Int.reduceMul, Int.reduceSub, ne_eq, not_true_eq_false, not_false_eq_true, and_true, true_and, and_false, false_and, c3lt, c3gt, c3eq, Bool.false_eq_true, isK_wr, inA_wr, inR_wr]
  rfl
theorem m_numberOf (hm : CM h) (t0 : 0 ≤ t) (t1 : t < 4) (p0 : 0 ≤ p) (p1 : p < 60) : EV d 186 0 [(2, 235), (0, t), (0, p)] [] h = some ((1, mrd h 238 (60 * t + p)), h) := by
  have m6 : mrd h 235 6 = 238 := rf_235_6 hm.2.2
  have w1 : w32 (60 * t) = 60 * t := w32_id (by omega) (by omega)
  have w2 : w32 (60 * t + p) = 60 * t + p := w32_id (by omega) (by omega)
  have i1 : inA h 238 19 (60 * t + p) := ⟨kn_238 hm.2.1, by omega, by rw [ln_238 hm.2.1]; omega⟩
  simp only [e186_0, e186_1, e186_4, e186_6, e186_7, e186_8, e186_9, e186_10, e186_11, psh0, psh1, psh3, true_or, or_true, eq_self, Option.bind_some, List.length_nil, List.length_cons, Nat.reduceAdd, Nat.reduceLeDiff, Nat.zero_le, ↓reduceIte, Int.reduceLT, Int.reduceEq, Int.reduceLE, Int.reduceNeg, Int.reduceAdd, Int.reduceMul, Int.reduceSub, ne_eq, not_true_eq_false, not_false_eq_true, and_true, true_and, and_false, false_and, c3lt, c3gt, c3eq, Bool.false_eq_true, isK_wr, inA_wr, inR_wr, hm.1, m6, w1, w2, i1]
theorem m_life_1 (hm : CM h) (t0 : 0 ≤ t) (t1 : t < 4) (N : Int) (hN : mrd h 240 1 = N) (N0 : 0 ≤ N) (N12 : N ≤ 12) (m : Nat) (m60 : m ≤ 60) (l4 l5 : AV) (n : Nat) : ∀ i : Nat, i + n = m → EV (d + 1) 286 75 [(2, 235), (0, t), (0, (m : Int)), (0, (i : Int)), l4, l5] [] h = if fI (fun p => decide (¬ (0 ≤ mrd h 238 (60 * t + p) ∧ mrd h 238 (60 * t + p) < N))) i n = m then EV (d + 1) 286 114 [(2, 235), (0, t), (0, (m : Int)), (0, (m : Int)), l4, l5] [] h else some ((0, -1), mwr h 235 0 2) := by
  have wN : w32 (N - 1) = N - 1 := w32_id (by omega) (by omega)
  have i1 := inC hm (j := 1) (by decide) (by decide)
  induction n with
  | zero =>
    intro i hi
    have e : i = m := by omega
    subst e
    rw [e286_75, fI, if_pos rfl]
    simp only [e286_0, e286_1, e286_2, e286_5, e286_6, e286_7, e286_10, e286_11, e286_12, e286_15, e286_18, e286_19, e286_20, e286_23, e286_24, e286_25, e286_28, e286_29, e286_30, e286_33, e286_34, e286_35, e286_38, e286_39, e286_40, e286_43, e286_44, e286_45, e286_46, e286_49, e286_50, e286_51, e286_54, e286_55, e286_56, e286_57, e286_58, e286_61, e286_64, e286_67, e286_68, e286_69, e286_72, e286_73, e286_74, e286_76, e286_77, e286_80, e286_81, e286_82, e286_83, e286_86, e286_87, e286_88, e286_91, e286_92, e286_93, e286_94, e286_95, e286_96, e286_99, e286_102, e286_103, e286_104, e286_107, e286_108, e286_111, e286_115, e286_116, e286_117, e286_119, e286_121, e286_122, e286_125, e286_126, e286_127, e286_129, e286_132, e286_133, e286_135, e286_136, e286_137, e286_139, e286_142, e286_145, e286_147, e286_148, e286_149, e286_150, e286_152, e286_153, e286_154, e286_155, e286_158, e286_161, e286_162, e286_164, e286_167, psh0, psh1, psh3, true_or, or_true, eq_self, Option.bind_some, List.length_nil, List.length_cons, Nat.reduceAdd, Nat.reduceLeDiff, Nat.zero_le, ↓reduceIte, Int.reduceLT, Int.reduceEq, Int.reduceLE, Int.reduceNeg, Int.reduceAdd, Int.reduceMul, Int.reduceSub, ne_eq, not_true_eq_false, not_false_eq_true, and_true, true_and, and_false, false_and, c3lt, c3gt, c3eq, Bool.false_eq_true, isK_wr, inA_wr, inR_wr, Int.lt_irrefl]
  | succ n ih =>
    intro i hi
    have ci : (i : Int) < m := by omega
    have w1 : w32 ((i : Int) + 1) = ((i + 1 : Nat) : Int) := by rw [w32_id (by omega) (by omega)]; omega
    have g := m_numberOf (d := d) (p := (i : Int)) hm t0 t1 (by omega) (by omega)
    rw [e286_75, fI]
    by_cases c : 0 ≤ mrd h 238 (60 * t + i) ∧ mrd h 238 (60 * t + i) < N
    · have c' : 0 ≤ mrd h 238 (60 * t + i) ∧ mrd h 238 (60 * t + i) ≤ N - 1 := by omega
      rw [if_neg (show ¬ decide (¬ (0 ≤ mrd h 238 (60 * t + i) ∧ mrd h 238 (60 * t + i) < N)) = true by rw [decide_eq_true_iff]; exact fun z => z c), ← ih (i + 1) (by omega)]
      simp only [e286_0, e286_1, e286_2, e286_5, e286_6, e286_7, e286_10, e286_11, e286_12, e286_15, e286_18, e286_19, e286_20, e286_23, e286_24, e286_25, e286_28, e286_29, e286_30, e286_33, e286_34, e286_35, e286_38, e286_39, e286_40, e286_43, e286_44, e286_45, e286_46, e286_49, e286_50, e286_51, e286_54, e286_55, e286_56, e286_57, e286_58, e286_61, e286_64, e286_67, e286_68, e286_69, e286_72, e286_73, e286_74, e286_76, e286_77, e286_80, e286_81, e286_82, e286_83, e286_86, e286_87, e286_88, e286_91, e286_92, e286_93, e286_94, e286_95, e286_96, e286_99, e286_102, e286_103, e286_104, e286_107, e286_108, e286_111, e286_115, e286_116, e286_117, e286_119, e286_121, e286_122, e286_125, e286_126, e286_127, e286_129, e286_132, e286_133, e286_135, e286_136, e286_137, e286_139, e286_142, e286_145, e286_147, e286_148, e286_149, e286_150, e286_152, e286_153, e286_154, e286_155, e286_158, e286_161, e286_162, e286_164, e286_167, psh0, psh1, psh3, true_or, or_true, eq_self, Option.bind_some, List.length_nil, List.length_cons, Nat.reduceAdd, Nat.reduceLeDiff, Nat.zero_le, ↓reduceIte, Int.reduceLT, Int.reduceEq, Int.reduceLE, Int.reduceNeg, Int.reduceAdd, Int.reduceMul, Int.reduceSub, ne_eq, not_true_eq_false, not_false_eq_true, and_true, true_and, and_false, false_and, c3lt, c3gt, c3eq, Bool.false_eq_true, isK_wr, inA_wr, inR_wr, ci, hm.1, mC hm, i1, hN, wN, g, m_isIn, c', w1]
    · have c' : ¬ (0 ≤ mrd h 238 (60 * t + i) ∧ mrd h 238 (60 * t + i) ≤ N - 1) := by omega
      rw [if_pos (show decide (¬ (0 ≤ mrd h 238 (60 * t + i) ∧ mrd h 238 (60 * t + i) < N)) = true from decide_eq_true c), if_neg (show ¬ i = m by omega)]
      simp only [e286_0, e286_1, e286_2, e286_5, e286_6, e286_7, e286_10, e286_11, e286_12, e286_15, e286_18, e286_19, e286_20, e286_23, e286_24, e286_25, e286_28, e286_29, e286_30, e286_33, e286_34, e286_35, e286_38, e286_39, e286_40, e286_43, e286_44, e286_45, e286_46, e286_49, e286_50, e286_51, e286_54, e286_55, e286_56, e286_57, e286_58, e286_61, e286_64, e286_67, e286_68, e286_69, e286_72, e286_73, e286_74, e286_76, e286_77, e286_80, e286_81, e286_82, e286_83, e286_86, e286_87, e286_88, e286_91, e286_92, e286_93, e286_94, e286_95, e286_96, e286_99, e286_102, e286_103, e286_104, e286_107, e286_108, e286_111, e286_115, e286_116, e286_117, e286_119, e286_121, e286_122, e286_125, e286_126, e286_127, e286_129, e286_132, e286_133, e286_135, e286_136, e286_137, e286_139, e286_142, e286_145, e286_147, e286_148, e286_149, e286_150, e286_152, e286_153, e286_154, e286_155, e286_158, e286_161, e286_162, e286_164, e286_167, psh0, psh1, psh3, true_or, or_true, eq_self, Option.bind_some, List.length_nil, List.length_cons, Nat.reduceAdd, Nat.reduceLeDiff, Nat.zero_le, ↓reduceIte, Int.reduceLT, Int.reduceEq, Int.reduceLE, Int.reduceNeg, Int.reduceAdd, Int.reduceMul, Int.reduceSub, ne_eq, not_true_eq_false, not_false_eq_true, and_true, true_and, and_false, false_and, c3lt, c3gt, c3eq, Bool.false_eq_true, isK_wr, inA_wr, inR_wr, ci, hm.1, mC hm, i1, hN, wN, g, m_isIn, c', m_refuse]
theorem m_life_2 (hm : CM h) (t0 : 0 ≤ t) (t1 : t < 4) (m : Nat) (m60 : m ≤ 60) (hf : ∀ p : Nat, p < m → 0 ≤ mrd h 238 (60 * t + p) ∧ mrd h 238 (60 * t + p) < 12) (n : Nat) : ∀ (i : Nat) (kn : Int) (l5 : AV), i + n = m → EV (d + 2) 286 119 [(2, 235), (0, t), (0, (m : Int)), (0, kn), (0, (i : Int)), l5] [] h = some (if slF (fun l => mrd h 240 (52 + l)) (fun p => mrd h 238 (60 * t + p)) n i kn = -1 then ((0, -1), mwr h 235 0 8) else ((0, slF (fun l => mrd h 240 (52 + l)) (fun p => mrd h 238 (60 * t + p)) n i kn), h)) := by
  induction n with
  | zero =>
    intro i kn l5 hi
    have e : i = m := by omega
    subst e
    rw [e286_119, slF, if_pos rfl]
    simp only [e286_0, e286_1, e286_2, e286_5, e286_6, e286_7, e286_10, e286_11, e286_12, e286_15, e286_18, e286_19, e286_20, e286_23, e286_24, e286_25, e286_28, e286_29, e286_30, e286_33, e286_34, e286_35, e286_38, e286_39, e286_40, e286_43, e286_44, e286_45, e286_46, e286_49, e286_50, e286_51, e286_54, e286_55, e286_56, e286_57, e286_58, e286_61, e286_64, e286_67, e286_68, e286_69, e286_72, e286_73, e286_74, e286_75, e286_76, e286_77, e286_80, e286_81, e286_82, e286_83, e286_86, e286_87, e286_88, e286_91, e286_92, e286_93, e286_94, e286_95, e286_96, e286_99, e286_102, e286_103, e286_104, e286_107, e286_108, e286_111, e286_114, e286_115, e286_116, e286_117, e286_121, e286_122, e286_125, e286_126, e286_127, e286_129, e286_132, e286_133, e286_135, e286_136, e286_137, e286_139, e286_142, e286_145, e286_147, e286_148, e286_149, e286_150, e286_152, e286_153, e286_154, e286_155, e286_158, e286_161, e286_162, e286_164, e286_167, psh0, psh1, psh3, true_or, or_true, eq_self, Option.bind_some, List.length_nil, List.length_cons, Nat.reduceAdd, Nat.reduceLeDiff, Nat.zero_le, ↓reduceIte, Int.reduceLT, Int.reduceEq, Int.reduceLE, Int.reduceNeg, Int.reduceAdd, Int.reduceMul, Int.reduceSub, ne_eq, not_true_eq_false, not_false_eq_true, and_true, true_and, and_false, false_and, c3lt, c3gt, c3eq, Bool.false_eq_true, isK_wr, inA_wr, inR_wr, hm.1, Int.lt_irrefl, m_refuse]
  | succ n ih =>
    intro i kn l5 hi
    have ci : (i : Int) < m := by omega
    have w1 : w32 ((i : Int) + 1) = ((i + 1 : Nat) : Int) := by rw [w32_id (by omega) (by omega)]; omega
    have g := m_numberOf (d := d + 1) (p := (i : Int)) hm t0 t1 (by omega) (by omega)
    have hp := hf i (by omega)
    have w2 : w32 (mrd h 238 (60 * t + i)) = mrd h 238 (60 * t + i) := w32_id (by omega) (by omega)
    have g2 := m_isOpenTo (d := d) (x := kn) (l := mrd h 238 (60 * t + i)) hm hp.1 hp.2
    rw [e286_119, slF, Int.toNat_of_nonneg hp.1]
    by_cases c : opn kn (mrd h 240 (52 + mrd h 238 (60 * t + i))) (mrd h 238 (60 * t + i))
    · rw [if_pos c] at g2
      rw [if_pos c, ← ih (i + 1) _ (0, mrd h 238 (60 * t + i)) (by omega)]
      simp only [e286_0, e286_1, e286_2, e286_5, e286_6, e286_7, e286_10, e286_11, e286_12, e286_15, e286_18, e286_19, e286_20, e286_23, e286_24, e286_25, e286_28, e286_29, e286_30, e286_33, e286_34, e286_35, e286_38, e286_39, e286_40, e286_43, e286_44, e286_45, e286_46, e286_49, e286_50, e286_51, e286_54, e286_55, e286_56, e286_57, e286_58, e286_61, e286_64, e286_67, e286_68, e286_69, e286_72, e286_73, e286_74, e286_75, e286_76, e286_77, e286_80, e286_81, e286_82, e286_83, e286_86, e286_87, e286_88, e286_91, e286_92, e286_93, e286_94, e286_95, e286_96, e286_99, e286_102, e286_103, e286_104, e286_107, e286_108, e286_111, e286_114, e286_115, e286_116, e286_117, e286_121, e286_122, e286_125, e286_126, e286_127, e286_129, e286_132, e286_133, e286_135, e286_136, e286_137, e286_139, e286_142, e286_145, e286_147, e286_148, e286_149, e286_150, e286_152, e286_153, e286_154, e286_155, e286_158, e286_161, e286_162, e286_164, e286_167, psh0, psh1, psh3, true_or, or_true, eq_self, Option.bind_some, List.length_nil, List.length_cons, Nat.reduceAdd, Nat.reduceLeDiff, Nat.zero_le, ↓reduceIte, Int.reduceLT, Int.reduceEq, Int.reduceLE, Int.reduceNeg, Int.reduceAdd, Int.reduceMul, Int.reduceSub, ne_eq, not_true_eq_false, not_false_eq_true, and_true, true_and, and_false, false_and, c3lt, c3gt, c3eq, Bool.false_eq_true, isK_wr, inA_wr, inR_wr, ci, hm.1, g, w2, g2, w1]
    · rw [if_neg c] at g2
      rw [if_neg c, if_neg (show ¬ (i : Int) = -1 by omega)]
      simp only [e286_0, e286_1, e286_2, e286_5, e286_6, e286_7, e286_10, e286_11, e286_12, e286_15, e286_18, e286_19, e286_20, e286_23, e286_24, e286_25, e286_28, e286_29, e286_30, e286_33, e286_34, e286_35, e286_38, e286_39, e286_40, e286_43, e286_44, e286_45, e286_46, e286_49, e286_50, e286_51, e286_54, e286_55, e286_56, e286_57, e286_58, e286_61, e286_64, e286_67, e286_68, e286_69, e286_72, e286_73, e286_74, e286_75, e286_76, e286_77, e286_80, e286_81, e286_82, e286_83, e286_86, e286_87, e286_88, e286_91, e286_92, e286_93, e286_94, e286_95, e286_96, e286_99, e286_102, e286_103, e286_104, e286_107, e286_108, e286_111, e286_114, e286_115, e286_116, e286_117, e286_121, e286_122, e286_125, e286_126, e286_127, e286_129, e286_132, e286_133, e286_135, e286_136, e286_137, e286_139, e286_142, e286_145, e286_147, e286_148, e286_149, e286_150, e286_152, e286_153, e286_154, e286_155, e286_158, e286_161, e286_162, e286_164, e286_167, psh0, psh1, psh3, true_or, or_true, eq_self, Option.bind_some, List.length_nil, List.length_cons, Nat.reduceAdd, Nat.reduceLeDiff, Nat.zero_le, ↓reduceIte, Int.reduceLT, Int.reduceEq, Int.reduceLE, Int.reduceNeg, Int.reduceAdd, Int.reduceMul, Int.reduceSub, ne_eq, not_true_eq_false, not_false_eq_true, and_true, true_and, and_false, false_and, c3lt, c3gt, c3eq, Bool.false_eq_true, isK_wr, inA_wr, inR_wr, ci, hm.1, g, w2, g2]
end
theorem fI_all {P : Nat → Bool} {m : Nat} (h : fI P 0 m = m) : ∀ j, j < m → P j = false := fun j hj => fI_bef m 0 j (by omega) (by omega)
theorem op_life : Op_life Inv := by
  intro d h t n hI i0 i1
  obtain ⟨s, e8, hs, k0, kM, cs, ds⟩ := ctx hI
  have ds' := ds
  have ks := cs.1
  have r1 := cs.2.2.1
  have r2 := cs.2.2.2.1
  have r3 := cs.2.2.2.2.1
  have kl := cs.2.2.2.2.2.2.2.2.2.2.2.1
  have kc := cs.2.2.2.2.2.2.2.2.2.2.2.2
  obtain ⟨d5, d6, d7, d8, dl, dc⟩ := ds
  have hm : ∀ v, CM (mwr (mwr (mwr h 0 11 v) 235 1 0) 235 0 0) := fun v => CM_q (CM_of hI)
  have x0 : mrd h 0 0 = 1 := rf_0_0 hI.2.1.1
  have gx := x_askRow (d := d + 58) (t := t) (x := n) (y := 1) k0 x0 (fun t0 t1 => CT_of hI.1 hI.2.1.1 t0 t1) (fun t0 t1 => hI.2.1.2.2.1 t t0 t1)
  have m5 : mrd h 235 5 = 237 := rf_235_5 hI.2.1.1
  have gtm := fun v => m_isTray (d := d + 58) (c := t) (hm v).1
  unfold RW at gx
  by_cases ct : 0 ≤ t ∧ t < 4
  · rw [if_pos ct] at gx
    have ct3 : 0 ≤ t ∧ t ≤ 3 := by omega
    simp only [if_pos ct3] at gtm
    have hct := CT_of hI.1 hI.2.1.1 ct.1 ct.2
    obtain ⟨q1, q2, q3, q4, q5, q6⟩ := id hct
    have j2 : inA h 237 16 t := ⟨kn_237 hI.1, ct.1, by rw [ln_237 hI.1]; omega⟩
    have rt : RTry (mrd h) t := hI.2.1.2.2.1 t ct.1 ct.2
    by_cases c3 : mrd h 237 t < 0
    · rw [if_pos c3] at gx
      refine opq hI (-1) 3 ?_ ?_
      · simp only [e138_0, e138_1, e138_2, e138_3, e138_4, e138_7, e138_8, e138_9, e138_12, e138_13, e138_14, e138_17, e138_18, e138_19, e138_22, e138_23, e138_24, e138_26, e138_27, e138_30, e138_32, e138_33, e138_36, e138_39, e138_40, e138_41, e138_44, e138_45, e138_46, e138_47, e138_50, e138_52, e138_53, e138_54, e138_57, e138_60, psh0, psh1, psh3, true_or, or_true, eq_self, Option.bind_some, List.length_nil, List.length_cons, Nat.reduceAdd, Nat.reduceLeDiff, Nat.zero_le, ↓reduceIte, Int.reduceLT, Int.reduceEq, Int.reduceLE, Int.reduceNeg, Int.reduceAdd, Int.reduceMul, Int.reduceSub, ne_eq, not_true_eq_false, not_false_eq_true, and_true, true_and, and_false, false_and, c3lt, c3gt, c3eq, Bool.false_eq_true, isK_wr, inA_wr, inR_wr, k0, gx, x_refuse]
      · simp only [e286_0, e286_1, e286_2, e286_5, e286_6, e286_7, e286_10, e286_11, e286_12, e286_15, e286_18, e286_19, e286_20, e286_23, e286_24, e286_25, e286_28, e286_29, e286_30, e286_33, e286_34, e286_35, e286_38, e286_39, e286_40, e286_43, e286_44, e286_45, e286_46, e286_49, e286_50, e286_51, e286_54, e286_55, e286_56, e286_57, e286_58, e286_61, e286_64, e286_67, e286_68, e286_69, e286_72, e286_73, e286_74, e286_76, e286_77, e286_80, e286_81, e286_82, e286_83, e286_86, e286_87, e286_88, e286_91, e286_92, e286_93, e286_94, e286_95, e286_96, e286_99, e286_102, e286_103, e286_104, e286_107, e286_108, e286_111, e286_114, e286_115, e286_116, e286_117, e286_119, e286_121, e286_122, e286_125, e286_126, e286_127, e286_129, e286_132, e286_133, e286_135, e286_136, e286_137, e286_139, e286_142, e286_145, e286_147, e286_148, e286_149, e286_150, e286_152, e286_153, e286_154, e286_155, e286_158, e286_161, e286_162, e286_164, e286_167, psh0, psh1, psh3, true_or, or_true, eq_self, Option.bind_some, List.length_nil, List.length_cons, Nat.reduceAdd, Nat.reduceLeDiff, Nat.zero_le, ↓reduceIte, Int.reduceLT, Int.reduceEq, Int.reduceLE, Int.reduceNeg, Int.reduceAdd, Int.reduceMul, Int.reduceSub, ne_eq, not_true_eq_false, not_false_eq_true, and_true, true_and, and_false, false_and, c3lt, c3gt, c3eq, Bool.false_eq_true, isK_wr, inA_wr, inR_wr, kM, gtm, rdq5, rdq, m5, j2, c3, m_refuse, wrwr]
    rw [if_neg c3] at gx
    by_cases c4 : mrd h 237 t < n
    · rw [if_pos c4] at gx
      refine opq hI (-1) 4 ?_ ?_
      · simp only [e138_0, e138_1, e138_2, e138_3, e138_4, e138_7, e138_8, e138_9, e138_12, e138_13, e138_14, e138_17, e138_18, e138_19, e138_22, e138_23, e138_24, e138_26, e138_27, e138_30, e138_32, e138_33, e138_36, e138_39, e138_40, e138_41, e138_44, e138_45, e138_46, e138_47, e138_50, e138_52, e138_53, e138_54, e138_57, e138_60, psh0, psh1, psh3, true_or, or_true, eq_self, Option.bind_some, List.length_nil, List.length_cons, Nat.reduceAdd, Nat.reduceLeDiff, Nat.zero_le, ↓reduceIte, Int.reduceLT, Int.reduceEq, Int.reduceLE, Int.reduceNeg, Int.reduceAdd, Int.reduceMul, Int.reduceSub, ne_eq, not_true_eq_false, not_false_eq_true, and_true, true_and, and_false, false_and, c3lt, c3gt, c3eq, Bool.false_eq_true, isK_wr, inA_wr, inR_wr, k0, gx, x_refuse]
      · simp only [e286_0, e286_1, e286_2, e286_5, e286_6, e286_7, e286_10, e286_11, e286_12, e286_15, e286_18, e286_19, e286_20, e286_23, e286_24, e286_25, e286_28, e286_29, e286_30, e286_33, e286_34, e286_35, e286_38, e286_39, e286_40, e286_43, e286_44, e286_45, e286_46, e286_49, e286_50, e286_51, e286_54, e286_55, e286_56, e286_57, e286_58, e286_61, e286_64, e286_67, e286_68, e286_69, e286_72, e286_73, e286_74, e286_76, e286_77, e286_80, e286_81, e286_82, e286_83, e286_86, e286_87, e286_88, e286_91, e286_92, e286_93, e286_94, e286_95, e286_96, e286_99, e286_102, e286_103, e286_104, e286_107, e286_108, e286_111, e286_114, e286_115, e286_116, e286_117, e286_119, e286_121, e286_122, e286_125, e286_126, e286_127, e286_129, e286_132, e286_133, e286_135, e286_136, e286_137, e286_139, e286_142, e286_145, e286_147, e286_148, e286_149, e286_150, e286_152, e286_153, e286_154, e286_155, e286_158, e286_161, e286_162, e286_164, e286_167, psh0, psh1, psh3, true_or, or_true, eq_self, Option.bind_some, List.length_nil, List.length_cons, Nat.reduceAdd, Nat.reduceLeDiff, Nat.zero_le, ↓reduceIte, Int.reduceLT, Int.reduceEq, Int.reduceLE, Int.reduceNeg, Int.reduceAdd, Int.reduceMul, Int.reduceSub, ne_eq, not_true_eq_false, not_false_eq_true, and_true, true_and, and_false, false_and, c3lt, c3gt, c3eq, Bool.false_eq_true, isK_wr, inA_wr, inR_wr, kM, gtm, rdq5, rdq, m5, j2, c3, c4, m_refuse, wrwr]
    rw [if_neg c4] at gx
    by_cases c5 : 1 ≤ n ∧ n ≤ 12
    · rw [if_pos c5] at gx
      obtain ⟨m, rfl⟩ := Int.eq_ofNat_of_zero_le (show 0 ≤ n by omega)
      rcases rt with ⟨-, e2⟩ | ⟨e1, e2, e3, e4⟩
      · omega
      have ga := x_hasAll (d := d + 58) hct ks (mrd h 240 1) d6.1 m (by omega)
      have eP : fI (fun p => decide (¬ (0 ≤ mrd h (3 + 2 * t) p ∧ mrd h (3 + 2 * t) p < mrd h 240 1))) 0 m = fI (fun p => decide (¬ (0 ≤ mrd h 238 (60 * t + p) ∧ mrd h 238 (60 * t + p) < mrd h 240 1))) 0 m := fI_congr m 0 (fun j _ hj => by rw [e4 j (by omega) (by omega)])
      rw [eP] at ga
      have gl := fun v => m_life_1 (d := d + 59) (hm v) ct.1 ct.2 (mrd h 240 1) (by rw [rdq (by decide) (by decide)]) d6.2.1 d6.2.2 m (by omega) (3, 0) (3, 0) m 0 (by omega)
      simp only [rdq, ↓reduceIte, Int.reduceLT, Int.reduceEq, Int.reduceLE, Int.reduceNeg, Int.reduceAdd, Int.reduceMul, Int.reduceSub, ne_eq, not_true_eq_false, not_false_eq_true, and_true, true_and, and_false, false_and, c3lt, c3gt, c3eq, Bool.false_eq_true, isK_wr, inA_wr, inR_wr] at gl
      by_cases ca : fI (fun p => decide (¬ (0 ≤ mrd h 238 (60 * t + p) ∧ mrd h 238 (60 * t + p) < mrd h 240 1))) 0 m = m
      · rw [if_pos ca] at ga
        have hall := fI_all ca
        have hf : ∀ p : Nat, p < m → 0 ≤ mrd h 238 (60 * t + p) ∧ mrd h 238 (60 * t + p) < mrd h 240 1 := fun p hp => by
          have := hall p hp
          rw [decide_eq_false_iff_not] at this
          exact Classical.byContradiction fun z => this z
        have gs := x_stop (d := d + 58) (x := 0) cs hct m (by omega) (fun p hp => by rw [e4 p (by omega) (by omega)]; have := hf p hp; omega)
        have eS : slF (fun l => mrd h (s + 13 + l) 6) (fun p => mrd h (3 + 2 * t) p) m 0 0 = slF (fun l => mrd h 240 (52 + l)) (fun p => mrd h 238 (60 * t + p)) m 0 0 := slF_congr m 0 0 (fun j _ hj => e4 j (by omega) (by omega)) (fun j _ hj => by
          have hj' := hf j (by omega)
          have e := e4 j (by omega) (by omega)
          show mrd h (s + 13 + ((mrd h (3 + 2 * t) j).toNat : Int)) 6 = mrd h 240 (52 + ((mrd h (3 + 2 * t) j).toNat : Int))
          rw [e, Int.toNat_of_nonneg hj'.1]
          exact (dl _ hj'.1 hj'.2).2.2.2.2.2.1)
        rw [eS] at gs
        have g2 := fun v => m_life_2 (d := d + 58) (hm v) ct.1 ct.2 m (by omega) (fun p hp => by rw [rdq (by decide) (by decide)]; have := hf p hp; omega) m 0 0 (3, 0) (by omega)
        simp only [rdq, ↓reduceIte, Int.reduceLT, Int.reduceEq, Int.reduceLE, Int.reduceNeg, Int.reduceAdd, Int.reduceMul, Int.reduceSub, ne_eq, not_true_eq_false, not_false_eq_true, and_true, true_and, and_false, false_and, c3lt, c3gt, c3eq, Bool.false_eq_true, isK_wr, inA_wr, inR_wr] at g2
        simp only [if_pos ca] at gl
        have gl' := fun v => (gl v)
        by_cases cr : slF (fun l => mrd h 240 (52 + l)) (fun p => mrd h 238 (60 * t + p)) m 0 0 = -1
        · simp only [if_pos cr] at g2
          rw [cr] at gs
          refine opq hI (-1) 8 ?_ ?_
          · simp only [e138_0, e138_1, e138_2, e138_3, e138_4, e138_7, e138_8, e138_9, e138_12, e138_13, e138_14, e138_17, e138_18, e138_19, e138_22, e138_23, e138_24, e138_26, e138_27, e138_30, e138_32, e138_33, e138_36, e138_39, e138_40, e138_41, e138_44, e138_45, e138_46, e138_47, e138_50, e138_52, e138_53, e138_54, e138_57, e138_60, psh0, psh1, psh3, true_or, or_true, eq_self, Option.bind_some, List.length_nil, List.length_cons, Nat.reduceAdd, Nat.reduceLeDiff, Nat.zero_le, ↓reduceIte, Int.reduceLT, Int.reduceEq, Int.reduceLE, Int.reduceNeg, Int.reduceAdd, Int.reduceMul, Int.reduceSub, ne_eq, not_true_eq_false, not_false_eq_true, and_true, true_and, and_false, false_and, c3lt, c3gt, c3eq, Bool.false_eq_true, isK_wr, inA_wr, inR_wr, k0, x0, e8, ks, gx, q1, q2, ga, gs, x_answerIfThere]
          · simp only [e286_0, e286_1, e286_2, e286_5, e286_6, e286_7, e286_10, e286_11, e286_12, e286_15, e286_18, e286_19, e286_20, e286_23, e286_24, e286_25, e286_28, e286_29, e286_30, e286_33, e286_34, e286_35, e286_38, e286_39, e286_40, e286_43, e286_44, e286_45, e286_46, e286_49, e286_50, e286_51, e286_54, e286_55, e286_56, e286_57, e286_58, e286_61, e286_64, e286_67, e286_68, e286_69, e286_72, e286_73, e286_74, e286_76, e286_77, e286_80, e286_81, e286_82, e286_83, e286_86, e286_87, e286_88, e286_91, e286_92, e286_93, e286_94, e286_95, e286_96, e286_99, e286_102, e286_103, e286_104, e286_107, e286_108, e286_111, e286_115, e286_116, e286_117, e286_121, e286_122, e286_125, e286_126, e286_127, e286_129, e286_132, e286_133, e286_135, e286_136, e286_137, e286_139, e286_142, e286_145, e286_147, e286_148, e286_149, e286_150, e286_152, e286_153, e286_154, e286_155, e286_158, e286_161, e286_162, e286_164, e286_167, psh0, psh1, psh3, true_or, or_true, eq_self, Option.bind_some, List.length_nil, List.length_cons, Nat.reduceAdd, Nat.reduceLeDiff, Nat.zero_le, ↓reduceIte, Int.reduceLT, Int.reduceEq, Int.reduceLE, Int.reduceNeg, Int.reduceAdd, Int.reduceMul, Int.reduceSub, ne_eq, not_true_eq_false, not_false_eq_true, and_true, true_and, and_false, false_and, c3lt, c3gt, c3eq, Bool.false_eq_true, isK_wr, inA_wr, inR_wr, kM, gtm, rdq5, rdq, m5, j2, c3, c4, m_isIn, c5]
            refine (gl 8).trans ?_
            rw [e286_114]
            simp only [e286_0, e286_1, e286_2, e286_5, e286_6, e286_7, e286_10, e286_11, e286_12, e286_15, e286_18, e286_19, e286_20, e286_23, e286_24, e286_25, e286_28, e286_29, e286_30, e286_33, e286_34, e286_35, e286_38, e286_39, e286_40, e286_43, e286_44, e286_45, e286_46, e286_49, e286_50, e286_51, e286_54, e286_55, e286_56, e286_57, e286_58, e286_61, e286_64, e286_67, e286_68, e286_69, e286_72, e286_73, e286_74, e286_76, e286_77, e286_80, e286_81, e286_82, e286_83, e286_86, e286_87, e286_88, e286_91, e286_92, e286_93, e286_94, e286_95, e286_96, e286_99, e286_102, e286_103, e286_104, e286_107, e286_108, e286_111, e286_115, e286_116, e286_117, e286_121, e286_122, e286_125, e286_126, e286_127, e286_129, e286_132, e286_133, e286_135, e286_136, e286_137, e286_139, e286_142, e286_145, e286_147, e286_148, e286_149, e286_150, e286_152, e286_153, e286_154, e286_155, e286_158, e286_161, e286_162, e286_164, e286_167, psh0, psh1, psh3, true_or, or_true, eq_self, Option.bind_some, List.length_nil, List.length_cons, Nat.reduceAdd, Nat.reduceLeDiff, Nat.zero_le, ↓reduceIte, Int.reduceLT, Int.reduceEq, Int.reduceLE, Int.reduceNeg, Int.reduceAdd, Int.reduceMul, Int.reduceSub, ne_eq, not_true_eq_false, not_false_eq_true, and_true, true_and, and_false, false_and, c3lt, c3gt, c3eq, Bool.false_eq_true, isK_wr, inA_wr, inR_wr]
            refine (g2 8).trans ?_
            rw [wrwr]
        · simp only [if_neg cr] at g2
          refine opq hI (slF (fun l => mrd h 240 (52 + l)) (fun p => mrd h 238 (60 * t + p)) m 0 0) 0 ?_ ?_
          · simp only [e138_0, e138_1, e138_2, e138_3, e138_4, e138_7, e138_8, e138_9, e138_12, e138_13, e138_14, e138_17, e138_18, e138_19, e138_22, e138_23, e138_24, e138_26, e138_27, e138_30, e138_32, e138_33, e138_36, e138_39, e138_40, e138_41, e138_44, e138_45, e138_46, e138_47, e138_50, e138_52, e138_53, e138_54, e138_57, e138_60, psh0, psh1, psh3, true_or, or_true, eq_self, Option.bind_some, List.length_nil, List.length_cons, Nat.reduceAdd, Nat.reduceLeDiff, Nat.zero_le, ↓reduceIte, Int.reduceLT, Int.reduceEq, Int.reduceLE, Int.reduceNeg, Int.reduceAdd, Int.reduceMul, Int.reduceSub, ne_eq, not_true_eq_false, not_false_eq_true, and_true, true_and, and_false, false_and, c3lt, c3gt, c3eq, Bool.false_eq_true, isK_wr, inA_wr, inR_wr, k0, x0, e8, ks, gx, q1, q2, ga, gs, cr, x_answerIfThere]
          · simp only [e286_0, e286_1, e286_2, e286_5, e286_6, e286_7, e286_10, e286_11, e286_12, e286_15, e286_18, e286_19, e286_20, e286_23, e286_24, e286_25, e286_28, e286_29, e286_30, e286_33, e286_34, e286_35, e286_38, e286_39, e286_40, e286_43, e286_44, e286_45, e286_46, e286_49, e286_50, e286_51, e286_54, e286_55, e286_56, e286_57, e286_58, e286_61, e286_64, e286_67, e286_68, e286_69, e286_72, e286_73, e286_74, e286_76, e286_77, e286_80, e286_81, e286_82, e286_83, e286_86, e286_87, e286_88, e286_91, e286_92, e286_93, e286_94, e286_95, e286_96, e286_99, e286_102, e286_103, e286_104, e286_107, e286_108, e286_111, e286_115, e286_116, e286_117, e286_121, e286_122, e286_125, e286_126, e286_127, e286_129, e286_132, e286_133, e286_135, e286_136, e286_137, e286_139, e286_142, e286_145, e286_147, e286_148, e286_149, e286_150, e286_152, e286_153, e286_154, e286_155, e286_158, e286_161, e286_162, e286_164, e286_167, psh0, psh1, psh3, true_or, or_true, eq_self, Option.bind_some, List.length_nil, List.length_cons, Nat.reduceAdd, Nat.reduceLeDiff, Nat.zero_le, ↓reduceIte, Int.reduceLT, Int.reduceEq, Int.reduceLE, Int.reduceNeg, Int.reduceAdd, Int.reduceMul, Int.reduceSub, ne_eq, not_true_eq_false, not_false_eq_true, and_true, true_and, and_false, false_and, c3lt, c3gt, c3eq, Bool.false_eq_true, isK_wr, inA_wr, inR_wr, kM, gtm, rdq5, rdq, m5, j2, c3, c4, m_isIn, c5]
            refine (gl 0).trans ?_
            rw [e286_114]
            simp only [e286_0, e286_1, e286_2, e286_5, e286_6, e286_7, e286_10, e286_11, e286_12, e286_15, e286_18, e286_19, e286_20, e286_23, e286_24, e286_25, e286_28, e286_29, e286_30, e286_33, e286_34, e286_35, e286_38, e286_39, e286_40, e286_43, e286_44, e286_45, e286_46, e286_49, e286_50, e286_51, e286_54, e286_55, e286_56, e286_57, e286_58, e286_61, e286_64, e286_67, e286_68, e286_69, e286_72, e286_73, e286_74, e286_76, e286_77, e286_80, e286_81, e286_82, e286_83, e286_86, e286_87, e286_88, e286_91, e286_92, e286_93, e286_94, e286_95, e286_96, e286_99, e286_102, e286_103, e286_104, e286_107, e286_108, e286_111, e286_115, e286_116, e286_117, e286_121, e286_122, e286_125, e286_126, e286_127, e286_129, e286_132, e286_133, e286_135, e286_136, e286_137, e286_139, e286_142, e286_145, e286_147, e286_148, e286_149, e286_150, e286_152, e286_153, e286_154, e286_155, e286_158, e286_161, e286_162, e286_164, e286_167, psh0, psh1, psh3, true_or, or_true, eq_self, Option.bind_some, List.length_nil, List.length_cons, Nat.reduceAdd, Nat.reduceLeDiff, Nat.zero_le, ↓reduceIte, Int.reduceLT, Int.reduceEq, Int.reduceLE, Int.reduceNeg, Int.reduceAdd, Int.reduceMul, Int.reduceSub, ne_eq, not_true_eq_false, not_false_eq_true, and_true, true_and, and_false, false_and, c3lt, c3gt, c3eq, Bool.false_eq_true, isK_wr, inA_wr, inR_wr]
            exact g2 0
      · rw [if_neg ca] at ga
        simp only [if_neg ca] at gl
        refine opq hI (-1) 2 ?_ ?_
        · simp only [e138_0, e138_1, e138_2, e138_3, e138_4, e138_7, e138_8, e138_9, e138_12, e138_13, e138_14, e138_17, e138_18, e138_19, e138_22, e138_23, e138_24, e138_26, e138_27, e138_30, e138_32, e138_33, e138_36, e138_39, e138_40, e138_41, e138_44, e138_45, e138_46, e138_47, e138_50, e138_52, e138_53, e138_54, e138_57, e138_60, psh0, psh1, psh3, true_or, or_true, eq_self, Option.bind_some, List.length_nil, List.length_cons, Nat.reduceAdd, Nat.reduceLeDiff, Nat.zero_le, ↓reduceIte, Int.reduceLT, Int.reduceEq, Int.reduceLE, Int.reduceNeg, Int.reduceAdd, Int.reduceMul, Int.reduceSub, ne_eq, not_true_eq_false, not_false_eq_true, and_true, true_and, and_false, false_and, c3lt, c3gt, c3eq, Bool.false_eq_true, isK_wr, inA_wr, inR_wr, k0, x0, e8, ks, gx, q1, q2, ga, x_refuse]
        · simp only [e286_0, e286_1, e286_2, e286_5, e286_6, e286_7, e286_10, e286_11, e286_12, e286_15, e286_18, e286_19, e286_20, e286_23, e286_24, e286_25, e286_28, e286_29, e286_30, e286_33, e286_34, e286_35, e286_38, e286_39, e286_40, e286_43, e286_44, e286_45, e286_46, e286_49, e286_50, e286_51, e286_54, e286_55, e286_56, e286_57, e286_58, e286_61, e286_64, e286_67, e286_68, e286_69, e286_72, e286_73, e286_74, e286_76, e286_77, e286_80, e286_81, e286_82, e286_83, e286_86, e286_87, e286_88, e286_91, e286_92, e286_93, e286_94, e286_95, e286_96, e286_99, e286_102, e286_103, e286_104, e286_107, e286_108, e286_111, e286_115, e286_116, e286_117, e286_121, e286_122, e286_125, e286_126, e286_127, e286_129, e286_132, e286_133, e286_135, e286_136, e286_137, e286_139, e286_142, e286_145, e286_147, e286_148, e286_149, e286_150, e286_152, e286_153, e286_154, e286_155, e286_158, e286_161, e286_162, e286_164, e286_167, psh0, psh1, psh3, true_or, or_true, eq_self, Option.bind_some, List.length_nil, List.length_cons, Nat.reduceAdd, Nat.reduceLeDiff, Nat.zero_le, ↓reduceIte, Int.reduceLT, Int.reduceEq, Int.reduceLE, Int.reduceNeg, Int.reduceAdd, Int.reduceMul, Int.reduceSub, ne_eq, not_true_eq_false, not_false_eq_true, and_true, true_and, and_false, false_and, c3lt, c3gt, c3eq, Bool.false_eq_true, isK_wr, inA_wr, inR_wr, kM, gtm, rdq5, rdq, m5, j2, c3, c4, m_isIn, c5]
          refine (gl 2).trans ?_
          rw [wrwr]
    · rw [if_neg c5] at gx
      refine opq hI (-1) 5 ?_ ?_
      · simp only [e138_0, e138_1, e138_2, e138_3, e138_4, e138_7, e138_8, e138_9, e138_12, e138_13, e138_14, e138_17, e138_18, e138_19, e138_22, e138_23, e138_24, e138_26, e138_27, e138_30, e138_32, e138_33, e138_36, e138_39, e138_40, e138_41, e138_44, e138_45, e138_46, e138_47, e138_50, e138_52, e138_53, e138_54, e138_57, e138_60, psh0, psh1, psh3, true_or, or_true, eq_self, Option.bind_some, List.length_nil, List.length_cons, Nat.reduceAdd, Nat.reduceLeDiff, Nat.zero_le, ↓reduceIte, Int.reduceLT, Int.reduceEq, Int.reduceLE, Int.reduceNeg, Int.reduceAdd, Int.reduceMul, Int.reduceSub, ne_eq, not_true_eq_false, not_false_eq_true, and_true, true_and, and_false, false_and, c3lt, c3gt, c3eq, Bool.false_eq_true, isK_wr, inA_wr, inR_wr, k0, gx, x_refuse]
      · simp only [e286_0, e286_1, e286_2, e286_5, e286_6, e286_7, e286_10, e286_11, e286_12, e286_15, e286_18, e286_19, e286_20, e286_23, e286_24, e286_25, e286_28, e286_29, e286_30, e286_33, e286_34, e286_35, e286_38, e286_39, e286_40, e286_43, e286_44, e286_45, e286_46, e286_49, e286_50, e286_51, e286_54, e286_55, e286_56, e286_57, e286_58, e286_61, e286_64, e286_67, e286_68, e286_69, e286_72, e286_73, e286_74, e286_76, e286_77, e286_80, e286_81, e286_82, e286_83, e286_86, e286_87, e286_88, e286_91, e286_92, e286_93, e286_94, e286_95, e286_96, e286_99, e286_102, e286_103, e286_104, e286_107, e286_108, e286_111, e286_114, e286_115, e286_116, e286_117, e286_119, e286_121, e286_122, e286_125, e286_126, e286_127, e286_129, e286_132, e286_133, e286_135, e286_136, e286_137, e286_139, e286_142, e286_145, e286_147, e286_148, e286_149, e286_150, e286_152, e286_153, e286_154, e286_155, e286_158, e286_161, e286_162, e286_164, e286_167, psh0, psh1, psh3, true_or, or_true, eq_self, Option.bind_some, List.length_nil, List.length_cons, Nat.reduceAdd, Nat.reduceLeDiff, Nat.zero_le, ↓reduceIte, Int.reduceLT, Int.reduceEq, Int.reduceLE, Int.reduceNeg, Int.reduceAdd, Int.reduceMul, Int.reduceSub, ne_eq, not_true_eq_false, not_false_eq_true, and_true, true_and, and_false, false_and, c3lt, c3gt, c3eq, Bool.false_eq_true, isK_wr, inA_wr, inR_wr, kM, gtm, rdq5, rdq, m5, j2, c3, c4, m_isIn, c5, m_refuse, wrwr]
  · rw [if_neg ct] at gx
    have ct3 : ¬ (0 ≤ t ∧ t ≤ 3) := by omega
    simp only [if_neg ct3] at gtm
    refine opq hI (-1) 1 ?_ ?_
    · simp only [e138_0, e138_1, e138_2, e138_3, e138_4, e138_7, e138_8, e138_9, e138_12, e138_13, e138_14, e138_17, e138_18, e138_19, e138_22, e138_23, e138_24, e138_26, e138_27, e138_30, e138_32, e138_33, e138_36, e138_39, e138_40, e138_41, e138_44, e138_45, e138_46, e138_47, e138_50, e138_52, e138_53, e138_54, e138_57, e138_60, psh0, psh1, psh3, true_or, or_true, eq_self, Option.bind_some, List.length_nil, List.length_cons, Nat.reduceAdd, Nat.reduceLeDiff, Nat.zero_le, ↓reduceIte, Int.reduceLT, Int.reduceEq, Int.reduceLE, Int.reduceNeg, Int.reduceAdd, Int.reduceMul, Int.reduceSub, ne_eq, not_true_eq_false, not_false_eq_true, and_true, true_and, and_false, false_and, c3lt, c3gt, c3eq, Bool.false_eq_true, isK_wr, inA_wr, inR_wr, k0, gx, x_refuse]
    · simp only [e286_0, e286_1, e286_2, e286_5, e286_6, e286_7, e286_10, e286_11, e286_12, e286_15, e286_18, e286_19, e286_20, e286_23, e286_24, e286_25, e286_28, e286_29, e286_30, e286_33, e286_34, e286_35, e286_38, e286_39, e286_40, e286_43, e286_44, e286_45, e286_46, e286_49, e286_50, e286_51, e286_54, e286_55, e286_56, e286_57, e286_58, e286_61, e286_64, e286_67, e286_68, e286_69, e286_72, e286_73, e286_74, e286_76, e286_77, e286_80, e286_81, e286_82, e286_83, e286_86, e286_87, e286_88, e286_91, e286_92, e286_93, e286_94, e286_95, e286_96, e286_99, e286_102, e286_103, e286_104, e286_107, e286_108, e286_111, e286_114, e286_115, e286_116, e286_117, e286_119, e286_121, e286_122, e286_125, e286_126, e286_127, e286_129, e286_132, e286_133, e286_135, e286_136, e286_137, e286_139, e286_142, e286_145, e286_147, e286_148, e286_149, e286_150, e286_152, e286_153, e286_154, e286_155, e286_158, e286_161, e286_162, e286_164, e286_167, psh0, psh1, psh3, true_or, or_true, eq_self, Option.bind_some, List.length_nil, List.length_cons, Nat.reduceAdd, Nat.reduceLeDiff, Nat.zero_le, ↓reduceIte, Int.reduceLT, Int.reduceEq, Int.reduceLE, Int.reduceNeg, Int.reduceAdd, Int.reduceMul, Int.reduceSub, ne_eq, not_true_eq_false, not_false_eq_true, and_true, true_and, and_false, false_and, c3lt, c3gt, c3eq, Bool.false_eq_true, isK_wr, inA_wr, inR_wr, kM, gtm, m_refuse, wrwr]

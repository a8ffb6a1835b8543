/-! sets built lesson by lesson; how many are in one -/
def sF (P : Nat → Bool) : Nat → Int
  | 0 => 0
  | n + 1 => if P n = true then i_or (sF P n) (i_shl 1 n) else sF P n
def rF (Q : Nat → Bool) (x : Int) : Nat → Int
  | 0 => x
  | n + 1 => if Q n = true then i_and (rF Q x n) (i_xor (i_shl 1 n) (-1)) else rF Q x n
/-- how many of the first n places of x are set -/
def cB (x : Int) : Nat → Int
  | 0 => 0
  | n + 1 => cB x n + if bI x n = true then 1 else 0
def cP (P : Nat → Bool) : Nat → Int
  | 0 => 0
  | n + 1 => cP P n + if P n = true then 1 else 0
theorem sF_in (P : Nat → Bool) : ∀ n, in32 (sF P n)
  | 0 => z32
  | n + 1 => by rw [sF]; split; exact in_or _ _; exact sF_in P n
theorem i_or_0 {x : Int} (hx : in32 x) : i_or x 0 = x := bI_ext (in_or _ _) hx (fun i _ => by rw [bI_or, bI_0, Bool.or_false])
theorem sF_bit (P : Nat → Bool) : ∀ (n i : Nat), n ≤ 32 → bI (sF P n) i = (decide (i < n) && P i)
  | 0, i, _ => by rw [sF, bI_0, decide_eq_false (by omega), Bool.false_and]
  | n + 1, i, hn => by
    rw [sF]
    have ih := sF_bit P n i (by omega)
    by_cases c : i = n
    · subst c
      rw [decide_eq_true (by omega), Bool.true_and]
      rw [decide_eq_false (by omega), Bool.false_and] at ih
      split
      · rename_i hp
        rw [bI_or, ih, bI_shl (by omega) (by omega), decide_eq_true rfl, hp, Bool.or_true]
      · rename_i hp
        rw [ih]
        simpa using hp
    · have e : decide (i < n + 1) = decide (i < n) := by
        by_cases c2 : i < n
        · rw [decide_eq_true c2, decide_eq_true (by omega)]
        · rw [decide_eq_false c2, decide_eq_false (by omega)]
      rw [e]
      split
      · rw [bI_or, ih, bI_shl (by omega) (by omega), decide_eq_false (show ¬ (i : Int) = (n : Int) by omega), Bool.or_false]
      · exact ih
theorem rF_in {x : Int} (Q : Nat → Bool) (hx : in32 x) : ∀ n, in32 (rF Q x n)
  | 0 => hx
  | n + 1 => by rw [rF]; split; exact in_and _ _; exact rF_in Q hx n
theorem rF_bit (Q : Nat → Bool) (x : Int) : ∀ (n i : Nat), n ≤ 32 → i < 32 → bI (rF Q x n) i = (bI x i && !(decide (i < n) && Q i))
  | 0, i, _, _ => by rw [rF, decide_eq_false (by omega), Bool.false_and, Bool.not_false, Bool.and_true]
  | n + 1, i, hn, hi => by
    rw [rF]
    have ih := rF_bit Q x n i (by omega) hi
    by_cases c : i = n
    · subst c
      rw [decide_eq_true (by omega), Bool.true_and]
      rw [decide_eq_false (by omega), Bool.false_and, Bool.not_false, Bool.and_true] at ih
      split
      · rename_i hp
        rw [bI_and, ih, bI_not _ hi, bI_shl (by omega) (by omega), decide_eq_true rfl, hp]
      · rename_i hp
        rw [ih]
        have : Q i = false := by simpa using hp
        rw [this, Bool.not_false, Bool.and_true]
    · have e : decide (i < n + 1) = decide (i < n) := by
        by_cases c2 : i < n
        · rw [decide_eq_true c2, decide_eq_true (by omega)]
        · rw [decide_eq_false c2, decide_eq_false (by omega)]
      rw [e]
      split
      · rw [bI_and, ih, bI_not _ hi, bI_shl (by omega) (by omega), decide_eq_false (show ¬ (i : Int) = (n : Int) by omega), Bool.not_false, Bool.and_true]
      · exact ih
theorem cB_eq {x y : Int} : ∀ n, (∀ i, i < n → bI x i = bI y i) → cB x n = cB y n
  | 0, _ => rfl
  | n + 1, h => by rw [cB, cB, cB_eq n (fun i hi => h i (by omega)), h n (by omega)]
theorem cB_cP {x : Int} {P : Nat → Bool} : ∀ n, (∀ i, i < n → bI x i = P i) → cB x n = cP P n
  | 0, _ => rfl
  | n + 1, h => by rw [cB, cP, cB_cP n (fun i hi => h i (by omega)), h n (by omega)]
theorem cP_eq {P Q : Nat → Bool} : ∀ n, (∀ i, i < n → P i = Q i) → cP P n = cP Q n
  | 0, _ => rfl
  | n + 1, h => by rw [cP, cP, cP_eq n (fun i hi => h i (by omega)), h n (by omega)]
theorem cP_rng (P : Nat → Bool) : ∀ n, 0 ≤ cP P n ∧ cP P n ≤ n
  | 0 => by rw [cP]; omega
  | n + 1 => by
    have := cP_rng P n
    rw [cP]
    split <;> omega
theorem cB_rng (x : Int) : ∀ n, 0 ≤ cB x n ∧ cB x n ≤ n
  | 0 => by rw [cB]; omega
  | n + 1 => by
    have := cB_rng x n
    rw [cB]
    split <;> omega
/-- behind the last there is nothing -/
theorem cP_ext {P : Nat → Bool} {n : Nat} : ∀ m, (∀ i, n ≤ i → i < n + m → P i = false) → cP P (n + m) = cP P n
  | 0, _ => rfl
  | m + 1, h => by
    rw [← Nat.add_assoc, cP, cP_ext m (fun i h0 h1 => h i h0 (by omega)), h (n + m) (by omega) (by omega), if_neg (by decide), Int.add_zero]
section
variable {d : Nat} {h : AM} {s a b c k l p v w x y z : Int}
theorem m_sizeOf_loop (n : Nat) : ∀ i : Nat, i + n = 12 → EV (d + 1) 263 4 [(0, x), (0, cB x i), (0, (i : Int))] [] h = some ((0, cB x 12), h) := by
  induction n with
  | zero =>
    intro i hi
    have c : ¬ (i : Int) < 12 := by omega
    have e : i = 12 := by omega
    rw [e263_4]
    simp only [e263_0, e263_1, e263_2, e263_3, e263_5, e263_7, e263_10, e263_11, e263_12, e263_13, e263_16, e263_19, e263_20, e263_23, e263_24, e263_25, e263_26, e263_29, e263_32, e263_33, psh0, psh1, psh3, true_or, or_true, eq_self, Option.bind_some, List.length_nil, List.length_cons, Nat.reduceAdd, Nat.reduceLeDiff, Nat.zero_le, ↓reduceIte, Int.reduceLT, Int.reduceEq, Int.reduceLE, Int.reduceNeg, Int.reduceAdd, Int.reduceMul, Int.reduceSub, ne_eq, not_true_eq_false, not_false_eq_true, and_true, true_and, and_false, false_and, c3lt, c3gt, c3eq, Bool.false_eq_true, isK_wr, inA_wr, inR_wr, c]
    rw [e]
  | succ n ih =>
    intro i hi
    have c : (i : Int) < 12 := by omega
    have w1 : w32 ((i : Int) + 1) = ((i + 1 : Nat) : Int) := by rw [w32_id (by omega) (by omega)]; omega
    have g := cB_rng x i
    have hh : EV d 188 0 [(0, x), (0, (i : Int))] [] h = some ((0, if bI x i = true then 1 else 0), h) := m_has (by omega) (by omega)
    have w2 : w32 (cB x i + 1) = cB x i + 1 := w32_id (by omega) (by omega)
    have w3 : w32 (cB x i + 0) = cB x i + 0 := w32_id (by omega) (by omega)
    have ih' := ih (i + 1) (by omega)
    rw [cB] at ih'
    rw [e263_4]
    by_cases hb : bI x i = true
    · rw [if_pos hb] at hh ih'
      simp only [e263_0, e263_1, e263_2, e263_3, e263_5, e263_7, e263_10, e263_11, e263_12, e263_13, e263_16, e263_19, e263_20, e263_23, e263_24, e263_25, e263_26, e263_29, e263_32, e263_33, psh0, psh1, psh3, true_or, or_true, eq_self, Option.bind_some, List.length_nil, List.length_cons, Nat.reduceAdd, Nat.reduceLeDiff, Nat.zero_le, ↓reduceIte, Int.reduceLT, Int.reduceEq, Int.reduceLE, Int.reduceNeg, Int.reduceAdd, Int.reduceMul, Int.reduceSub, ne_eq, not_true_eq_false, not_false_eq_true, and_true, true_and, and_false, false_and, c3lt, c3gt, c3eq, Bool.false_eq_true, isK_wr, inA_wr, inR_wr, c, hh, w1, w2]
      exact ih'
    · rw [if_neg hb] at hh ih'
      simp only [e263_0, e263_1, e263_2, e263_3, e263_5, e263_7, e263_10, e263_11, e263_12, e263_13, e263_16, e263_19, e263_20, e263_23, e263_24, e263_25, e263_26, e263_29, e263_32, e263_33, psh0, psh1, psh3, true_or, or_true, eq_self, Option.bind_some, List.length_nil, List.length_cons, Nat.reduceAdd, Nat.reduceLeDiff, Nat.zero_le, ↓reduceIte, Int.reduceLT, Int.reduceEq, Int.reduceLE, Int.reduceNeg, Int.reduceAdd, Int.reduceMul, Int.reduceSub, ne_eq, not_true_eq_false, not_false_eq_true, and_true, true_and, and_false, false_and, c3lt, c3gt, c3eq, Bool.false_eq_true, isK_wr, inA_wr, inR_wr, c, hh, w1, w3]
      exact ih'
theorem m_sizeOf : EV (d + 1) 263 0 [(0, x), (3, 0), (3, 0)] [] h = some ((0, cB x 12), h) := by
  simp only [e263_0, e263_1, e263_2, e263_3]
  exact m_sizeOf_loop 12 0 (by omega)
theorem m_openSet_loop (hm : CM h) (N : Nat) (hN : mrd h 240 1 = N) (h12 : N ≤ 12) (n : Nat) : ∀ i : Nat, i + n = N → EV (d + 2) 261 4 [(2, 235), (0, x), (0, sF (fun l => decide (opn x (mrd h 240 (52 + l)) l)) i), (0, (i : Int))] [] h = some ((0, sF (fun l => decide (opn x (mrd h 240 (52 + l)) l)) N), h) := by
  have i1 := inC hm (j := 1) (by decide) (by decide)
  induction n with
  | zero =>
    intro i hi
    have e : i = N := by omega
    subst e
    rw [e261_4]
    simp only [e261_0, e261_1, e261_2, e261_3, e261_5, e261_6, e261_9, e261_10, e261_11, e261_14, e261_15, e261_16, e261_17, e261_18, e261_21, e261_24, e261_25, e261_26, e261_27, e261_30, e261_31, e261_32, e261_33, e261_36, e261_39, e261_40, psh0, psh1, psh3, true_or, or_true, eq_self, Option.bind_some, List.length_nil, List.length_cons, Nat.reduceAdd, Nat.reduceLeDiff, Nat.zero_le, ↓reduceIte, Int.reduceLT, Int.reduceEq, Int.reduceLE, Int.reduceNeg, Int.reduceAdd, Int.reduceMul, Int.reduceSub, ne_eq, not_true_eq_false, not_false_eq_true, and_true, true_and, and_false, false_and, c3lt, c3gt, c3eq, Bool.false_eq_true, isK_wr, inA_wr, inR_wr, hm.1, mC hm, i1, hN, Int.lt_irrefl]
  | succ n ih =>
    intro i hi
    have c : (i : Int) < N := by omega
    have w1 : w32 ((i : Int) + 1) = ((i + 1 : Nat) : Int) := by rw [w32_id (by omega) (by omega)]; omega
    have hh : EV (d + 1) 252 0 [(2, 235), (0, x), (0, (i : Int))] [] h = some ((0, if opn x (mrd h 240 (52 + i)) i then 1 else 0), h) := m_isOpenTo hm (by omega) (by omega)
    have ih' := ih (i + 1) (by omega)
    rw [sF] at ih'
    rw [e261_4]
    by_cases hb : opn x (mrd h 240 (52 + i)) i
    · rw [if_pos hb] at hh
      rw [if_pos (decide_eq_true hb)] at ih'
      simp only [e261_0, e261_1, e261_2, e261_3, e261_5, e261_6, e261_9, e261_10, e261_11, e261_14, e261_15, e261_16, e261_17, e261_18, e261_21, e261_24, e261_25, e261_26, e261_27, e261_30, e261_31, e261_32, e261_33, e261_36, e261_39, e261_40, psh0, psh1, psh3, true_or, or_true, eq_self, Option.bind_some, List.length_nil, List.length_cons, Nat.reduceAdd, Nat.reduceLeDiff, Nat.zero_le, ↓reduceIte, Int.reduceLT, Int.reduceEq, Int.reduceLE, Int.reduceNeg, Int.reduceAdd, Int.reduceMul, Int.reduceSub, ne_eq, not_true_eq_false, not_false_eq_true, and_true, true_and, and_false, false_and, c3lt, c3gt, c3eq, Bool.false_eq_true, isK_wr, inA_wr, inR_wr, hm.1, mC hm, i1, hN, c, hh, w1]
      exact ih'
    · rw [if_neg hb] at hh
      rw [if_neg (by simpa using hb)] at ih'
      simp only [e261_0, e261_1, e261_2, e261_3, e261_5, e261_6, e261_9, e261_10, e261_11, e261_14, e261_15, e261_16, e261_17, e261_18, e261_21, e261_24, e261_25, e261_26, e261_27, e261_30, e261_31, e261_32, e261_33, e261_36, e261_39, e261_40, psh0, psh1, psh3, true_or, or_true, eq_self, Option.bind_some, List.length_nil, List.length_cons, Nat.reduceAdd, Nat.reduceLeDiff, Nat.zero_le, ↓reduceIte, Int.reduceLT, Int.reduceEq, Int.reduceLE, Int.reduceNeg, Int.reduceAdd, Int.reduceMul, Int.reduceSub, ne_eq, not_true_eq_false, not_false_eq_true, and_true, true_and, and_false, false_and, c3lt, c3gt, c3eq, Bool.false_eq_true, isK_wr, inA_wr, inR_wr, hm.1, mC hm, i1, hN, c, hh, w1, i_or_0 (sF_in _ i)]
      exact ih'
theorem m_openSet (hm : CM h) (N : Nat) (hN : mrd h 240 1 = N) (h12 : N ≤ 12) : EV (d + 2) 261 0 [(2, 235), (0, x), (3, 0), (3, 0)] [] h = some ((0, sF (fun l => decide (opn x (mrd h 240 (52 + l)) l)) N), h) := by
  simp only [e261_0, e261_1, e261_2, e261_3]
  exact m_openSet_loop hm N hN h12 N 0 (by omega)
end

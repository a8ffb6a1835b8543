/-! fractions: Euclid on both sides -/
theorem bmod64 {x : Int} (h0 : -9223372036854775808 ≤ x) (h1 : x < 9223372036854775808) : x.bmod (2 ^ 64) = x := by
  rw [Int.bmod_def]
  rw [show (((2 ^ 64 : Nat)) : Int) = 18446744073709551616 from by decide]
  split <;> omega
theorem l_div_n {a b : Nat} (ha : a < 2 ^ 63) (hb : b < 2 ^ 63) : l_div (a : Int) (b : Int) = ((a / b : Nat) : Int) := by
  have ha' : a < 9223372036854775808 := ha
  have hb' : b < 9223372036854775808 := hb
  have e1 : (Int64.ofInt (a : Int)).toInt = a := w64_id (by omega) (by omega)
  have e2 : (Int64.ofInt (b : Int)).toInt = b := w64_id (by omega) (by omega)
  have q := Nat.div_le_self a b
  show (Int64.ofInt (a : Int) / Int64.ofInt (b : Int)).toInt = _
  rw [Int64.toInt_div, e1, e2, ← Int.ofNat_tdiv]
  generalize a / b = z at q ⊢
  exact bmod64 (by omega) (by omega)
theorem l_rem_n {a b : Nat} (ha : a < 2 ^ 63) (hb : b < 2 ^ 63) : l_rem (a : Int) (b : Int) = ((a % b : Nat) : Int) := by
  have ha' : a < 9223372036854775808 := ha
  have hb' : b < 9223372036854775808 := hb
  have e1 : (Int64.ofInt (a : Int)).toInt = a := w64_id (by omega) (by omega)
  have e2 : (Int64.ofInt (b : Int)).toInt = b := w64_id (by omega) (by omega)
  have q := Nat.div_le_self a b
  have q2 := Nat.div_mul_le_self a b
  have q3 := Nat.mod_add_div a b
  rw [Nat.mul_comm] at q3
  have e3 : (Int64.ofInt (a : Int) / Int64.ofInt (b : Int)).toInt = ((a / b : Nat) : Int) := l_div_n ha hb
  show (Int64.ofInt (a : Int) - Int64.ofInt (a : Int) / Int64.ofInt (b : Int) * Int64.ofInt (b : Int)).toInt = _
  rw [Int64.toInt_sub, Int64.toInt_mul, e1, e2, e3, ← Int.natCast_mul, bmod64 (x := ((a / b * b : Nat) : Int)) (by omega) (by omega)]
  rw [bmod64 (by omega) (by omega)]
  omega
theorem mod_half {b r : Nat} (h0 : 0 < r) (h1 : r < b) (k : Nat) (hb : b < 2 ^ (k + 1)) : b % r < 2 ^ k := by
  rw [Nat.pow_succ] at hb
  by_cases c : r ≤ 2 ^ k
  · have := Nat.mod_lt b h0
    omega
  · have : b % r = b - r := by
      rw [Nat.mod_eq_sub_mod (by omega), Nat.mod_eq_of_lt (by omega)]
    omega
section
variable {d : Nat} {h : AM} {x y : Int}
theorem x_euclid (k : Nat) : ∀ (a b : Nat) (i : Nat) (u v : AV), a < 2 ^ 63 → b < 2 ^ 63 → b < 2 ^ k → i + 2 * k ≤ 200 → ∃ (j : Int) (u' v' : AV), EV d 164 9 [(2, 0), (1, x), (3, 1), (1, y), (3, 1), (1, (a : Int)), (3, 1), (1, (b : Int)), (3, 1), (0, (i : Int)), u, v] [] h = EV d 164 45 [(2, 0), (1, x), (3, 1), (1, y), (3, 1), (1, ((Nat.gcd a b : Nat) : Int)), (3, 1), (1, 0), (3, 1), (0, j), u', v'] [] h := by
  have stop : ∀ (a i : Nat) (u v : AV), EV d 164 9 [(2, 0), (1, x), (3, 1), (1, y), (3, 1), (1, (a : Int)), (3, 1), (1, 0), (3, 1), (0, (i : Int)), u, v] [] h = EV d 164 45 [(2, 0), (1, x), (3, 1), (1, y), (3, 1), (1, (a : Int)), (3, 1), (1, 0), (3, 1), (0, (i : Int)), u, v] [] h := by
    intro a i u v
    rw [e164_9]
    by_cases c : (i : Int) < 200
    · simp only [e164_0, e164_1, e164_3, e164_4, e164_6, e164_7, e164_11, e164_14, e164_17, e164_19, e164_20, e164_21, e164_24, e164_26, e164_28, e164_29, e164_31, e164_33, e164_35, e164_37, e164_39, e164_42, e164_47, e164_48, e164_49, e164_52, e164_54, e164_57, e164_58, e164_60, e164_61, e164_62, e164_64, e164_65, e164_68, e164_69, e164_70, e164_72, e164_73, e164_76, psh0, psh1, psh3, true_or, or_true, eq_self, Option.bind_some, List.length_nil, List.length_cons, Nat.reduceAdd, Nat.reduceLeDiff, Nat.zero_le, ↓reduceIte, Int.reduceLT, Int.reduceEq, Int.reduceLE, Int.reduceNeg, Int.reduceAdd, Int.reduceMul, Int.reduceSub, ne_eq, not_true_eq_false, not_false_eq_true, and_true, true_and, and_false, false_and, c3lt, c3gt, c3eq, Bool.false_eq_true, isK_wr, inA_wr, inR_wr, c]
    · simp only [e164_0, e164_1, e164_3, e164_4, e164_6, e164_7, e164_11, e164_14, e164_17, e164_19, e164_20, e164_21, e164_24, e164_26, e164_28, e164_29, e164_31, e164_33, e164_35, e164_37, e164_39, e164_42, e164_47, e164_48, e164_49, e164_52, e164_54, e164_57, e164_58, e164_60, e164_61, e164_62, e164_64, e164_65, e164_68, e164_69, e164_70, e164_72, e164_73, e164_76, psh0, psh1, psh3, true_or, or_true, eq_self, Option.bind_some, List.length_nil, List.length_cons, Nat.reduceAdd, Nat.reduceLeDiff, Nat.zero_le, ↓reduceIte, Int.reduceLT, Int.reduceEq, Int.reduceLE, Int.reduceNeg, Int.reduceAdd, Int.reduceMul, Int.reduceSub, ne_eq, not_true_eq_false, not_false_eq_true, and_true, true_and, and_false, false_and, c3lt, c3gt, c3eq, Bool.false_eq_true, isK_wr, inA_wr, inR_wr, c]
  have step : ∀ (a b i : Nat) (u v : AV), a < 2 ^ 63 → b < 2 ^ 63 → 0 < b → i < 200 → EV d 164 9 [(2, 0), (1, x), (3, 1), (1, y), (3, 1), (1, (a : Int)), (3, 1), (1, (b : Int)), (3, 1), (0, (i : Int)), u, v] [] h = EV d 164 9 [(2, 0), (1, x), (3, 1), (1, y), (3, 1), (1, (b : Int)), (3, 1), (1, ((a % b : Nat) : Int)), (3, 1), (0, ((i + 1 : Nat) : Int)), (1, ((a % b : Nat) : Int)), (3, 1)] [] h := by
    intro a b i u v ha hb b0 hi
    have c : (i : Int) < 200 := by omega
    have c2 : ¬ ((b : Int) = 0) := by omega
    have w1 : w32 ((i : Int) + 1) = ((i + 1 : Nat) : Int) := by rw [w32_id (by omega) (by omega)]; omega
    rw [e164_9]
    simp only [e164_0, e164_1, e164_3, e164_4, e164_6, e164_7, e164_11, e164_14, e164_17, e164_19, e164_20, e164_21, e164_24, e164_26, e164_28, e164_29, e164_31, e164_33, e164_35, e164_37, e164_39, e164_42, e164_47, e164_48, e164_49, e164_52, e164_54, e164_57, e164_58, e164_60, e164_61, e164_62, e164_64, e164_65, e164_68, e164_69, e164_70, e164_72, e164_73, e164_76, psh0, psh1, psh3, true_or, or_true, eq_self, Option.bind_some, List.length_nil, List.length_cons, Nat.reduceAdd, Nat.reduceLeDiff, Nat.zero_le, ↓reduceIte, Int.reduceLT, Int.reduceEq, Int.reduceLE, Int.reduceNeg, Int.reduceAdd, Int.reduceMul, Int.reduceSub, ne_eq, not_true_eq_false, not_false_eq_true, and_true, true_and, and_false, false_and, c3lt, c3gt, c3eq, Bool.false_eq_true, isK_wr, inA_wr, inR_wr, c, c2, l_rem_n ha hb, w1]
  induction k with
  | zero =>
    intro a b i u v ha hb hk hi
    have e : b = 0 := by omega
    subst e
    exact ⟨_, _, _, by rw [Nat.gcd_zero_right]; exact stop a i u v⟩
  | succ k ih =>
    intro a b i u v ha hb hk hi
    rcases Nat.eq_zero_or_pos b with e | b0
    · subst e
      exact ⟨_, _, _, by rw [Nat.gcd_zero_right]; exact stop a i u v⟩
    · have r1 := Nat.mod_lt a b0
      rw [step a b i u v ha hb b0 (by omega), Nat.gcd_comm a b, Nat.gcd_rec b a, Nat.gcd_comm]
      rcases Nat.eq_zero_or_pos (a % b) with e | c0
      · rw [e]
        exact ⟨_, _, _, by rw [Nat.gcd_zero_right]; exact stop b (i + 1) _ _⟩
      · rw [step b (a % b) (i + 1) _ _ hb (by omega) c0 (by omega), Nat.gcd_comm b (a % b), Nat.gcd_rec (a % b) b, Nat.gcd_comm]
        have := Nat.mod_lt b c0
        exact ih (a % b) (b % (a % b)) (i + 1 + 1) _ _ (by omega) (by omega) (mod_half c0 r1 k hk) (by omega)
theorem m_euclid (n : Nat) : ∀ (a b : Nat) (u v : AV), a < 2 ^ 63 → b < 2 ^ 63 → b ≤ n → ∃ (u' v' : AV), EV d 178 9 [(2, 235), (1, x), (3, 1), (1, y), (3, 1), (1, (a : Int)), (3, 1), (1, (b : Int)), (3, 1), u, v] [] h = EV d 178 34 [(2, 235), (1, x), (3, 1), (1, y), (3, 1), (1, ((Nat.gcd a b : Nat) : Int)), (3, 1), (1, 0), (3, 1), u', v'] [] h := by
  have stop : ∀ (a : Nat) (u v : AV), EV d 178 9 [(2, 235), (1, x), (3, 1), (1, y), (3, 1), (1, (a : Int)), (3, 1), (1, 0), (3, 1), u, v] [] h = EV d 178 34 [(2, 235), (1, x), (3, 1), (1, y), (3, 1), (1, (a : Int)), (3, 1), (1, 0), (3, 1), u, v] [] h := by
    intro a u v
    rw [e178_9]
    simp only [e178_0, e178_1, e178_4, e178_6, e178_7, e178_11, e178_12, e178_13, e178_16, e178_18, e178_20, e178_21, e178_23, e178_25, e178_27, e178_29, e178_31, e178_35, e178_36, e178_38, e178_39, e178_42, e178_43, e178_44, e178_46, e178_47, e178_50, e178_51, psh0, psh1, psh3, true_or, or_true, eq_self, Option.bind_some, List.length_nil, List.length_cons, Nat.reduceAdd, Nat.reduceLeDiff, Nat.zero_le, ↓reduceIte, Int.reduceLT, Int.reduceEq, Int.reduceLE, Int.reduceNeg, Int.reduceAdd, Int.reduceMul, Int.reduceSub, ne_eq, not_true_eq_false, not_false_eq_true, and_true, true_and, and_false, false_and, c3lt, c3gt, c3eq, Bool.false_eq_true, isK_wr, inA_wr, inR_wr]
  have step : ∀ (a b : Nat) (u v : AV), a < 2 ^ 63 → b < 2 ^ 63 → 0 < b → EV d 178 9 [(2, 235), (1, x), (3, 1), (1, y), (3, 1), (1, (a : Int)), (3, 1), (1, (b : Int)), (3, 1), u, v] [] h = EV d 178 9 [(2, 235), (1, x), (3, 1), (1, y), (3, 1), (1, (b : Int)), (3, 1), (1, ((a % b : Nat) : Int)), (3, 1), (1, ((a % b : Nat) : Int)), (3, 1)] [] h := by
    intro a b u v ha hb b0
    have c2 : ¬ ((b : Int) = 0) := by omega
    rw [e178_9]
    simp only [e178_0, e178_1, e178_4, e178_6, e178_7, e178_11, e178_12, e178_13, e178_16, e178_18, e178_20, e178_21, e178_23, e178_25, e178_27, e178_29, e178_31, e178_35, e178_36, e178_38, e178_39, e178_42, e178_43, e178_44, e178_46, e178_47, e178_50, e178_51, psh0, psh1, psh3, true_or, or_true, eq_self, Option.bind_some, List.length_nil, List.length_cons, Nat.reduceAdd, Nat.reduceLeDiff, Nat.zero_le, ↓reduceIte, Int.reduceLT, Int.reduceEq, Int.reduceLE, Int.reduceNeg, Int.reduceAdd, Int.reduceMul, Int.reduceSub, ne_eq, not_true_eq_false, not_false_eq_true, and_true, true_and, and_false, false_and, c3lt, c3gt, c3eq, Bool.false_eq_true, isK_wr, inA_wr, inR_wr, c2, l_rem_n ha hb]
  induction n with
  | zero =>
    intro a b u v ha hb hk
    have e : b = 0 := by omega
    subst e
    exact ⟨_, _, by rw [Nat.gcd_zero_right]; exact stop a u v⟩
  | succ n ih =>
    intro a b u v ha hb hk
    rcases Nat.eq_zero_or_pos b with e | b0
    · subst e
      exact ⟨_, _, by rw [Nat.gcd_zero_right]; exact stop a u v⟩
    · have r1 := Nat.mod_lt a b0
      rw [step a b u v ha hb b0, Nat.gcd_comm a b, Nat.gcd_rec b a, Nat.gcd_comm]
      exact ih b (a % b) _ _ hb (by omega) (by omega)
theorem x_tellFraction {a b : Nat} (hk : isK h 0 10) (ha : a < 2 ^ 63) (hb : b < 2 ^ 63) (b0 : 0 < b) : EV d 164 0 [(2, 0), (1, (a : Int)), (3, 1), (1, (b : Int)), (3, 1), (3, 0), (3, 0), (3, 0), (3, 0), (3, 0), (3, 0), (3, 0)] [] h = some ((3, 0), mwr (mwr h 0 12 ((a / Nat.gcd a b : Nat) : Int)) 0 13 ((b / Nat.gcd a b : Nat) : Int)) := by
  obtain ⟨j, u, v, e⟩ := x_euclid (d := d) (h := h) (x := (a : Int)) (y := (b : Int)) 63 a b 0 (3, 0) (3, 0) ha hb hb (by omega)
  have e : EV d 164 9 [(2, 0), (1, (a : Int)), (3, 1), (1, (b : Int)), (3, 1), (1, (a : Int)), (3, 1), (1, (b : Int)), (3, 1), (0, 0), (3, 0), (3, 0)] [] h = _ := e
  have g0 : 0 < Nat.gcd a b := Nat.gcd_pos_of_pos_right a b0
  have g1 : (0 : Int) < ((Nat.gcd a b : Nat) : Int) := by omega
  have g2 : ¬ (((Nat.gcd a b : Nat) : Int) = 0) := by omega
  have g3 : Nat.gcd a b < 2 ^ 63 := Nat.lt_of_le_of_lt (Nat.gcd_le_right a b0) hb
  simp only [e164_0, e164_1, e164_3, e164_4, e164_6, e164_7, e164_11, e164_14, e164_17, e164_19, e164_20, e164_21, e164_24, e164_26, e164_28, e164_29, e164_31, e164_33, e164_35, e164_37, e164_39, e164_42, e164_47, e164_48, e164_49, e164_52, e164_54, e164_57, e164_58, e164_60, e164_61, e164_62, e164_64, e164_65, e164_68, e164_69, e164_70, e164_72, e164_73, e164_76, psh0, psh1, psh3, true_or, or_true, eq_self, Option.bind_some, List.length_nil, List.length_cons, Nat.reduceAdd, Nat.reduceLeDiff, Nat.zero_le, ↓reduceIte, Int.reduceLT, Int.reduceEq, Int.reduceLE, Int.reduceNeg, Int.reduceAdd, Int.reduceMul, Int.reduceSub, ne_eq, not_true_eq_false, not_false_eq_true, and_true, true_and, and_false, false_and, c3lt, c3gt, c3eq, Bool.false_eq_true, isK_wr, inA_wr, inR_wr]
  rw [e, e164_45]
  simp only [e164_0, e164_1, e164_3, e164_4, e164_6, e164_7, e164_11, e164_14, e164_17, e164_19, e164_20, e164_21, e164_24, e164_26, e164_28, e164_29, e164_31, e164_33, e164_35, e164_37, e164_39, e164_42, e164_47, e164_48, e164_49, e164_52, e164_54, e164_57, e164_58, e164_60, e164_61, e164_62, e164_64, e164_65, e164_68, e164_69, e164_70, e164_72, e164_73, e164_76, psh0, psh1, psh3, true_or, or_true, eq_self, Option.bind_some, List.length_nil, List.length_cons, Nat.reduceAdd, Nat.reduceLeDiff, Nat.zero_le, ↓reduceIte, Int.reduceLT, Int.reduceEq, Int.reduceLE, Int.reduceNeg, Int.reduceAdd, Int.reduceMul, Int.reduceSub, ne_eq, not_true_eq_false, not_false_eq_true, and_true, true_and, and_false, false_and, c3lt, c3gt, c3eq, Bool.false_eq_true, isK_wr, inA_wr, inR_wr, g1, g2, l_div_n ha g3, l_div_n hb g3, hk]
theorem m_fraction {a b : Nat} (hk : isK h 235 11) (ha : a < 2 ^ 63) (hb : b < 2 ^ 63) (b0 : 0 < b) : EV (d + 1) 178 0 [(2, 235), (1, (a : Int)), (3, 1), (1, (b : Int)), (3, 1), (3, 0), (3, 0), (3, 0), (3, 0), (3, 0), (3, 0)] [] h = some ((0, 1), mwr (mwr h 235 2 ((a / Nat.gcd a b : Nat) : Int)) 235 3 ((b / Nat.gcd a b : Nat) : Int)) := by
  obtain ⟨u, v, e⟩ := m_euclid (d := d + 1) (h := h) (x := (a : Int)) (y := (b : Int)) b a b (3, 0) (3, 0) ha hb (Nat.le_refl _)
  have g0 : 0 < Nat.gcd a b := Nat.gcd_pos_of_pos_right a b0
  have g2 : ¬ (((Nat.gcd a b : Nat) : Int) = 0) := by omega
  have g3 : Nat.gcd a b < 2 ^ 63 := Nat.lt_of_le_of_lt (Nat.gcd_le_right a b0) hb
  have ab : (if (0 : Int) < (a : Int) then (a : Int) else w64 (-(a : Int))) = a := by
    split
    · rfl
    · have : a = 0 := by omega
      subst this
      decide
  rw [e178_0, e178_1, ab]
  simp only [e178_4, e178_6, e178_7, e178_11, e178_12, e178_13, e178_16, e178_18, e178_20, e178_21, e178_23, e178_25, e178_27, e178_29, e178_31, e178_35, e178_36, e178_38, e178_39, e178_42, e178_43, e178_44, e178_46, e178_47, e178_50, e178_51, psh0, psh1, psh3, true_or, or_true, eq_self, Option.bind_some, List.length_nil, List.length_cons, Nat.reduceAdd, Nat.reduceLeDiff, Nat.zero_le, ↓reduceIte, Int.reduceLT, Int.reduceEq, Int.reduceLE, Int.reduceNeg, Int.reduceAdd, Int.reduceMul, Int.reduceSub, ne_eq, not_true_eq_false, not_false_eq_true, and_true, true_and, and_false, false_and, c3lt, c3gt, c3eq, Bool.false_eq_true, isK_wr, inA_wr, inR_wr]
  rw [e, e178_34]
  simp only [e178_4, e178_6, e178_7, e178_11, e178_12, e178_13, e178_16, e178_18, e178_20, e178_21, e178_23, e178_25, e178_27, e178_29, e178_31, e178_35, e178_36, e178_38, e178_39, e178_42, e178_43, e178_44, e178_46, e178_47, e178_50, e178_51, psh0, psh1, psh3, true_or, or_true, eq_self, Option.bind_some, List.length_nil, List.length_cons, Nat.reduceAdd, Nat.reduceLeDiff, Nat.zero_le, ↓reduceIte, Int.reduceLT, Int.reduceEq, Int.reduceLE, Int.reduceNeg, Int.reduceAdd, Int.reduceMul, Int.reduceSub, ne_eq, not_true_eq_false, not_false_eq_true, and_true, true_and, and_false, false_and, c3lt, c3gt, c3eq, Bool.false_eq_true, isK_wr, inA_wr, inR_wr, g2, l_div_n ha g3, l_div_n hb g3, hk]
end

/-! ages lived: draws -/
theorem bmod32 {x : Int} (h0 : -2147483648 ≤ x) (h1 : x < 2147483648) : x.bmod (2 ^ 32) = x := by
  rw [Int.bmod_def]
  rw [show (((2 ^ 32 : Nat)) : Int) = 4294967296 from by decide]
  split <;> omega
theorem i_div_n {a b : Nat} (ha : a < 2 ^ 31) (hb : b < 2 ^ 31) : i_div (a : Int) (b : Int) = ((a / b : Nat) : Int) := by
  have ha' : a < 2147483648 := ha
  have hb' : b < 2147483648 := hb
  have e1 : (Int32.ofInt (a : Int)).toInt = a := w32_id (by omega) (by omega)
  have e2 : (Int32.ofInt (b : Int)).toInt = b := w32_id (by omega) (by omega)
  have q := Nat.div_le_self a b
  show (Int32.ofInt (a : Int) / Int32.ofInt (b : Int)).toInt = _
  rw [Int32.toInt_div, e1, e2, ← Int.ofNat_tdiv]
  generalize a / b = z at q ⊢
  exact bmod32 (by omega) (by omega)
theorem i_rem_n {a b : Nat} (ha : a < 2 ^ 31) (hb : b < 2 ^ 31) : i_rem (a : Int) (b : Int) = ((a % b : Nat) : Int) := by
  have ha' : a < 2147483648 := ha
  have hb' : b < 2147483648 := hb
  have e1 : (Int32.ofInt (a : Int)).toInt = a := w32_id (by omega) (by omega)
  have e2 : (Int32.ofInt (b : Int)).toInt = b := w32_id (by omega) (by omega)
  have q := Nat.div_le_self a b
  have q2 := Nat.div_mul_le_self a b
  have q3 := Nat.mod_add_div a b
  rw [Nat.mul_comm] at q3
  have e3 : (Int32.ofInt (a : Int) / Int32.ofInt (b : Int)).toInt = ((a / b : Nat) : Int) := i_div_n ha hb
  show (Int32.ofInt (a : Int) - Int32.ofInt (a : Int) / Int32.ofInt (b : Int) * Int32.ofInt (b : Int)).toInt = _
  rw [Int32.toInt_sub, Int32.toInt_mul, e1, e2, e3, ← Int.natCast_mul, bmod32 (x := ((a / b * b : Nat) : Int)) (by omega) (by omega)]
  rw [bmod32 (by omega) (by omega)]
  omega
def rndF (x : Int) : Int := i_rem (w32 (w32 (x * 2887) + 10477)) 65536
def drwF (x n : Int) : Int := i_rem (i_div (rndF x) 8) n
theorem rn_rng {x : Int} (h0 : 0 ≤ x) (h1 : x < 65536) : 0 ≤ rndF x ∧ rndF x < 65536 := by
  obtain ⟨n, rfl⟩ := Int.eq_ofNat_of_zero_le h0
  have e1 : w32 ((n : Int) * 2887) = ((n * 2887 : Nat) : Int) := by rw [w32_id (by omega) (by omega)]; omega
  have e2 : w32 (((n * 2887 : Nat) : Int) + 10477) = ((n * 2887 + 10477 : Nat) : Int) := by rw [w32_id (by omega) (by omega)]; omega
  unfold rndF
  rw [e1, e2, show (65536 : Int) = ((65536 : Nat) : Int) from rfl, i_rem_n (by omega) (by decide)]
  omega
theorem dr_rng {x n : Int} (h0 : 0 ≤ x) (h1 : x < 65536) (n0 : 0 < n) (n1 : n ≤ 100) : 0 ≤ drwF x n ∧ drwF x n < n := by
  obtain ⟨r0, r1⟩ := rn_rng h0 h1
  unfold drwF
  obtain ⟨r, hr⟩ := Int.eq_ofNat_of_zero_le r0
  obtain ⟨m, rfl⟩ := Int.eq_ofNat_of_zero_le (show 0 ≤ n by omega)
  have q := Nat.div_le_self r 8
  rw [hr] at r1 ⊢
  rw [show (8 : Int) = ((8 : Nat) : Int) from rfl, i_div_n (by omega) (by decide), i_rem_n (by omega) (by omega)]
  have := Nat.mod_lt (r / 8) (show 0 < m by omega)
  omega
/-- the which-th member of a set, from l on -/
def mbF (x : Int) : Nat → Nat → Int → Int
  | 0, _, _ => -1
  | n + 1, l, w => if bI x l = true then (if w = 0 then (l : Int) else mbF x n (l + 1) (w - 1)) else mbF x n (l + 1) w
theorem mbF_rng {x : Int} : ∀ (n l : Nat) (w : Int), mbF x n l w = -1 ∨ ((l : Int) ≤ mbF x n l w ∧ mbF x n l w < l + n ∧ bI x (mbF x n l w).toNat = true)
  | 0, _, _ => Or.inl rfl
  | n + 1, l, w => by
    rw [mbF]
    split
    · rename_i hb
      split
      · exact Or.inr ⟨Int.le_refl _, by omega, by rw [Int.toNat_natCast]; exact hb⟩
      · rcases mbF_rng n (l + 1) (w - 1) with h | ⟨h1, h2, h3⟩
        · exact Or.inl h
        · exact Or.inr ⟨by omega, by omega, h3⟩
    · rcases mbF_rng n (l + 1) w with h | ⟨h1, h2, h3⟩
      · exact Or.inl h
      · exact Or.inr ⟨by omega, by omega, h3⟩
section
variable {d : Nat} {h : AM} {L n x w : Int}
theorem x_draw (hk : isK h L 3) (n0 : 0 < n) : EV d 26 0 [(2, L), (0, n)] [] h = some ((0, drwF (mrd h L 7) n), mwr h L 7 (rndF (mrd h L 7))) := by
  have c : n ≠ 0 := by omega
  have c6 : (65536 : Int) ≠ 0 := by decide
  have c8 : (8 : Int) ≠ 0 := by decide
  unfold drwF rndF
  simp only [e26_0, e26_1, e26_4, e26_5, e26_6, e26_7, e26_8, e26_11, e26_14, e26_15, e26_18, e26_19, e26_21, e26_22, e26_25, e26_26, e26_29, e26_31, e26_32, e26_33, e26_34, psh0, psh1, psh3, true_or, or_true, eq_self, Option.bind_some, List.length_nil, List.length_cons, Nat.reduceAdd, Nat.reduceLeDiff, Nat.zero_le, ↓reduceIte, Int.reduceLT, Int.reduceEq, Int.reduceLE, Int.reduceNeg, Int.reduceAdd, Int.reduceMul, Int.reduceSub, ne_eq, not_true_eq_false, not_false_eq_true, and_true, true_and, and_false, false_and, c3lt, c3gt, c3eq, Bool.false_eq_true, isK_wr, inA_wr, inR_wr, hk, n0, c, c6, c8, rde]
theorem x_draw0 : EV d 26 0 [(2, L), (0, 0)] [] h = some ((0, -1), h) := by
  simp only [e26_0, e26_1, e26_4, e26_5, e26_6, e26_7, e26_8, e26_11, e26_14, e26_15, e26_18, e26_19, e26_21, e26_22, e26_25, e26_26, e26_29, e26_31, e26_32, e26_33, e26_34, psh0, psh1, psh3, true_or, or_true, eq_self, Option.bind_some, List.length_nil, List.length_cons, Nat.reduceAdd, Nat.reduceLeDiff, Nat.zero_le, ↓reduceIte, Int.reduceLT, Int.reduceEq, Int.reduceLE, Int.reduceNeg, Int.reduceAdd, Int.reduceMul, Int.reduceSub, ne_eq, not_true_eq_false, not_false_eq_true, and_true, true_and, and_false, false_and, c3lt, c3gt, c3eq, Bool.false_eq_true, isK_wr, inA_wr, inR_wr]
theorem m_draw (hk : isK h 235 11) (n0 : 0 < n) : EV d 312 0 [(2, 235), (0, n)] [] h = some ((0, drwF (mrd h 235 46) n), mwr h 235 46 (rndF (mrd h 235 46))) := by
  have c : n ≠ 0 := by omega
  have c6 : (65536 : Int) ≠ 0 := by decide
  have c8 : (8 : Int) ≠ 0 := by decide
  unfold drwF rndF
  simp only [e312_0, e312_1, e312_2, e312_5, e312_8, e312_9, e312_12, e312_13, e312_16, e312_17, e312_20, e312_21, e312_24, e312_26, e312_27, e312_28, e312_29, psh0, psh1, psh3, true_or, or_true, eq_self, Option.bind_some, List.length_nil, List.length_cons, Nat.reduceAdd, Nat.reduceLeDiff, Nat.zero_le, ↓reduceIte, Int.reduceLT, Int.reduceEq, Int.reduceLE, Int.reduceNeg, Int.reduceAdd, Int.reduceMul, Int.reduceSub, ne_eq, not_true_eq_false, not_false_eq_true, and_true, true_and, and_false, false_and, c3lt, c3gt, c3eq, Bool.false_eq_true, isK_wr, inA_wr, inR_wr, hk, c, c6, c8, rde]
theorem x_memberOf_loop (n : Nat) : ∀ (l : Nat) (w : Int) (l1 : AV), l + n = 12 → 0 ≤ w → w ≤ 100 → EV d 27 4 [(0, x), l1, (0, w), (0, (l : Int))] [] h = some ((0, mbF x n l w), h) := by
  induction n with
  | zero =>
    intro l w l1 hl w0 w1
    have e : l = 12 := by omega
    subst e
    rw [e27_4, mbF]
    simp only [e27_0, e27_1, e27_2, e27_3, e27_5, e27_7, e27_10, e27_11, e27_14, e27_15, e27_16, e27_17, e27_18, e27_19, e27_22, e27_23, e27_26, e27_27, e27_28, e27_31, e27_34, e27_37, e27_38, psh0, psh1, psh3, true_or, or_true, eq_self, Option.bind_some, List.length_nil, List.length_cons, Nat.reduceAdd, Nat.reduceLeDiff, Nat.zero_le, ↓reduceIte, Int.reduceLT, Int.reduceEq, Int.reduceLE, Int.reduceNeg, Int.reduceAdd, Int.reduceMul, Int.reduceSub, ne_eq, not_true_eq_false, not_false_eq_true, and_true, true_and, and_false, false_and, c3lt, c3gt, c3eq, Bool.false_eq_true, isK_wr, inA_wr, inR_wr]
    rfl
  | succ n ih =>
    intro l w l1 hl w0 w1
    have c : (l : Int) < 12 := by omega
    have cw : ¬ w < 0 := by omega
    have u1 : w32 ((l : Int) + 1) = ((l + 1 : Nat) : Int) := by rw [w32_id (by omega) (by omega)]; omega
    have hb := and1_0 (x := x) (l := (l : Int)) (by omega) (by omega)
    rw [Int.toNat_natCast] at hb
    rw [e27_4, mbF]
    by_cases hx : bI x l = true
    · have hz : ¬ i_and x (i_shl 1 l) = 0 := fun z => by have := hb.mp z; rw [hx] at this; cases this
      rw [if_pos hx]
      by_cases e : w = 0
      · rw [if_pos e]
        simp only [e27_0, e27_1, e27_2, e27_3, e27_5, e27_7, e27_10, e27_11, e27_14, e27_15, e27_16, e27_17, e27_18, e27_19, e27_22, e27_23, e27_26, e27_27, e27_28, e27_31, e27_34, e27_37, e27_38, psh0, psh1, psh3, true_or, or_true, eq_self, Option.bind_some, List.length_nil, List.length_cons, Nat.reduceAdd, Nat.reduceLeDiff, Nat.zero_le, ↓reduceIte, Int.reduceLT, Int.reduceEq, Int.reduceLE, Int.reduceNeg, Int.reduceAdd, Int.reduceMul, Int.reduceSub, ne_eq, not_true_eq_false, not_false_eq_true, and_true, true_and, and_false, false_and, c3lt, c3gt, c3eq, Bool.false_eq_true, isK_wr, inA_wr, inR_wr, c, cw, hz, e, Int.lt_irrefl]
      · rw [if_neg e, ← ih (l + 1) (w - 1) l1 (by omega) (by omega) (by omega)]
        have u2 : w32 (w + (-1)) = w - 1 := by rw [w32_id (by omega) (by omega)]; omega
        simp only [e27_0, e27_1, e27_2, e27_3, e27_5, e27_7, e27_10, e27_11, e27_14, e27_15, e27_16, e27_17, e27_18, e27_19, e27_22, e27_23, e27_26, e27_27, e27_28, e27_31, e27_34, e27_37, e27_38, psh0, psh1, psh3, true_or, or_true, eq_self, Option.bind_some, List.length_nil, List.length_cons, Nat.reduceAdd, Nat.reduceLeDiff, Nat.zero_le, ↓reduceIte, Int.reduceLT, Int.reduceEq, Int.reduceLE, Int.reduceNeg, Int.reduceAdd, Int.reduceMul, Int.reduceSub, ne_eq, not_true_eq_false, not_false_eq_true, and_true, true_and, and_false, false_and, c3lt, c3gt, c3eq, Bool.false_eq_true, isK_wr, inA_wr, inR_wr, c, cw, hz, e, u1, u2]
    · have hz : i_and x (i_shl 1 l) = 0 := hb.mpr (by simpa using hx)
      rw [if_neg hx, ← ih (l + 1) w l1 (by omega) w0 w1]
      simp only [e27_0, e27_1, e27_2, e27_3, e27_5, e27_7, e27_10, e27_11, e27_14, e27_15, e27_16, e27_17, e27_18, e27_19, e27_22, e27_23, e27_26, e27_27, e27_28, e27_31, e27_34, e27_37, e27_38, psh0, psh1, psh3, true_or, or_true, eq_self, Option.bind_some, List.length_nil, List.length_cons, Nat.reduceAdd, Nat.reduceLeDiff, Nat.zero_le, ↓reduceIte, Int.reduceLT, Int.reduceEq, Int.reduceLE, Int.reduceNeg, Int.reduceAdd, Int.reduceMul, Int.reduceSub, ne_eq, not_true_eq_false, not_false_eq_true, and_true, true_and, and_false, false_and, c3lt, c3gt, c3eq, Bool.false_eq_true, isK_wr, inA_wr, inR_wr, c, cw, hz, u1]
theorem x_memberOf (w0 : 0 ≤ w) (w1 : w ≤ 100) : EV d 27 0 [(0, x), (0, w), (3, 0), (3, 0)] [] h = some ((0, mbF x 12 0 w), h) := by
  refine Eq.trans ?_ (x_memberOf_loop (d := d) 12 0 w (0, w) (by omega) w0 w1)
  simp only [e27_0, e27_1, e27_2, e27_3, e27_5, e27_7, e27_10, e27_11, e27_14, e27_15, e27_16, e27_17, e27_18, e27_19, e27_22, e27_23, e27_26, e27_27, e27_28, e27_31, e27_34, e27_37, e27_38, psh0, psh1, psh3, true_or, or_true, eq_self, Option.bind_some, List.length_nil, List.length_cons, Nat.reduceAdd, Nat.reduceLeDiff, Nat.zero_le, ↓reduceIte, Int.reduceLT, Int.reduceEq, Int.reduceLE, Int.reduceNeg, Int.reduceAdd, Int.reduceMul, Int.reduceSub, ne_eq, not_true_eq_false, not_false_eq_true, and_true, true_and, and_false, false_and, c3lt, c3gt, c3eq, Bool.false_eq_true, isK_wr, inA_wr, inR_wr]
  rfl
theorem x_memberOf1 : EV d 27 0 [(0, x), (0, -1), (3, 0), (3, 0)] [] h = some ((0, -1), h) := by
  simp only [e27_0, e27_1, e27_2, e27_3, e27_4, e27_5, e27_7, e27_10, e27_11, e27_14, e27_15, e27_16, e27_17, e27_18, e27_19, e27_22, e27_23, e27_26, e27_27, e27_28, e27_31, e27_34, e27_37, e27_38, psh0, psh1, psh3, true_or, or_true, eq_self, Option.bind_some, List.length_nil, List.length_cons, Nat.reduceAdd, Nat.reduceLeDiff, Nat.zero_le, ↓reduceIte, Int.reduceLT, Int.reduceEq, Int.reduceLE, Int.reduceNeg, Int.reduceAdd, Int.reduceMul, Int.reduceSub, ne_eq, not_true_eq_false, not_false_eq_true, and_true, true_and, and_false, false_and, c3lt, c3gt, c3eq, Bool.false_eq_true, isK_wr, inA_wr, inR_wr]
end
/-- enough members behind l: the which-th is there -/
theorem mb_there {x : Int} : ∀ (n l : Nat) (w : Int), 0 ≤ w → w < cB x (l + n) - cB x l → mbF x n l w ≠ -1
  | 0, l, w, w0, h => by rw [Nat.add_zero] at h; omega
  | n + 1, l, w, w0, h => by
    have e : cB x (l + 1) = cB x l + (if bI x l = true then 1 else 0) := by rw [cB]
    rw [show l + (n + 1) = l + 1 + n by omega] at h
    rw [mbF]
    by_cases hb : bI x l = true
    · rw [if_pos hb] at e ⊢
      by_cases c : w = 0
      · rw [if_pos c]; omega
      · rw [if_neg c]
        exact mb_there n (l + 1) (w - 1) (by omega) (by omega)
    · rw [if_neg hb] at e ⊢
      exact mb_there n (l + 1) w w0 (by omega)

/-! a name among the names -/
def fd (f : Int → Int) (v : Int) : Nat → Nat → Int
  | _, 0 => -1
  | i, n + 1 => if f i = v then (i : Int) else fd f v (i + 1) n
theorem fd_rng {f : Int → Int} {v : Int} : ∀ n i : Nat, -1 ≤ fd f v i n ∧ fd f v i n < i + n ∧ (0 ≤ fd f v i n → (i : Int) ≤ fd f v i n ∧ f (fd f v i n) = v)
  | 0, i => by rw [fd]; omega
  | n + 1, i => by
    rw [fd]
    by_cases c : f i = v
    · rw [if_pos c]; exact ⟨by omega, by omega, fun _ => ⟨by omega, c⟩⟩
    · rw [if_neg c]
      have := fd_rng (f := f) (v := v) n (i + 1)
      exact ⟨this.1, by omega, fun z => ⟨by have := this.2.2 z; omega, (this.2.2 z).2⟩⟩
theorem fd_congr {f g : Int → Int} {v : Int} : ∀ n i : Nat, (∀ j : Nat, i ≤ j → j < i + n → f j = g j) → fd f v i n = fd g v i n
  | 0, i, _ => rfl
  | n + 1, i, h => by
    rw [fd, fd, h i (by omega) (by omega), fd_congr n (i + 1) (fun j j0 j1 => h j (by omega) (by omega))]
section
variable {d : Nat} {a b : AM} {s v : Int}
theorem x_fMl (cs : CS a s) {n : Nat} (hn : mrd a s 5 = n) (n4 : n ≤ 4) : ∀ m i : Nat, i + m = n → EV d 60 2 [(2, s), (1, v), (3, 1), (0, (i : Int))] [] a = some ((0, fd (mrd a (s + 1)) v i m), a)
  | 0, i, h => by
    have c : ¬ (i : Int) < n := by omega
    have ks := cs.1
    rw [fd, e60_2]
    simp only [e60_0, e60_1, e60_3, e60_4, e60_7, e60_10, e60_11, e60_14, e60_15, e60_16, e60_17, e60_18, e60_21, e60_22, e60_23, e60_26, e60_29, e60_30, psh0, psh1, psh3, true_or, or_true, eq_self, Option.bind_some, List.length_nil, List.length_cons, Nat.reduceAdd, Nat.reduceLeDiff, Nat.zero_le, ↓reduceIte, Int.reduceLT, Int.reduceEq, Int.reduceLE, Int.reduceNeg, Int.reduceAdd, Int.reduceMul, Int.reduceSub, ne_eq, not_true_eq_false, not_false_eq_true, and_true, true_and, and_false, false_and, c3lt, c3gt, c3eq, Bool.false_eq_true, isK_wr, inA_wr, inR_wr, ks, hn, c]
  | m + 1, i, h => by
    have c : (i : Int) < n := by omega
    have ks := cs.1
    have r0 := cs.2.1
    have hA : inA a (s + 1) 19 i := ⟨cs.2.2.2.2.2.2.1, by omega, by rw [cs.2.2.2.2.2.2.2.1]; omega⟩
    have w : w32 ((i : Int) + 1) = ((i + 1 : Nat) : Int) := w32_id (by omega) (by omega)
    have ih := x_fMl cs hn n4 m (i + 1) (by omega)
    rw [fd, e60_2]
    by_cases e : mrd a (s + 1) i = v
    · rw [if_pos e]
      simp only [e60_0, e60_1, e60_3, e60_4, e60_7, e60_10, e60_11, e60_14, e60_15, e60_16, e60_17, e60_18, e60_21, e60_22, e60_23, e60_26, e60_29, e60_30, psh0, psh1, psh3, true_or, or_true, eq_self, Option.bind_some, List.length_nil, List.length_cons, Nat.reduceAdd, Nat.reduceLeDiff, Nat.zero_le, ↓reduceIte, Int.reduceLT, Int.reduceEq, Int.reduceLE, Int.reduceNeg, Int.reduceAdd, Int.reduceMul, Int.reduceSub, ne_eq, not_true_eq_false, not_false_eq_true, and_true, true_and, and_false, false_and, c3lt, c3gt, c3eq, Bool.false_eq_true, isK_wr, inA_wr, inR_wr, ks, hn, c, r0, hA, e]
    · rw [if_neg e, ← ih]
      simp only [e60_0, e60_1, e60_3, e60_4, e60_7, e60_10, e60_11, e60_14, e60_15, e60_16, e60_17, e60_18, e60_21, e60_22, e60_23, e60_26, e60_29, e60_30, psh0, psh1, psh3, true_or, or_true, eq_self, Option.bind_some, List.length_nil, List.length_cons, Nat.reduceAdd, Nat.reduceLeDiff, Nat.zero_le, ↓reduceIte, Int.reduceLT, Int.reduceEq, Int.reduceLE, Int.reduceNeg, Int.reduceAdd, Int.reduceMul, Int.reduceSub, ne_eq, not_true_eq_false, not_false_eq_true, and_true, true_and, and_false, false_and, c3lt, c3gt, c3eq, Bool.false_eq_true, isK_wr, inA_wr, inR_wr, ks, hn, c, r0, hA, e, w]
theorem x_fM (cs : CS a s) {n : Nat} (hn : mrd a s 5 = n) (n4 : n ≤ 4) : EV d 60 0 [(2, s), (1, v), (3, 1), (3, 0)] [] a = some ((0, fd (mrd a (s + 1)) v 0 n), a) := by
  rw [← x_fMl cs hn n4 n 0 (by omega)]
  simp only [e60_0, e60_1, psh0, psh1, psh3, true_or, or_true, eq_self, Option.bind_some, List.length_nil, List.length_cons, Nat.reduceAdd, Nat.reduceLeDiff, Nat.zero_le]
  rfl
theorem x_fLl (cs : CS a s) {n : Nat} (hn : mrd a s 6 = n) (n4 : n ≤ 12) : ∀ m i : Nat, i + m = n → EV d 61 2 [(2, s), (1, v), (3, 1), (0, (i : Int))] [] a = some ((0, fd (fun l => mrd a (s + 13 + l) 0) v i m), a)
  | 0, i, h => by
    have c : ¬ (i : Int) < n := by omega
    have ks := cs.1
    rw [fd, e61_2]
    simp only [e61_0, e61_1, e61_3, e61_4, e61_7, e61_10, e61_11, e61_14, e61_15, e61_16, e61_19, e61_20, e61_21, e61_24, e61_25, e61_26, e61_29, e61_32, e61_33, psh0, psh1, psh3, true_or, or_true, eq_self, Option.bind_some, List.length_nil, List.length_cons, Nat.reduceAdd, Nat.reduceLeDiff, Nat.zero_le, ↓reduceIte, Int.reduceLT, Int.reduceEq, Int.reduceLE, Int.reduceNeg, Int.reduceAdd, Int.reduceMul, Int.reduceSub, ne_eq, not_true_eq_false, not_false_eq_true, and_true, true_and, and_false, false_and, c3lt, c3gt, c3eq, Bool.false_eq_true, isK_wr, inA_wr, inR_wr, ks, hn, c]
  | m + 1, i, h => by
    have c : (i : Int) < n := by omega
    have ks := cs.1
    have r0 := cs.2.2.1
    obtain ⟨l1, l2, l3⟩ := cs.2.2.2.2.2.2.2.2.2.2.2.1 (i : Int) (by omega) (by omega)
    have w : w32 ((i : Int) + 1) = ((i + 1 : Nat) : Int) := w32_id (by omega) (by omega)
    have ih := x_fLl cs hn n4 m (i + 1) (by omega)
    rw [fd, e61_2]
    by_cases e : mrd a (s + 13 + i) 0 = v
    · rw [if_pos e]
      simp only [e61_0, e61_1, e61_3, e61_4, e61_7, e61_10, e61_11, e61_14, e61_15, e61_16, e61_19, e61_20, e61_21, e61_24, e61_25, e61_26, e61_29, e61_32, e61_33, psh0, psh1, psh3, true_or, or_true, eq_self, Option.bind_some, List.length_nil, List.length_cons, Nat.reduceAdd, Nat.reduceLeDiff, Nat.zero_le, ↓reduceIte, Int.reduceLT, Int.reduceEq, Int.reduceLE, Int.reduceNeg, Int.reduceAdd, Int.reduceMul, Int.reduceSub, ne_eq, not_true_eq_false, not_false_eq_true, and_true, true_and, and_false, false_and, c3lt, c3gt, c3eq, Bool.false_eq_true, isK_wr, inA_wr, inR_wr, ks, hn, c, r0, l1, l2, l3, e]
    · rw [if_neg e, ← ih]
      simp only [e61_0, e61_1, e61_3, e61_4, e61_7, e61_10, e61_11, e61_14, e61_15, e61_16, e61_19, e61_20, e61_21, e61_24, e61_25, e61_26, e61_29, e61_32, e61_33, psh0, psh1, psh3, true_or, or_true, eq_self, Option.bind_some, List.length_nil, List.length_cons, Nat.reduceAdd, Nat.reduceLeDiff, Nat.zero_le, ↓reduceIte, Int.reduceLT, Int.reduceEq, Int.reduceLE, Int.reduceNeg, Int.reduceAdd, Int.reduceMul, Int.reduceSub, ne_eq, not_true_eq_false, not_false_eq_true, and_true, true_and, and_false, false_and, c3lt, c3gt, c3eq, Bool.false_eq_true, isK_wr, inA_wr, inR_wr, ks, hn, c, r0, l1, l2, l3, e, w]
theorem x_fL (cs : CS a s) {n : Nat} (hn : mrd a s 6 = n) (n4 : n ≤ 12) : EV d 61 0 [(2, s), (1, v), (3, 1), (3, 0)] [] a = some ((0, fd (fun l => mrd a (s + 13 + l) 0) v 0 n), a) := by
  rw [← x_fLl cs hn n4 n 0 (by omega)]
  simp only [e61_0, e61_1, psh0, psh1, psh3, true_or, or_true, eq_self, Option.bind_some, List.length_nil, List.length_cons, Nat.reduceAdd, Nat.reduceLeDiff, Nat.zero_le]
  rfl
theorem x_fCl (cs : CS a s) {n : Nat} (hn : mrd a s 7 = n) (n4 : n ≤ 4) : ∀ m i : Nat, i + m = n → EV d 62 2 [(2, s), (1, v), (3, 1), (0, (i : Int))] [] a = some ((0, fd (fun l => mrd a (s + 25 + 2 * l) 1) v i m), a)
  | 0, i, h => by
    have c : ¬ (i : Int) < n := by omega
    have ks := cs.1
    rw [fd, e62_2]
    simp only [e62_0, e62_1, e62_3, e62_4, e62_7, e62_10, e62_11, e62_14, e62_15, e62_16, e62_19, e62_20, e62_21, e62_24, e62_25, e62_26, e62_29, e62_32, e62_33, psh0, psh1, psh3, true_or, or_true, eq_self, Option.bind_some, List.length_nil, List.length_cons, Nat.reduceAdd, Nat.reduceLeDiff, Nat.zero_le, ↓reduceIte, Int.reduceLT, Int.reduceEq, Int.reduceLE, Int.reduceNeg, Int.reduceAdd, Int.reduceMul, Int.reduceSub, ne_eq, not_true_eq_false, not_false_eq_true, and_true, true_and, and_false, false_and, c3lt, c3gt, c3eq, Bool.false_eq_true, isK_wr, inA_wr, inR_wr, ks, hn, c]
  | m + 1, i, h => by
    have c : (i : Int) < n := by omega
    have ks := cs.1
    have r0 := cs.2.2.2.1
    obtain ⟨l1, l2, l3, l4⟩ := cs.2.2.2.2.2.2.2.2.2.2.2.2 (i : Int) (by omega) (by omega)
    have w : w32 ((i : Int) + 1) = ((i + 1 : Nat) : Int) := w32_id (by omega) (by omega)
    have ih := x_fCl cs hn n4 m (i + 1) (by omega)
    rw [fd, e62_2]
    by_cases e : mrd a (s + 25 + 2 * i) 1 = v
    · rw [if_pos e]
      simp only [e62_0, e62_1, e62_3, e62_4, e62_7, e62_10, e62_11, e62_14, e62_15, e62_16, e62_19, e62_20, e62_21, e62_24, e62_25, e62_26, e62_29, e62_32, e62_33, psh0, psh1, psh3, true_or, or_true, eq_self, Option.bind_some, List.length_nil, List.length_cons, Nat.reduceAdd, Nat.reduceLeDiff, Nat.zero_le, ↓reduceIte, Int.reduceLT, Int.reduceEq, Int.reduceLE, Int.reduceNeg, Int.reduceAdd, Int.reduceMul, Int.reduceSub, ne_eq, not_true_eq_false, not_false_eq_true, and_true, true_and, and_false, false_and, c3lt, c3gt, c3eq, Bool.false_eq_true, isK_wr, inA_wr, inR_wr, ks, hn, c, r0, l1, l2, l3, e]
    · rw [if_neg e, ← ih]
      simp only [e62_0, e62_1, e62_3, e62_4, e62_7, e62_10, e62_11, e62_14, e62_15, e62_16, e62_19, e62_20, e62_21, e62_24, e62_25, e62_26, e62_29, e62_32, e62_33, psh0, psh1, psh3, true_or, or_true, eq_self, Option.bind_some, List.length_nil, List.length_cons, Nat.reduceAdd, Nat.reduceLeDiff, Nat.zero_le, ↓reduceIte, Int.reduceLT, Int.reduceEq, Int.reduceLE, Int.reduceNeg, Int.reduceAdd, Int.reduceMul, Int.reduceSub, ne_eq, not_true_eq_false, not_false_eq_true, and_true, true_and, and_false, false_and, c3lt, c3gt, c3eq, Bool.false_eq_true, isK_wr, inA_wr, inR_wr, ks, hn, c, r0, l1, l2, l3, e, w]
theorem x_fC (cs : CS a s) {n : Nat} (hn : mrd a s 7 = n) (n4 : n ≤ 4) : EV d 62 0 [(2, s), (1, v), (3, 1), (3, 0)] [] a = some ((0, fd (fun l => mrd a (s + 25 + 2 * l) 1) v 0 n), a) := by
  rw [← x_fCl cs hn n4 n 0 (by omega)]
  simp only [e62_0, e62_1, psh0, psh1, psh3, true_or, or_true, eq_self, Option.bind_some, List.length_nil, List.length_cons, Nat.reduceAdd, Nat.reduceLeDiff, Nat.zero_le]
  rfl
theorem m_nIl (hm : CM b) {B F : Int} {n : Nat} (B0 : 0 ≤ B) (B4 : B ≤ 4) (F0 : 0 ≤ F) (hn : F + n ≤ 20) : ∀ m i : Nat, i + m = n → EV d 222 3 [(2, 235), (0, B), (0, F), (0, (n : Int)), (0, (i : Int))] [] b = some ((0, fd (fun k => mrd b 242 (20 * B + F + k)) (mrd b 235 19) i m), b)
  | 0, i, h => by
    have c : ¬ (i : Int) < n := by omega
    rw [fd, e222_3]
    simp only [e222_0, e222_1, e222_5, e222_6, e222_9, e222_10, e222_13, e222_15, e222_16, e222_17, e222_18, e222_19, e222_21, e222_22, e222_23, e222_24, e222_27, e222_28, e222_31, e222_33, e222_34, e222_37, e222_40, e222_41, psh0, psh1, psh3, true_or, or_true, eq_self, Option.bind_some, List.length_nil, List.length_cons, Nat.reduceAdd, Nat.reduceLeDiff, Nat.zero_le, ↓reduceIte, Int.reduceLT, Int.reduceEq, Int.reduceLE, Int.reduceNeg, Int.reduceAdd, Int.reduceMul, Int.reduceSub, ne_eq, not_true_eq_false, not_false_eq_true, and_true, true_and, and_false, false_and, c3lt, c3gt, c3eq, Bool.false_eq_true, isK_wr, inA_wr, inR_wr, c]
  | m + 1, i, h => by
    have c : (i : Int) < n := by omega
    have kM := hm.1
    have r0 : mrd b 235 22 = 242 := rf_235_22 hm.2.2
    have hA : inA b 242 19 (20 * B + F + i) := ⟨kn_242 hm.2.1, by omega, by rw [ln_242 hm.2.1]; omega⟩
    have w0 : w32 (20 * B) = 20 * B := w32_id (by omega) (by omega)
    have w1 : w32 (20 * B + F) = 20 * B + F := w32_id (by omega) (by omega)
    have w2 : w32 (20 * B + F + i) = 20 * B + F + i := w32_id (by omega) (by omega)
    have w : w32 ((i : Int) + 1) = ((i + 1 : Nat) : Int) := w32_id (by omega) (by omega)
    have ih := m_nIl hm B0 B4 F0 hn m (i + 1) (by omega)
    rw [fd, e222_3]
    by_cases e : mrd b 242 (20 * B + F + i) = mrd b 235 19
    · rw [if_pos e]
      simp only [e222_0, e222_1, e222_5, e222_6, e222_9, e222_10, e222_13, e222_15, e222_16, e222_17, e222_18, e222_19, e222_21, e222_22, e222_23, e222_24, e222_27, e222_28, e222_31, e222_33, e222_34, e222_37, e222_40, e222_41, psh0, psh1, psh3, true_or, or_true, eq_self, Option.bind_some, List.length_nil, List.length_cons, Nat.reduceAdd, Nat.reduceLeDiff, Nat.zero_le, ↓reduceIte, Int.reduceLT, Int.reduceEq, Int.reduceLE, Int.reduceNeg, Int.reduceAdd, Int.reduceMul, Int.reduceSub, ne_eq, not_true_eq_false, not_false_eq_true, and_true, true_and, and_false, false_and, c3lt, c3gt, c3eq, Bool.false_eq_true, isK_wr, inA_wr, inR_wr, kM, c, r0, hA, w0, w1, w2, e]
    · rw [if_neg e, ← ih]
      simp only [e222_0, e222_1, e222_5, e222_6, e222_9, e222_10, e222_13, e222_15, e222_16, e222_17, e222_18, e222_19, e222_21, e222_22, e222_23, e222_24, e222_27, e222_28, e222_31, e222_33, e222_34, e222_37, e222_40, e222_41, psh0, psh1, psh3, true_or, or_true, eq_self, Option.bind_some, List.length_nil, List.length_cons, Nat.reduceAdd, Nat.reduceLeDiff, Nat.zero_le, ↓reduceIte, Int.reduceLT, Int.reduceEq, Int.reduceLE, Int.reduceNeg, Int.reduceAdd, Int.reduceMul, Int.reduceSub, ne_eq, not_true_eq_false, not_false_eq_true, and_true, true_and, and_false, false_and, c3lt, c3gt, c3eq, Bool.false_eq_true, isK_wr, inA_wr, inR_wr, kM, c, r0, hA, w0, w1, w2, e, w]
theorem m_nI (hm : CM b) {B F : Int} {n : Nat} (B0 : 0 ≤ B) (B4 : B ≤ 4) (F0 : 0 ≤ F) (hn : F + n ≤ 20) : EV d 222 0 [(2, 235), (0, B), (0, F), (0, (n : Int)), (3, 0)] [] b = some ((0, fd (fun k => mrd b 242 (20 * B + F + k)) (mrd b 235 19) 0 n), b) := by
  rw [← m_nIl hm B0 B4 F0 hn n 0 (by omega)]
  simp only [e222_0, e222_1, psh0, psh1, psh3, true_or, or_true, eq_self, Option.bind_some, List.length_nil, List.length_cons, Nat.reduceAdd, Nat.reduceLeDiff, Nat.zero_le]
  rfl
theorem m_mN (hm : CM b) {B : Int} {n : Nat} (B0 : 0 ≤ B) (B4 : B ≤ 4) (e : mrd b 240 (410 * B) = n) (hn : n ≤ 4) : EV (d + 1) 223 0 [(2, 235), (0, B)] [] b = some ((0, fd (fun k => mrd b 242 (20 * B + 0 + k)) (mrd b 235 19) 0 n), b) := by
  have kM := hm.1
  have g := m_nI (d := d) hm (F := 0) B0 B4 (by decide) (n := n) (by omega)
  have w0 : w32 (410 * B) = 410 * B := w32_id (by omega) (by omega)
  have hA : inA b 240 16 (410 * B) := ⟨kn_240 hm.2.1, by omega, by rw [ln_240 hm.2.1]; omega⟩
  have r0 := mC hm
  simp only [e223_0, e223_1, e223_2, e223_3, e223_4, e223_7, e223_10, e223_11, e223_12, e223_13, e223_16, psh0, psh1, psh3, true_or, or_true, eq_self, Option.bind_some, List.length_nil, List.length_cons, Nat.reduceAdd, Nat.reduceLeDiff, Nat.zero_le, ↓reduceIte, Int.reduceLT, Int.reduceEq, Int.reduceLE, Int.reduceNeg, Int.reduceAdd, Int.reduceMul, Int.reduceSub, ne_eq, not_true_eq_false, not_false_eq_true, and_true, true_and, and_false, false_and, c3lt, c3gt, c3eq, Bool.false_eq_true, isK_wr, inA_wr, inR_wr, kM, w0, hA, r0, e, g]
theorem m_lN (hm : CM b) {B : Int} {n : Nat} (B0 : 0 ≤ B) (B4 : B ≤ 4) (e : mrd b 240 (410 * B + 1) = n) (hn : n ≤ 12) : EV (d + 1) 224 0 [(2, 235), (0, B)] [] b = some ((0, fd (fun k => mrd b 242 (20 * B + 4 + k)) (mrd b 235 19) 0 n), b) := by
  have kM := hm.1
  have g := m_nI (d := d) hm (F := 4) B0 B4 (by decide) (n := n) (by omega)
  have w0 : w32 (410 * B) = 410 * B := w32_id (by omega) (by omega)
  have w1 : w32 (410 * B + 1) = 410 * B + 1 := w32_id (by omega) (by omega)
  have hA : inA b 240 16 (410 * B + 1) := ⟨kn_240 hm.2.1, by omega, by rw [ln_240 hm.2.1]; omega⟩
  have r0 := mC hm
  simp only [e224_0, e224_1, e224_2, e224_3, e224_4, e224_7, e224_10, e224_11, e224_12, e224_13, e224_14, e224_15, e224_18, psh0, psh1, psh3, true_or, or_true, eq_self, Option.bind_some, List.length_nil, List.length_cons, Nat.reduceAdd, Nat.reduceLeDiff, Nat.zero_le, ↓reduceIte, Int.reduceLT, Int.reduceEq, Int.reduceLE, Int.reduceNeg, Int.reduceAdd, Int.reduceMul, Int.reduceSub, ne_eq, not_true_eq_false, not_false_eq_true, and_true, true_and, and_false, false_and, c3lt, c3gt, c3eq, Bool.false_eq_true, isK_wr, inA_wr, inR_wr, kM, w0, w1, hA, r0, e, g]
theorem m_cN (hm : CM b) {B : Int} {n : Nat} (B0 : 0 ≤ B) (B4 : B ≤ 4) (e : mrd b 240 (410 * B + 2) = n) (hn : n ≤ 4) : EV (d + 1) 225 0 [(2, 235), (0, B)] [] b = some ((0, fd (fun k => mrd b 242 (20 * B + 16 + k)) (mrd b 235 19) 0 n), b) := by
  have kM := hm.1
  have g := m_nI (d := d) hm (F := 16) B0 B4 (by decide) (n := n) (by omega)
  have w0 : w32 (410 * B) = 410 * B := w32_id (by omega) (by omega)
  have w1 : w32 (410 * B + 2) = 410 * B + 2 := w32_id (by omega) (by omega)
  have hA : inA b 240 16 (410 * B + 2) := ⟨kn_240 hm.2.1, by omega, by rw [ln_240 hm.2.1]; omega⟩
  have r0 := mC hm
  simp only [e225_0, e225_1, e225_2, e225_4, e225_5, e225_8, e225_11, e225_12, e225_13, e225_14, e225_15, e225_16, e225_19, psh0, psh1, psh3, true_or, or_true, eq_self, Option.bind_some, List.length_nil, List.length_cons, Nat.reduceAdd, Nat.reduceLeDiff, Nat.zero_le, ↓reduceIte, Int.reduceLT, Int.reduceEq, Int.reduceLE, Int.reduceNeg, Int.reduceAdd, Int.reduceMul, Int.reduceSub, ne_eq, not_true_eq_false, not_false_eq_true, and_true, true_and, and_false, false_and, c3lt, c3gt, c3eq, Bool.false_eq_true, isK_wr, inA_wr, inR_wr, kM, w0, w1, hA, r0, e, g]
end

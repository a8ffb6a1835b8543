/-! reach, root: all that a lesson needs -/
def bcF (x : Int) : Int :=
  let i1 := w32 (x - i_and (i_ushr x 1) 1431655765)
  let i2 := w32 (i_and i1 858993459 + i_and (i_ushr i1 2) 858993459)
  let i3 := i_and (w32 (i2 + i_ushr i2 4)) 252645135
  let i4 := w32 (i3 + i_ushr i3 8)
  let i5 := w32 (i4 + i_ushr i4 16)
  i_and i5 63
theorem bc_all : ∀ a, a < 64 → ∀ b, b < 64 → bcF ((64 * a + b : Nat) : Int) = cB ((64 * a + b : Nat) : Int) 12 := by decide +kernel
theorem bc_eq {x : Int} (h0 : 0 ≤ x) (h1 : x < 4096) : bcF x = cB x 12 := by
  obtain ⟨n, rfl⟩ := Int.eq_ofNat_of_zero_le h0
  have := bc_all (n / 64) (by omega) (n % 64) (by omega)
  rw [Nat.div_add_mod] at this
  exact this
theorem x_bitCount {d : Nat} {h : AM} {x : Int} (h0 : 0 ≤ x) (h1 : x < 4096) : EV d 327 0 [(0, x)] [] h = some ((0, cB x 12), h) := by
  rw [← bc_eq h0 h1]
  simp only [e327_0, e327_1, e327_2, e327_3, e327_4, e327_7, e327_8, e327_9, e327_10, e327_11, e327_14, e327_15, e327_16, e327_17, e327_18, e327_21, e327_22, e327_23, e327_24, e327_25, e327_26, e327_27, e327_28, e327_29, e327_32, e327_33, e327_34, e327_35, e327_36, e327_38, e327_39, e327_40, e327_41, e327_42, e327_43, e327_45, e327_46, e327_47, e327_48, e327_49, e327_51, e327_52, psh0, psh1, psh3, true_or, or_true, eq_self, Option.bind_some, List.length_nil, List.length_cons, Nat.reduceAdd, Nat.reduceLeDiff, Nat.zero_le]
  rfl
def aN (nd : Nat → Int) (x : Int) : Nat → Int
  | 0 => x
  | n + 1 => aN nd (if bI x n = true then i_or x (nd n) else x) n
theorem aN_in (nd : Nat → Int) : ∀ (n : Nat) (x : Int), in32 x → in32 (aN nd x n)
  | 0, _, hx => hx
  | n + 1, x, hx => aN_in nd n _ (by split; exact in_or _ _; exact hx)
theorem i_or_assoc (a b c : Int) : i_or (i_or a b) c = i_or a (i_or b c) := bI_ext (in_or _ _) (in_or _ _) (fun i _ => by simp only [bI_or, Bool.or_assoc])
theorem aN_one (nd : Nat → Int) {l : Nat} (hl : l < 32) : ∀ (n : Nat) (x : Int), n ≤ l → aN nd (i_or (i_shl 1 l) x) n = i_or (i_shl 1 l) (aN nd x n)
  | 0, _, _ => rfl
  | n + 1, x, hn => by
    rw [aN, aN, bI_or, bI_shl (by omega) (by omega), decide_eq_false (show ¬ (n : Int) = (l : Int) by omega), Bool.false_or]
    split
    · rw [i_or_assoc]; exact aN_one nd hl n _ (by omega)
    · exact aN_one nd hl n _ (by omega)
/-- what is needed lies below -/
theorem aN_hi {nd : Nat → Int} {l : Nat} (h1 : ∀ j, j ≤ l → ∀ i, j ≤ i → bI (nd j) i = false) : ∀ (n : Nat) (x : Int), n ≤ l → (∀ i, l ≤ i → bI x i = false) → ∀ i, l ≤ i → bI (aN nd x n) i = false
  | 0, _, _, hx => hx
  | n + 1, x, hn, hx => aN_hi h1 n _ (by omega) (fun i hi => by
    split
    · rw [bI_or, hx i hi, h1 n (by omega) i (by omega)]; rfl
    · exact hx i hi)
theorem cB_one {y : Int} {l : Nat} (hl : l < 32) (hy : bI y l = false) : ∀ n, cB (i_or (i_shl 1 l) y) n = cB y n + if l < n then 1 else 0
  | 0 => by simp [cB]
  | n + 1 => by
    rw [cB, cB, cB_one hl hy n, bI_or, bI_shl (by omega) (by omega)]
    by_cases c : l = n
    · subst c
      rw [decide_eq_true rfl, hy]
      simp
    · rw [decide_eq_false (show ¬ (n : Int) = (l : Int) by omega), Bool.false_or]
      by_cases c2 : l < n
      · rw [if_pos c2, if_pos (show l < n + 1 by omega)]; omega
      · rw [if_neg c2, if_neg (show ¬ l < n + 1 by omega)]; omega
section
variable {d : Nat} {h : AM} {s a b c k p v w x y z : Int}
theorem x_allNeeds_loop (hs : CS h s) (l : Int) : ∀ (n : Nat) (x : Int), n ≤ 12 → EV d 79 14 [(2, s), (0, l), (0, x), (0, (n : Int) - 1)] [] h = some ((0, aN (fun j => mrd h (s + 13 + j) 6) x n), h) := by
  obtain ⟨ks, -, r1, r2, r3, r4, -, -, k7, k8, k9, kl, kc⟩ := hs
  intro n
  induction n with
  | zero =>
    intro x _
    rw [e79_14]
    simp only [e79_0, e79_1, e79_4, e79_5, e79_6, e79_9, e79_10, e79_11, e79_12, e79_13, e79_15, e79_18, e79_19, e79_20, e79_21, e79_22, e79_23, e79_26, e79_27, e79_28, e79_31, e79_32, e79_33, e79_36, e79_37, e79_38, e79_41, e79_44, e79_45, psh0, psh1, psh3, true_or, or_true, eq_self, Option.bind_some, List.length_nil, List.length_cons, Nat.reduceAdd, Nat.reduceLeDiff, Nat.zero_le, ↓reduceIte, Int.reduceLT, Int.reduceEq, Int.reduceLE, Int.reduceNeg, Int.reduceAdd, Int.reduceMul, Int.reduceSub, ne_eq, not_true_eq_false, not_false_eq_true, and_true, true_and, and_false, false_and, c3lt, c3gt, c3eq, Bool.false_eq_true, isK_wr, inA_wr, inR_wr, Int.natCast_zero, Int.zero_sub, aN]
  | succ n ih =>
    intro x hn
    obtain ⟨t1, t2, t3⟩ := kl n (by omega) (by omega)
    have e0 : ((n + 1 : Nat) : Int) - 1 = n := by omega
    have c0 : ¬ (n : Int) < 0 := by omega
    have w1 : w32 ((n : Int) + (-1)) = (n : Int) - 1 := w32_id (by omega) (by omega)
    rw [e79_14, e0, aN]
    by_cases hb : bI x n = true
    · have e : ¬ i_and x (i_shl 1 n) = 0 := fun z => by
        have := (and1_0 (by omega) (by omega)).mp z
        rw [Int.toNat_natCast, hb] at this
        cases this
      rw [if_pos hb]
      simp only [e79_0, e79_1, e79_4, e79_5, e79_6, e79_9, e79_10, e79_11, e79_12, e79_13, e79_15, e79_18, e79_19, e79_20, e79_21, e79_22, e79_23, e79_26, e79_27, e79_28, e79_31, e79_32, e79_33, e79_36, e79_37, e79_38, e79_41, e79_44, e79_45, psh0, psh1, psh3, true_or, or_true, eq_self, Option.bind_some, List.length_nil, List.length_cons, Nat.reduceAdd, Nat.reduceLeDiff, Nat.zero_le, ↓reduceIte, Int.reduceLT, Int.reduceEq, Int.reduceLE, Int.reduceNeg, Int.reduceAdd, Int.reduceMul, Int.reduceSub, ne_eq, not_true_eq_false, not_false_eq_true, and_true, true_and, and_false, false_and, c3lt, c3gt, c3eq, Bool.false_eq_true, isK_wr, inA_wr, inR_wr, c0, ks, r1, t1, t2, t3, e, w1]
      exact ih _ (by omega)
    · have e : i_and x (i_shl 1 n) = 0 := (and1_0 (by omega) (by omega)).mpr (by rw [Int.toNat_natCast]; simpa using hb)
      rw [if_neg hb]
      simp only [e79_0, e79_1, e79_4, e79_5, e79_6, e79_9, e79_10, e79_11, e79_12, e79_13, e79_15, e79_18, e79_19, e79_20, e79_21, e79_22, e79_23, e79_26, e79_27, e79_28, e79_31, e79_32, e79_33, e79_36, e79_37, e79_38, e79_41, e79_44, e79_45, psh0, psh1, psh3, true_or, or_true, eq_self, Option.bind_some, List.length_nil, List.length_cons, Nat.reduceAdd, Nat.reduceLeDiff, Nat.zero_le, ↓reduceIte, Int.reduceLT, Int.reduceEq, Int.reduceLE, Int.reduceNeg, Int.reduceAdd, Int.reduceMul, Int.reduceSub, ne_eq, not_true_eq_false, not_false_eq_true, and_true, true_and, and_false, false_and, c3lt, c3gt, c3eq, Bool.false_eq_true, isK_wr, inA_wr, inR_wr, c0, ks, r1, t1, t2, t3, e, w1]
      exact ih _ (by omega)
theorem x_allNeeds (hs : CS h s) (l : Nat) (hl : l < 12) : EV d 79 0 [(2, s), (0, (l : Int)), (3, 0), (3, 0)] [] h = some ((0, aN (fun j => mrd h (s + 13 + j) 6) (mrd h (s + 13 + l) 6) l), h) := by
  obtain ⟨t1, t2, t3⟩ := hs.2.2.2.2.2.2.2.2.2.2.2.1 l (by omega) (by omega)
  have w1 : w32 ((l : Int) - 1) = (l : Int) - 1 := w32_id (by omega) (by omega)
  simp only [e79_0, e79_1, e79_4, e79_5, e79_6, e79_9, e79_10, e79_11, e79_12, e79_13, e79_15, e79_18, e79_19, e79_20, e79_21, e79_22, e79_23, e79_26, e79_27, e79_28, e79_31, e79_32, e79_33, e79_36, e79_37, e79_38, e79_41, e79_44, e79_45, psh0, psh1, psh3, true_or, or_true, eq_self, Option.bind_some, List.length_nil, List.length_cons, Nat.reduceAdd, Nat.reduceLeDiff, Nat.zero_le, ↓reduceIte, Int.reduceLT, Int.reduceEq, Int.reduceLE, Int.reduceNeg, Int.reduceAdd, Int.reduceMul, Int.reduceSub, ne_eq, not_true_eq_false, not_false_eq_true, and_true, true_and, and_false, false_and, c3lt, c3gt, c3eq, Bool.false_eq_true, isK_wr, inA_wr, inR_wr, hs.1, hs.2.2.1, t1, t2, t3, w1]
  exact x_allNeeds_loop hs l l _ (by omega)
theorem m_needsOf_loop (hm : CM h) (l : Int) : ∀ (n : Nat) (x : Int), in32 x → n ≤ 12 → EV (d + 1) 303 6 [(2, 235), (0, l), (0, x), (0, (n : Int) - 1)] [] h = some ((0, aN (fun j => mrd h 240 (52 + j)) x n), h) := by
  intro n
  induction n with
  | zero =>
    intro x _ _
    rw [e303_6]
    simp only [e303_0, e303_1, e303_2, e303_3, e303_4, e303_5, e303_7, e303_10, e303_11, e303_12, e303_13, e303_16, e303_19, e303_20, e303_23, e303_25, e303_26, e303_27, e303_28, e303_31, e303_32, e303_33, e303_34, e303_37, e303_40, e303_41, psh0, psh1, psh3, true_or, or_true, eq_self, Option.bind_some, List.length_nil, List.length_cons, Nat.reduceAdd, Nat.reduceLeDiff, Nat.zero_le, ↓reduceIte, Int.reduceLT, Int.reduceEq, Int.reduceLE, Int.reduceNeg, Int.reduceAdd, Int.reduceMul, Int.reduceSub, ne_eq, not_true_eq_false, not_false_eq_true, and_true, true_and, and_false, false_and, c3lt, c3gt, c3eq, Bool.false_eq_true, isK_wr, inA_wr, inR_wr, Int.natCast_zero, Int.zero_sub, aN]
  | succ n ih =>
    intro x hx hn
    have e0 : ((n + 1 : Nat) : Int) - 1 = n := by omega
    have c0 : ¬ (n : Int) < 0 := by omega
    have w1 : w32 ((n : Int) + (-1)) = (n : Int) - 1 := w32_id (by omega) (by omega)
    have w2 : w32 (52 + (n : Int)) = 52 + n := w32_id (by omega) (by omega)
    have hh : EV d 188 0 [(0, x), (0, (n : Int))] [] h = some ((0, if bI x n = true then 1 else 0), h) := m_has (by omega) (by omega)
    rw [e303_6, e0, aN]
    by_cases hb : bI x n = true
    · rw [if_pos hb] at hh ⊢
      simp only [e303_0, e303_1, e303_2, e303_3, e303_4, e303_5, e303_7, e303_10, e303_11, e303_12, e303_13, e303_16, e303_19, e303_20, e303_23, e303_25, e303_26, e303_27, e303_28, e303_31, e303_32, e303_33, e303_34, e303_37, e303_40, e303_41, psh0, psh1, psh3, true_or, or_true, eq_self, Option.bind_some, List.length_nil, List.length_cons, Nat.reduceAdd, Nat.reduceLeDiff, Nat.zero_le, ↓reduceIte, Int.reduceLT, Int.reduceEq, Int.reduceLE, Int.reduceNeg, Int.reduceAdd, Int.reduceMul, Int.reduceSub, ne_eq, not_true_eq_false, not_false_eq_true, and_true, true_and, and_false, false_and, c3lt, c3gt, c3eq, Bool.false_eq_true, isK_wr, inA_wr, inR_wr, c0, hm.1, mC hm, hh, w2, inC hm (j := 52 + (n : Int)) (by omega) (by omega), w1]
      exact ih _ (in_or _ _) (by omega)
    · rw [if_neg hb] at hh ⊢
      simp only [e303_0, e303_1, e303_2, e303_3, e303_4, e303_5, e303_7, e303_10, e303_11, e303_12, e303_13, e303_16, e303_19, e303_20, e303_23, e303_25, e303_26, e303_27, e303_28, e303_31, e303_32, e303_33, e303_34, e303_37, e303_40, e303_41, psh0, psh1, psh3, true_or, or_true, eq_self, Option.bind_some, List.length_nil, List.length_cons, Nat.reduceAdd, Nat.reduceLeDiff, Nat.zero_le, ↓reduceIte, Int.reduceLT, Int.reduceEq, Int.reduceLE, Int.reduceNeg, Int.reduceAdd, Int.reduceMul, Int.reduceSub, ne_eq, not_true_eq_false, not_false_eq_true, and_true, true_and, and_false, false_and, c3lt, c3gt, c3eq, Bool.false_eq_true, isK_wr, inA_wr, inR_wr, c0, hh, w1, i_or_0 hx]
      exact ih _ hx (by omega)
theorem m_needsOf (hm : CM h) (l : Nat) (hl : l < 12) : EV (d + 1) 303 0 [(2, 235), (0, (l : Int)), (3, 0), (3, 0)] [] h = some ((0, aN (fun j => mrd h 240 (52 + j)) (i_shl 1 l) (l + 1)), h) := by
  simp only [e303_0, e303_1, e303_2, e303_3, e303_4, e303_5, e303_7, e303_10, e303_11, e303_12, e303_13, e303_16, e303_19, e303_20, e303_23, e303_25, e303_26, e303_27, e303_28, e303_31, e303_32, e303_33, e303_34, e303_37, e303_40, e303_41, psh0, psh1, psh3, true_or, or_true, eq_self, Option.bind_some, List.length_nil, List.length_cons, Nat.reduceAdd, Nat.reduceLeDiff, Nat.zero_le, ↓reduceIte, Int.reduceLT, Int.reduceEq, Int.reduceLE, Int.reduceNeg, Int.reduceAdd, Int.reduceMul, Int.reduceSub, ne_eq, not_true_eq_false, not_false_eq_true, and_true, true_and, and_false, false_and, c3lt, c3gt, c3eq, Bool.false_eq_true, isK_wr, inA_wr, inR_wr]
  have := m_needsOf_loop (d := d) hm l (l + 1) (i_shl 1 l) (in_shl _ _) (by omega)
  rw [show ((l + 1 : Nat) : Int) - 1 = l by omega] at this
  exact this
/-- the two sides' sets of needs -/
theorem needs_both (nd : Nat → Int) {l : Nat} (hl : l < 32) : aN nd (i_shl 1 l) (l + 1) = i_or (i_shl 1 l) (aN nd (nd l) l) := by
  rw [aN, bI_shl (by omega) (by omega), decide_eq_true rfl, if_pos rfl, aN_one nd hl l _ (Nat.le_refl _)]
end
theorem aN_congr {f g : Nat → Int} : ∀ (n : Nat) (x : Int), (∀ i, i < n → f i = g i) → aN f x n = aN g x n
  | 0, _, _ => rfl
  | n + 1, x, h => by rw [aN, aN, h n (by omega)]; exact aN_congr n _ (fun i hi => h i (by omega))
/-- both schools' needs, as bits -/
theorem nd_hi {h : AM} {s : Int} (ds : DS h s) {j : Nat} (hj : (j : Int) < mrd h 240 1) {i : Nat} (hi : j ≤ i) : bI (mrd h 240 (52 + j)) i = false := by
  obtain ⟨d5, d6, d7, d8, dl, dc⟩ := ds
  obtain ⟨q1, q2, q3, q4, q5, q6, q7, q8⟩ := dl j (by omega) hj
  rw [Int.toNat_natCast] at q8
  exact bI_hi q7 q8 (by omega) hi
theorem aN_x {h : AM} {s : Int} (ds : DS h s) {l : Nat} (hl : (l : Int) < mrd h 240 1) : aN (fun j => mrd h (s + 13 + j) 6) (mrd h (s + 13 + l) 6) l = aN (fun j => mrd h 240 (52 + j)) (mrd h 240 (52 + l)) l := by
  obtain ⟨d5, d6, d7, d8, dl, dc⟩ := ds
  rw [(dl l (by omega) hl).2.2.2.2.2.1]
  exact aN_congr l _ (fun i hi => (dl i (by omega) (by omega)).2.2.2.2.2.1)
theorem aN_b {h : AM} {s : Int} (ds : DS h s) {l i : Nat} (hl : (l : Int) < mrd h 240 1) (hi : l ≤ i) : bI (aN (fun j => mrd h 240 (52 + j)) (mrd h 240 (52 + l)) l) i = false :=
  aN_hi (l := l) (fun j hj i hi => nd_hi ds (by omega) hi) l _ (Nat.le_refl _) (fun i hi => nd_hi ds hl hi) i hi
theorem nd_in {h : AM} {s : Int} (ds : DS h s) {l : Nat} (hl : (l : Int) < mrd h 240 1) : in32 (mrd h 240 (52 + l)) := by
  obtain ⟨d5, d6, d7, d8, dl, dc⟩ := ds
  obtain ⟨q1, q2, q3, q4, q5, q6, q7, q8⟩ := dl l (by omega) hl
  rw [Int.toNat_natCast] at q8
  have : (2 : Int) ^ l ≤ 2 ^ 12 := by
    have : (2 : Nat) ^ l ≤ 2 ^ 12 := Nat.pow_le_pow_right (by decide) (by omega)
    have e : ((2 ^ l : Nat) : Int) = (2 : Int) ^ l := by push_cast; rfl
    rw [← e]
    omega
  constructor <;> omega
theorem op_reach : Op_reach Inv := by
  intro d h a0 hI i0
  obtain ⟨s, e8, hs, k0, kM, cs, ds⟩ := ctx hI
  have ds' := ds
  have ks := cs.1
  have r1 := cs.2.2.1
  have r2 := cs.2.2.2.1
  have r3 := cs.2.2.2.2.1
  have kl := cs.2.2.2.2.2.2.2.2.2.2.2.1
  have kc := cs.2.2.2.2.2.2.2.2.2.2.2.2
  obtain ⟨d5, d6, d7, d8, dl, dc⟩ := ds
  have hm : ∀ v, CM (mwr (mwr (mwr h 0 11 v) 235 1 0) 235 0 0) := fun v => CM_q (CM_of hI)
  have hx := x_hasLesson_q (d := d + 59) (k := a0) ks d6.1
  have hl := fun v => m_isLessonAt_q (d := d + 58) (k := a0) hI v
  by_cases hc : 0 ≤ a0 ∧ a0 < mrd h 240 1
  · obtain ⟨l, rfl⟩ := Int.eq_ofNat_of_zero_le hc.1
    simp only [hc, and_self, if_true] at hl hx
    have g1 := x_allNeeds (d := d + 59) cs l (by omega)
    rw [aN_x ds' hc.2] at g1
    have g2 : ∀ v, EV (d + 59) 303 0 [(2, 235), (0, (l : Int)), (3, 0), (3, 0)] [] (mwr (mwr (mwr h 0 11 v) 235 1 0) 235 0 0) = _ := fun v => m_needsOf (d := d + 58) (hm v) l (by omega)
    simp only [rdq, ↓reduceIte, Int.reduceLT, Int.reduceEq, Int.reduceLE, Int.reduceNeg, Int.reduceAdd, Int.reduceMul, Int.reduceSub, ne_eq, not_true_eq_false, not_false_eq_true, and_true, true_and, and_false, false_and, c3lt, c3gt, c3eq, Bool.false_eq_true, isK_wr, inA_wr, inR_wr, needs_both _ (show l < 32 by omega)] at g2
    have hb := aN_b ds' hc.2 (Nat.le_refl l)
    have hr := bI_rng (n := 12) (aN_in (fun j : Nat => mrd h 240 (52 + (j : Int))) l _ (nd_in ds' hc.2)) (by omega) (fun i h0 h1 => aN_b ds' hc.2 (by omega))
    generalize aN (fun j : Nat => mrd h 240 (52 + (j : Int))) (mrd h 240 (52 + (l : Int))) l = y at g1 g2 hb hr
    have hcb := cB_rng y 12
    have w1 : w32 (cB y 12 + 1) = cB y 12 + 1 := w32_id (by omega) (by omega)
    have e1 : cB (i_or (i_shl 1 l) y) 12 = cB y 12 + 1 := by rw [cB_one (by omega) hb, if_pos (by omega)]
    have g3 := x_bitCount (d := d + 59) (h := h) hr.1 hr.2
    refine opq hI (cB y 12 + 1) 0 ?_ ?_
    · simp only [e147_0, e147_1, e147_4, e147_5, e147_6, e147_9, e147_12, e147_13, e147_14, e147_17, e147_18, e147_19, e147_20, e147_23, e147_24, e147_27, e147_30, e147_31, e147_32, e147_35, psh0, psh1, psh3, true_or, or_true, eq_self, Option.bind_some, List.length_nil, List.length_cons, Nat.reduceAdd, Nat.reduceLeDiff, Nat.zero_le, ↓reduceIte, Int.reduceLT, Int.reduceEq, Int.reduceLE, Int.reduceNeg, Int.reduceAdd, Int.reduceMul, Int.reduceSub, ne_eq, not_true_eq_false, not_false_eq_true, and_true, true_and, and_false, false_and, c3lt, c3gt, c3eq, Bool.false_eq_true, isK_wr, inA_wr, inR_wr, k0, e8, ks, hx, g1, g3, w1, x_answer]
    · simp only [e304_0, e304_1, e304_2, e304_5, e304_6, e304_7, e304_10, e304_11, e304_12, e304_15, e304_18, e304_19, e304_20, e304_23, e304_26, e304_29, e304_30, e304_31, e304_34, psh0, psh1, psh3, true_or, or_true, eq_self, Option.bind_some, List.length_nil, List.length_cons, Nat.reduceAdd, Nat.reduceLeDiff, Nat.zero_le, ↓reduceIte, Int.reduceLT, Int.reduceEq, Int.reduceLE, Int.reduceNeg, Int.reduceAdd, Int.reduceMul, Int.reduceSub, ne_eq, not_true_eq_false, not_false_eq_true, and_true, true_and, and_false, false_and, c3lt, c3gt, c3eq, Bool.false_eq_true, isK_wr, inA_wr, inR_wr, kM, hl, g2, m_sizeOf, e1]
  · simp only [hc, if_false] at hl hx
    refine opq hI (-1) 2 ?_ ?_
    · simp only [e147_0, e147_1, e147_4, e147_5, e147_6, e147_9, e147_12, e147_13, e147_14, e147_17, e147_18, e147_19, e147_20, e147_23, e147_24, e147_27, e147_30, e147_31, e147_32, e147_35, psh0, psh1, psh3, true_or, or_true, eq_self, Option.bind_some, List.length_nil, List.length_cons, Nat.reduceAdd, Nat.reduceLeDiff, Nat.zero_le, ↓reduceIte, Int.reduceLT, Int.reduceEq, Int.reduceLE, Int.reduceNeg, Int.reduceAdd, Int.reduceMul, Int.reduceSub, ne_eq, not_true_eq_false, not_false_eq_true, and_true, true_and, and_false, false_and, c3lt, c3gt, c3eq, Bool.false_eq_true, isK_wr, inA_wr, inR_wr, k0, e8, ks, hx, x_refuse]
    · simp only [e304_0, e304_1, e304_2, e304_5, e304_6, e304_7, e304_10, e304_11, e304_12, e304_15, e304_18, e304_19, e304_20, e304_23, e304_26, e304_29, e304_30, e304_31, e304_34, psh0, psh1, psh3, true_or, or_true, eq_self, Option.bind_some, List.length_nil, List.length_cons, Nat.reduceAdd, Nat.reduceLeDiff, Nat.zero_le, ↓reduceIte, Int.reduceLT, Int.reduceEq, Int.reduceLE, Int.reduceNeg, Int.reduceAdd, Int.reduceMul, Int.reduceSub, ne_eq, not_true_eq_false, not_false_eq_true, and_true, true_and, and_false, false_and, c3lt, c3gt, c3eq, Bool.false_eq_true, isK_wr, inA_wr, inR_wr, kM, hl, m_refuse, wrwr]

/-! the two readers begin -/
def AS_ (a a' : AM) : Prop := a'.2 = a.2 ∧ ∀ x i, ¬ (x = 110 ∧ 3 ≤ i ∧ i ≤ 10) → mrd a' x i = mrd a x i
def NS_ (b b' : AM) : Prop := b'.2 = b.2 ∧ ∀ x i, ¬ (x = 235 ∧ (i = 8 ∨ i = 9 ∨ (12 ≤ i ∧ i ≤ 19))) → mrd b' x i = mrd b x i
section
variable {d d' N : Nat} {a a' b b' : AM}
theorem x_rbeg {n : Int} (kk : isK a 110 5) (g : EV d 35 0 [(2, 110)] [] (mwr (mwr (mwr (mwr a 110 3 n) 110 4 0) 110 9 0) 110 10 (-1)) = some ((3, 0), a')) : EV (d + 1) 34 0 [(2, 110), (0, n)] [] a = some ((3, 0), a') := by
  simp only [e34_0, e34_1, e34_2, e34_5, e34_6, e34_7, e34_10, e34_11, e34_12, e34_15, e34_16, e34_17, e34_20, e34_21, e34_24, psh0, psh1, psh3, true_or, or_true, eq_self, Option.bind_some, List.length_nil, List.length_cons, Nat.reduceAdd, Nat.reduceLeDiff, Nat.zero_le, ↓reduceIte, Int.reduceLT, Int.reduceEq, Int.reduceLE, Int.reduceNeg, Int.reduceAdd, Int.reduceMul, Int.reduceSub, ne_eq, not_true_eq_false, not_false_eq_true, and_true, true_and, and_false, false_and, c3lt, c3gt, c3eq, Bool.false_eq_true, isK_wr, inA_wr, inR_wr, kk, g]
theorem m_st1 {n m : Int} (kM : isK b 235 11) (n0 : ¬ n < 0) (n1 : ¬ mrd b 235 8 < n) (n2 : ¬ m < n) (g : EV d 193 0 [(2, 235), (3, 0)] [] (mwr (mwr (mwr (mwr b 235 9 n) 235 8 0) 235 16 0) 235 12 0) = some ((3, 0), b')) : EV (d + 1) 219 0 [(2, 235), (0, n), (0, m)] [] b = some ((0, 1), b') := by
  simp only [e219_0, e219_1, e219_4, e219_5, e219_6, e219_9, e219_12, e219_13, e219_14, e219_17, e219_18, e219_19, e219_22, e219_23, e219_24, e219_25, e219_28, e219_29, e219_30, e219_33, e219_34, e219_35, e219_38, e219_39, e219_40, e219_43, e219_44, e219_47, e219_48, psh0, psh1, psh3, true_or, or_true, eq_self, Option.bind_some, List.length_nil, List.length_cons, Nat.reduceAdd, Nat.reduceLeDiff, Nat.zero_le, ↓reduceIte, Int.reduceLT, Int.reduceEq, Int.reduceLE, Int.reduceNeg, Int.reduceAdd, Int.reduceMul, Int.reduceSub, ne_eq, not_true_eq_false, not_false_eq_true, and_true, true_and, and_false, false_and, c3lt, c3gt, c3eq, Bool.false_eq_true, isK_wr, inA_wr, inR_wr, kM, n0, n1, n2, g]
theorem m_st0 {n m : Int} (kM : isK b 235 11) (h : n < 0 ∨ mrd b 235 8 < n ∨ m < n) : EV (d + 1) 219 0 [(2, 235), (0, n), (0, m)] [] b = some ((0, 0), mwr b 235 0 5) := by
  have g : EV d 176 0 [(2, 235), (0, 5)] [] b = some ((0, 0), mwr b 235 0 5) := by
    simp only [e176_0, e176_1, e176_2, e176_5, e176_6, psh0, psh1, psh3, true_or, or_true, eq_self, Option.bind_some, List.length_nil, List.length_cons, Nat.reduceAdd, Nat.reduceLeDiff, Nat.zero_le, ↓reduceIte, Int.reduceLT, Int.reduceEq, Int.reduceLE, Int.reduceNeg, Int.reduceAdd, Int.reduceMul, Int.reduceSub, ne_eq, not_true_eq_false, not_false_eq_true, and_true, true_and, and_false, false_and, c3lt, c3gt, c3eq, Bool.false_eq_true, isK_wr, inA_wr, inR_wr, kM]
  by_cases c1 : n < 0
  · simp only [e219_0, e219_1, e219_4, e219_5, e219_6, e219_9, e219_12, e219_13, e219_14, e219_17, e219_18, e219_19, e219_22, e219_23, e219_24, e219_25, e219_28, e219_29, e219_30, e219_33, e219_34, e219_35, e219_38, e219_39, e219_40, e219_43, e219_44, e219_47, e219_48, psh0, psh1, psh3, true_or, or_true, eq_self, Option.bind_some, List.length_nil, List.length_cons, Nat.reduceAdd, Nat.reduceLeDiff, Nat.zero_le, ↓reduceIte, Int.reduceLT, Int.reduceEq, Int.reduceLE, Int.reduceNeg, Int.reduceAdd, Int.reduceMul, Int.reduceSub, ne_eq, not_true_eq_false, not_false_eq_true, and_true, true_and, and_false, false_and, c3lt, c3gt, c3eq, Bool.false_eq_true, isK_wr, inA_wr, inR_wr, kM, c1, g]
  · by_cases c2 : mrd b 235 8 < n
    · simp only [e219_0, e219_1, e219_4, e219_5, e219_6, e219_9, e219_12, e219_13, e219_14, e219_17, e219_18, e219_19, e219_22, e219_23, e219_24, e219_25, e219_28, e219_29, e219_30, e219_33, e219_34, e219_35, e219_38, e219_39, e219_40, e219_43, e219_44, e219_47, e219_48, psh0, psh1, psh3, true_or, or_true, eq_self, Option.bind_some, List.length_nil, List.length_cons, Nat.reduceAdd, Nat.reduceLeDiff, Nat.zero_le, ↓reduceIte, Int.reduceLT, Int.reduceEq, Int.reduceLE, Int.reduceNeg, Int.reduceAdd, Int.reduceMul, Int.reduceSub, ne_eq, not_true_eq_false, not_false_eq_true, and_true, true_and, and_false, false_and, c3lt, c3gt, c3eq, Bool.false_eq_true, isK_wr, inA_wr, inR_wr, kM, c1, c2, g]
    · have c3 : m < n := by omega
      simp only [e219_0, e219_1, e219_4, e219_5, e219_6, e219_9, e219_12, e219_13, e219_14, e219_17, e219_18, e219_19, e219_22, e219_23, e219_24, e219_25, e219_28, e219_29, e219_30, e219_33, e219_34, e219_35, e219_38, e219_39, e219_40, e219_43, e219_44, e219_47, e219_48, psh0, psh1, psh3, true_or, or_true, eq_self, Option.bind_some, List.length_nil, List.length_cons, Nat.reduceAdd, Nat.reduceLeDiff, Nat.zero_le, ↓reduceIte, Int.reduceLT, Int.reduceEq, Int.reduceLE, Int.reduceNeg, Int.reduceAdd, Int.reduceMul, Int.reduceSub, ne_eq, not_true_eq_false, not_false_eq_true, and_true, true_and, and_false, false_and, c3lt, c3gt, c3eq, Bool.false_eq_true, isK_wr, inA_wr, inR_wr, kM, c1, c2, c3, g]
theorem st_both {m : Int} (sh : Shp a) (rr : RRef a.1) (hm : CM b) (hN : N ≤ 900) (hf : (N : Int) ≤ mrd b 235 8) (h2 : (N : Int) ≤ m) (hB : ∀ i : Int, 0 ≤ i → i < N → -128 ≤ mrd b 239 i ∧ mrd b 239 i ≤ 127) (hT : ∀ i : Int, 0 ≤ i → i < N → mrd a 111 i = mrd b 239 i) : ∃ a' b', EV (d + 2) 34 0 [(2, 110), (0, (N : Int))] [] a = some ((3, 0), a') ∧ EV (d' + 2) 219 0 [(2, 235), (0, (N : Int)), (0, m)] [] b = some ((0, 1), b') ∧ AS_ a a' ∧ NS_ b b' ∧ mrd b' 235 8 = 0 ∧ QQ N a' b' ∧ mrd a' 110 9 = 0 := by
  obtain ⟨a0, ha0⟩ : ∃ a0, a0 = mwr (mwr (mwr (mwr a 110 3 N) 110 4 0) 110 9 0) 110 10 (-1) := ⟨_, rfl⟩
  obtain ⟨b0, hb0⟩ : ∃ b0, b0 = mwr (mwr (mwr (mwr b 235 9 N) 235 8 0) 235 16 0) 235 12 0 := ⟨_, rfl⟩
  have fa : AS_ a a0 := by
    rw [ha0]
    refine ⟨rfl, fun x i h => ?_⟩
    rw [rd_wr, if_neg (by omega), rd_wr, if_neg (by omega), rd_wr, if_neg (by omega), rd_wr, if_neg (by omega)]
  have fb : NS_ b b0 := by
    rw [hb0]
    refine ⟨rfl, fun x i h => ?_⟩
    rw [rd_wr, if_neg (by omega), rd_wr, if_neg (by omega), rd_wr, if_neg (by omega), rd_wr, if_neg (by omega)]
  have qa : RDX a0 N := by
    refine ⟨Shp_2 fa.1 sh, fun q hq => ?_, ?_, hN⟩
    · have hd : ∀ q ∈ refT, ¬ (q.1 = 110 ∧ 3 ≤ q.2.1) := by decide +kernel
      have := hd q hq
      rw [← rr q hq]
      exact fa.2 _ _ (by omega)
    · rw [ha0, rdn2 (by decide), rdn2 (by decide), rdn2 (by decide), rde]
  have qb : RDM b0 N := by
    have s0 := Shp_2 fb.1 hm.2.1
    refine ⟨⟨kn_235 s0, s0, fun q hq => ?_⟩, ?_, hN, fun j j0 j1 => ?_⟩
    · have hd : ∀ q ∈ refT, ¬ (q.1 = 235 ∧ 8 ≤ q.2.1 ∧ q.2.1 ≤ 19) := by decide +kernel
      have := hd q hq
      rw [← hm.2.2 q hq]
      exact fb.2 _ _ (by omega)
    · rw [hb0, rdn2 (by decide), rdn2 (by decide), rdn2 (by decide), rde]
    · rw [fb.2 _ _ (by omega)]; exact hB j j0 j1
  have hT0 : ∀ i : Int, 0 ≤ i → i < N → mrd a0 111 i = mrd b0 239 i := fun i i0 i1 => by
    rw [fa.2 _ _ (by omega), fb.2 _ _ (by omega)]; exact hT i i0 i1
  have p0 : mrd a0 110 4 = 0 := by rw [ha0, rdn2 (by decide), rdn2 (by decide), rde]
  have p1 : mrd b0 235 16 = 0 := by rw [hb0, rdn2 (by decide), rde]
  have p9 : mrd a0 110 9 = 0 := by rw [ha0, rdn2 (by decide), rde]
  have p12 : mrd b0 235 12 = 0 := by rw [hb0, rde]
  have p8 : mrd b0 235 8 = 0 := by rw [hb0, rdn2 (by decide), rdn2 (by decide), rde]
  obtain ⟨a', b', x1, x2, x3, x4, x5, x6⟩ := adv_both (d := d) (d' := d') qa qb hT0 p0 p1 (by decide) (by omega)
  have e9 : mrd a' 110 9 = 0 := by rw [x3.2 _ _ (by omega)]; exact p9
  have e12 : mrd b' 235 12 = 0 := by rw [x4.2 _ _ (by omega)]; exact p12
  refine ⟨a', b', x_rbeg (kn_110 sh) (by rw [← ha0]; exact x1), m_st1 hm.1 (by omega) (by omega) (by omega) (by rw [← hb0]; exact x2), ⟨x3.1.trans fa.1, fun x i h => ?_⟩, ⟨x4.1.trans fb.1, fun x i h => ?_⟩, ?_, ⟨qa.ax x3.x, qb.nx x4.x, fun i i0 i1 => ?_, by omega, by omega, fun _ => x5, fun z => absurd e9 z⟩, e9⟩
  · rw [x3.2 x i (by omega)]; exact fa.2 x i h
  · rw [x4.2 x i (by omega)]; exact fb.2 x i h
  · rw [x4.2 _ _ (by omega)]; exact p8
  · rw [x3.2 _ _ (by omega), x4.2 _ _ (by omega)]; exact hT0 i i0 i1
end

/-! the two readers in step -/
def AX (a a' : AM) : Prop := a'.2 = a.2 ∧ ∀ x i, ¬ (x = 110 ∧ 4 ≤ i ∧ i ≤ 10) → mrd a' x i = mrd a x i
def NX (b b' : AM) : Prop := b'.2 = b.2 ∧ ∀ x i, ¬ (x = 235 ∧ 12 ≤ i ∧ i ≤ 19) → mrd b' x i = mrd b x i
section
variable {a a' a1 b b' b1 : AM} {N d d' : Nat}
theorem AX.rf : AX a a := ⟨rfl, fun _ _ _ => rfl⟩
theorem NX.rf : NX b b := ⟨rfl, fun _ _ _ => rfl⟩
theorem AX.tr (h : AX a a1) (h2 : AX a1 a') : AX a a' := ⟨h2.1.trans h.1, fun x i hx => (h2.2 x i hx).trans (h.2 x i hx)⟩
theorem NX.tr (h : NX b b1) (h2 : NX b1 b') : NX b b' := ⟨h2.1.trans h.1, fun x i hx => (h2.2 x i hx).trans (h.2 x i hx)⟩
theorem AX.wr {i v : Int} (h : AX a a') (h0 : 4 ≤ i) (h1 : i ≤ 10) : AX a (mwr a' 110 i v) := ⟨h.1, fun x j hx => by rw [rd_wr, if_neg (by omega)]; exact h.2 x j hx⟩
theorem NX.wr {i v : Int} (h : NX b b') (h0 : 12 ≤ i) (h1 : i ≤ 19) : NX b (mwr b' 235 i v) := ⟨h.1, fun x j hx => by rw [rd_wr, if_neg (by omega)]; exact h.2 x j hx⟩
theorem AF.x (h : AF a a') : AX a a' := ⟨h.1, fun x i hx => h.2 x i (by omega)⟩
theorem NF.x (h : NF b b') : NX b b' := ⟨h.1, fun x i hx => h.2 x i (by omega)⟩
theorem Shp_2 (h2 : a'.2 = a.2) (h : Shp a) : Shp a' := by
  unfold Shp mnx at h ⊢
  rw [h2]; exact h
theorem RDX.ax (h : RDX a N) (hA : AX a a') : RDX a' N := by
  refine ⟨Shp_2 hA.1 h.1, fun q hq => ?_, by rw [hA.2 _ _ (by omega)]; exact h.2.2.1, h.2.2.2⟩
  have hd : ∀ q ∈ refT, ¬ (q.1 = 110 ∧ 4 ≤ q.2.1) := by decide +kernel
  have := hd q hq
  rw [← h.2.1 q hq]
  exact hA.2 _ _ (by omega)
theorem RDM.nx (h : RDM b N) (hA : NX b b') : RDM b' N := by
  have sh := Shp_2 hA.1 h.1.2.1
  refine ⟨⟨kn_235 sh, sh, fun q hq => ?_⟩, by rw [hA.2 _ _ (by omega)]; exact h.2.1, h.2.2.1, fun j j0 j1 => by rw [hA.2 _ _ (by omega)]; exact h.2.2.2 j j0 j1⟩
  have hd : ∀ q ∈ refT, ¬ (q.1 = 235 ∧ 10 ≤ q.2.1 ∧ q.2.1 ≤ 19) := by decide +kernel
  have := hd q hq
  rw [← h.1.2.2 q hq]
  exact hA.2 _ _ (by omega)
/-- both readers stand alike, or both have the same fault -/
def QQ (N : Nat) (a b : AM) : Prop := RDX a N ∧ RDM b N ∧ (∀ i : Int, 0 ≤ i → i < N → mrd a 111 i = mrd b 239 i) ∧ mrd b 235 12 = mrd a 110 9 ∧ 0 ≤ mrd a 110 9 ∧ (mrd a 110 9 = 0 → TG N a b) ∧ (mrd a 110 9 ≠ 0 → mrd b 235 13 = mrd a 110 10)
theorem QQ.fr {a' b' : AM} (q : QQ N a b) (hA : ∀ x i, x = 110 ∨ x = 111 → mrd a' x i = mrd a x i) (hB : ∀ x i, (x = 235 ∧ 9 ≤ i ∧ i ≤ 19) ∨ x = 239 → mrd b' x i = mrd b x i) (ha : RDX a' N) (hb : RDM b' N) : QQ N a' b' := by
  obtain ⟨_, _, q3, q4, q5, q6, q7⟩ := q
  refine ⟨ha, hb, fun i h0 h1 => by rw [hA _ _ (Or.inr rfl), hB _ _ (Or.inr rfl)]; exact q3 i h0 h1, ?_, ?_, ?_, ?_⟩
  · rw [hA _ _ (Or.inl rfl), hB _ _ (by omega)]; exact q4
  · rw [hA _ _ (Or.inl rfl)]; exact q5
  · rw [hA _ _ (Or.inl rfl)]
    intro z
    have := q6 z
    unfold TG at this ⊢
    rw [hA 110 4 (Or.inl rfl), hA 110 5 (Or.inl rfl), hA 110 6 (Or.inl rfl), hA 110 7 (Or.inl rfl), hA 110 8 (Or.inl rfl), hB 235 14 (by omega), hB 235 15 (by omega), hB 235 16 (by omega), hB 235 17 (by omega), hB 235 18 (by omega), hB 235 19 (by omega), hB 239 _ (Or.inr rfl)]
    exact this
  · rw [hA _ _ (Or.inl rfl), hA _ _ (Or.inl rfl), hB _ _ (by omega)]; exact q7
theorem QQ.k (q : QQ N a b) : isK a 110 5 := kn_110 q.1.1
theorem QQ.km (q : QQ N a b) : isK b 235 11 := q.2.1.1.1
theorem QQ.tg (q : QQ N a b) (h : mrd a 110 9 = 0) : TG N a b := q.2.2.2.2.2.1 h
theorem QQ.e12 (q : QQ N a b) : mrd b 235 12 = mrd a 110 9 := q.2.2.2.1
theorem QQ.ge (q : QQ N a b) : 0 ≤ mrd a 110 9 := q.2.2.2.2.1
/-- the reserved word -/
theorem TG.w8 (t : TG N a b) : mrd a 110 8 = wx b := by
  obtain ⟨t1, t2, t3, t4, t5, t6, t7⟩ := t
  unfold wx
  by_cases c : mrd b 235 14 = 1
  · rw [if_pos c]
    obtain ⟨s1, s2, s3, s4⟩ := t5 c
    by_cases c2 : mrd b 235 18 ≤ 8
    · exact (s2 c2).2.2
    · obtain ⟨s5, s6⟩ := s3 (by omega)
      rw [s5, s6]; decide +kernel
  · rw [if_neg c]; exact t4 c
/-- on to the next token, both -/
theorem adv2 (q : QQ N a b) (h9 : mrd a 110 9 = 0) (h4 : mrd b 235 14 ≠ 4) : ∃ a' b', EV (d + 1) 35 0 [(2, 110)] [] a = some ((3, 0), a') ∧ EV (d' + 1) 193 0 [(2, 235), (3, 0)] [] b = some ((3, 0), b') ∧ AX a a' ∧ NX b b' ∧ QQ N a' b' ∧ mrd a' 110 9 = 0 ∧ mrd b 235 16 ≤ mrd b' 235 15 := by
  have t := q.tg h9
  have e12 := q.e12
  obtain ⟨q1, q2, q3, q4, q5, q6, q7⟩ := q
  obtain ⟨t1, t2, t3, t4, t5, t6, t7⟩ := t
  obtain ⟨u1, u2, u3, u4⟩ := t3 h4
  obtain ⟨a', b', x1, x2, x3, x4, x5, x6⟩ := adv_both (d := d) (d' := d') q1 q2 q3 u1 rfl (by omega) u3
  have e9 : mrd a' 110 9 = 0 := by rw [x3.2 _ _ (by omega)]; exact h9
  refine ⟨a', b', x1, x2, x3.x, x4.x, ⟨q1.ax x3.x, q2.nx x4.x, fun i h0 h1 => ?_, ?_, by omega, fun _ => x5, fun z => absurd e9 z⟩, e9, x6⟩
  · rw [x3.2 _ _ (by omega), x4.2 _ _ (by omega)]; exact q3 i h0 h1
  · rw [x4.2 _ _ (by omega), e9, e12, h9]
/-- blame -/
def blm (a : AM) (w : Int) : AM := if mrd a 110 9 = 0 then mwr (mwr a 110 9 w) 110 10 (mrd a 110 6) else a
def flm (b : AM) (w p : Int) : AM := if 0 < mrd b 235 12 then b else mwr (mwr b 235 12 w) 235 13 p
theorem x_blame {w : Int} (kk : isK a 110 5) : EV d 39 0 [(2, 110), (0, w)] [] a = some ((3, 0), blm a w) := by
  unfold blm
  by_cases c : mrd a 110 9 = 0
  · rw [if_pos c]
    simp only [e39_0, e39_1, e39_4, e39_7, e39_8, e39_9, e39_12, e39_13, e39_14, e39_17, e39_20, psh0, psh1, psh3, true_or, or_true, eq_self, Option.bind_some, List.length_nil, List.length_cons, Nat.reduceAdd, Nat.reduceLeDiff, Nat.zero_le, ↓reduceIte, Int.reduceLT, Int.reduceEq, Int.reduceLE, Int.reduceNeg, Int.reduceAdd, Int.reduceMul, Int.reduceSub, ne_eq, not_true_eq_false, not_false_eq_true, and_true, true_and, and_false, false_and, c3lt, c3gt, c3eq, Bool.false_eq_true, isK_wr, inA_wr, inR_wr, kk, c, rdn2 (show ¬ ((6 : Int) = 9) by decide)]
  · rw [if_neg c]
    simp only [e39_0, e39_1, e39_4, e39_7, e39_8, e39_9, e39_12, e39_13, e39_14, e39_17, e39_20, psh0, psh1, psh3, true_or, or_true, eq_self, Option.bind_some, List.length_nil, List.length_cons, Nat.reduceAdd, Nat.reduceLeDiff, Nat.zero_le, ↓reduceIte, Int.reduceLT, Int.reduceEq, Int.reduceLE, Int.reduceNeg, Int.reduceAdd, Int.reduceMul, Int.reduceSub, ne_eq, not_true_eq_false, not_false_eq_true, and_true, true_and, and_false, false_and, c3lt, c3gt, c3eq, Bool.false_eq_true, isK_wr, inA_wr, inR_wr, kk, c]
theorem x_misfit (kk : isK a 110 5) : EV (d + 1) 40 0 [(2, 110)] [] a = some ((3, 0), blm a (if mrd a 110 5 = 4 then 1 else 2)) := by
  by_cases c : mrd a 110 5 = 4
  · simp only [e40_0, e40_1, e40_2, e40_5, e40_6, e40_9, e40_10, e40_13, e40_14, e40_17, psh0, psh1, psh3, true_or, or_true, eq_self, Option.bind_some, List.length_nil, List.length_cons, Nat.reduceAdd, Nat.reduceLeDiff, Nat.zero_le, ↓reduceIte, Int.reduceLT, Int.reduceEq, Int.reduceLE, Int.reduceNeg, Int.reduceAdd, Int.reduceMul, Int.reduceSub, ne_eq, not_true_eq_false, not_false_eq_true, and_true, true_and, and_false, false_and, c3lt, c3gt, c3eq, Bool.false_eq_true, isK_wr, inA_wr, inR_wr, kk, c, x_blame kk]
  · simp only [e40_0, e40_1, e40_2, e40_5, e40_6, e40_9, e40_10, e40_13, e40_14, e40_17, psh0, psh1, psh3, true_or, or_true, eq_self, Option.bind_some, List.length_nil, List.length_cons, Nat.reduceAdd, Nat.reduceLeDiff, Nat.zero_le, ↓reduceIte, Int.reduceLT, Int.reduceEq, Int.reduceLE, Int.reduceNeg, Int.reduceAdd, Int.reduceMul, Int.reduceSub, ne_eq, not_true_eq_false, not_false_eq_true, and_true, true_and, and_false, false_and, c3lt, c3gt, c3eq, Bool.false_eq_true, isK_wr, inA_wr, inR_wr, kk, c, x_blame kk]
theorem m_fail {w p : Int} (kM : isK b 235 11) : EV d 213 0 [(2, 235), (0, w), (0, p)] [] b = some ((3, 0), flm b w p) := by
  unfold flm
  by_cases c : 0 < mrd b 235 12
  · rw [if_pos c]
    simp only [e213_0, e213_1, e213_4, e213_7, e213_8, e213_9, e213_10, e213_13, e213_14, e213_15, e213_18, psh0, psh1, psh3, true_or, or_true, eq_self, Option.bind_some, List.length_nil, List.length_cons, Nat.reduceAdd, Nat.reduceLeDiff, Nat.zero_le, ↓reduceIte, Int.reduceLT, Int.reduceEq, Int.reduceLE, Int.reduceNeg, Int.reduceAdd, Int.reduceMul, Int.reduceSub, ne_eq, not_true_eq_false, not_false_eq_true, and_true, true_and, and_false, false_and, c3lt, c3gt, c3eq, Bool.false_eq_true, isK_wr, inA_wr, inR_wr, kM, c]
  · rw [if_neg c]
    simp only [e213_0, e213_1, e213_4, e213_7, e213_8, e213_9, e213_10, e213_13, e213_14, e213_15, e213_18, psh0, psh1, psh3, true_or, or_true, eq_self, Option.bind_some, List.length_nil, List.length_cons, Nat.reduceAdd, Nat.reduceLeDiff, Nat.zero_le, ↓reduceIte, Int.reduceLT, Int.reduceEq, Int.reduceLE, Int.reduceNeg, Int.reduceAdd, Int.reduceMul, Int.reduceSub, ne_eq, not_true_eq_false, not_false_eq_true, and_true, true_and, and_false, false_and, c3lt, c3gt, c3eq, Bool.false_eq_true, isK_wr, inA_wr, inR_wr, kM, c]
theorem m_wrong (kM : isK b 235 11) : EV (d + 1) 214 0 [(2, 235)] [] b = some ((3, 0), flm b (if mrd b 235 14 = 4 then 1 else 2) (mrd b 235 15)) := by
  by_cases c : mrd b 235 14 = 4
  · simp only [e214_0, e214_1, e214_2, e214_5, e214_6, e214_9, e214_10, e214_13, e214_14, e214_15, e214_18, e214_21, psh0, psh1, psh3, true_or, or_true, eq_self, Option.bind_some, List.length_nil, List.length_cons, Nat.reduceAdd, Nat.reduceLeDiff, Nat.zero_le, ↓reduceIte, Int.reduceLT, Int.reduceEq, Int.reduceLE, Int.reduceNeg, Int.reduceAdd, Int.reduceMul, Int.reduceSub, ne_eq, not_true_eq_false, not_false_eq_true, and_true, true_and, and_false, false_and, c3lt, c3gt, c3eq, Bool.false_eq_true, isK_wr, inA_wr, inR_wr, kM, c, m_fail kM]
  · simp only [e214_0, e214_1, e214_2, e214_5, e214_6, e214_9, e214_10, e214_13, e214_14, e214_15, e214_18, e214_21, psh0, psh1, psh3, true_or, or_true, eq_self, Option.bind_some, List.length_nil, List.length_cons, Nat.reduceAdd, Nat.reduceLeDiff, Nat.zero_le, ↓reduceIte, Int.reduceLT, Int.reduceEq, Int.reduceLE, Int.reduceNeg, Int.reduceAdd, Int.reduceMul, Int.reduceSub, ne_eq, not_true_eq_false, not_false_eq_true, and_true, true_and, and_false, false_and, c3lt, c3gt, c3eq, Bool.false_eq_true, isK_wr, inA_wr, inR_wr, kM, c, m_fail kM]
theorem blm_both {w : Int} (q : QQ N a b) (h1 : 1 ≤ w) : QQ N (blm a w) (flm b w (mrd b 235 15)) ∧ mrd (blm a w) 110 9 ≠ 0 ∧ AX a (blm a w) ∧ NX b (flm b w (mrd b 235 15)) := by
  have e12 := q.e12
  have ge := q.ge
  unfold blm flm
  by_cases c : mrd a 110 9 = 0
  · rw [if_pos c, if_neg (by omega)]
    have t := q.tg c
    obtain ⟨q1, q2, q3, q4, q5, q6, q7⟩ := q
    have hA : AX a (mwr (mwr a 110 9 w) 110 10 (mrd a 110 6)) := (AX.rf.wr (by decide) (by decide)).wr (by decide) (by decide)
    have hB : NX b (mwr (mwr b 235 12 w) 235 13 (mrd b 235 15)) := (NX.rf.wr (by decide) (by decide)).wr (by decide) (by decide)
    have e9 : mrd (mwr (mwr a 110 9 w) 110 10 (mrd a 110 6)) 110 9 = w := by rw [rdn2 (by decide), rde]
    have e12' : mrd (mwr (mwr b 235 12 w) 235 13 (mrd b 235 15)) 235 12 = w := by rw [rdn2 (by decide), rde]
    refine ⟨⟨q1.ax hA, q2.nx hB, fun i h0 h1 => ?_, by rw [e9, e12'], by omega, fun z => by omega, fun z => ?_⟩, by omega, hA, hB⟩
    · rw [hA.2 _ _ (by omega), hB.2 _ _ (by omega)]; exact q3 i h0 h1
    · rw [rde, rde]; exact t.2.1.1.symm
  · rw [if_neg c, if_pos (by omega)]
    exact ⟨q, c, AX.rf, NX.rf⟩
/-- blameMisfit and wrong -/
theorem mis_both (q : QQ N a b) : ∃ a' b', EV (d + 1) 40 0 [(2, 110)] [] a = some ((3, 0), a') ∧ EV (d' + 1) 214 0 [(2, 235)] [] b = some ((3, 0), b') ∧ AX a a' ∧ NX b b' ∧ QQ N a' b' ∧ mrd a' 110 9 ≠ 0 ∧ (mrd a 110 9 ≠ 0 → a' = a ∧ b' = b) := by
  have ge := q.ge
  have e12 := q.e12
  have w1 : ∀ x : Int, 1 ≤ (if x = 4 then 1 else 2 : Int) := fun x => by split <;> decide
  by_cases c : mrd a 110 9 = 0
  · obtain ⟨r1, r2, r3, r4⟩ := blm_both q (w1 (mrd b 235 14))
    refine ⟨_, _, x_misfit q.k, m_wrong q.km, ?_⟩
    rw [(q.tg c).1.1]
    exact ⟨r3, r4, r1, r2, fun z => absurd c z⟩
  · refine ⟨_, _, x_misfit q.k, m_wrong q.km, ?_⟩
    have ea : ∀ w, blm a w = a := fun w => if_neg c
    have eb : ∀ w p, flm b w p = b := fun w p => if_pos (by omega)
    rw [ea, eb]
    exact ⟨AX.rf, NX.rf, q, c, fun _ => ⟨rfl, rfl⟩⟩
/-- must, run -/
theorem m_must0 {z : Int} (kM : isK b 235 11) (h : 0 < mrd b 235 12) : EV d 215 0 [(2, 235), (0, z)] [] b = some ((3, 0), b) := by
  simp only [e215_0, e215_1, e215_4, e215_7, e215_8, e215_9, e215_12, e215_13, e215_16, e215_19, e215_20, e215_23, psh0, psh1, psh3, true_or, or_true, eq_self, Option.bind_some, List.length_nil, List.length_cons, Nat.reduceAdd, Nat.reduceLeDiff, Nat.zero_le, ↓reduceIte, Int.reduceLT, Int.reduceEq, Int.reduceLE, Int.reduceNeg, Int.reduceAdd, Int.reduceMul, Int.reduceSub, ne_eq, not_true_eq_false, not_false_eq_true, and_true, true_and, and_false, false_and, c3lt, c3gt, c3eq, Bool.false_eq_true, isK_wr, inA_wr, inR_wr, kM, h]
theorem m_must1 (kM : isK b 235 11) (h : mrd b 235 12 = 0) (g : EV d 193 0 [(2, 235), (3, 0)] [] b = some ((3, 0), b')) : EV (d + 1) 215 0 [(2, 235), (0, 1)] [] b = some ((3, 0), b') := by
  simp only [e215_0, e215_1, e215_4, e215_7, e215_8, e215_9, e215_12, e215_13, e215_16, e215_19, e215_20, e215_23, psh0, psh1, psh3, true_or, or_true, eq_self, Option.bind_some, List.length_nil, List.length_cons, Nat.reduceAdd, Nat.reduceLeDiff, Nat.zero_le, ↓reduceIte, Int.reduceLT, Int.reduceEq, Int.reduceLE, Int.reduceNeg, Int.reduceAdd, Int.reduceMul, Int.reduceSub, ne_eq, not_true_eq_false, not_false_eq_true, and_true, true_and, and_false, false_and, c3lt, c3gt, c3eq, Bool.false_eq_true, isK_wr, inA_wr, inR_wr, kM, h, g]
theorem m_mustF (kM : isK b 235 11) (h : mrd b 235 12 = 0) (g : EV d 214 0 [(2, 235)] [] b = some ((3, 0), b')) : EV (d + 1) 215 0 [(2, 235), (0, 0)] [] b = some ((3, 0), b') := by
  simp only [e215_0, e215_1, e215_4, e215_7, e215_8, e215_9, e215_12, e215_13, e215_16, e215_19, e215_20, e215_23, psh0, psh1, psh3, true_or, or_true, eq_self, Option.bind_some, List.length_nil, List.length_cons, Nat.reduceAdd, Nat.reduceLeDiff, Nat.zero_le, ↓reduceIte, Int.reduceLT, Int.reduceEq, Int.reduceLE, Int.reduceNeg, Int.reduceAdd, Int.reduceMul, Int.reduceSub, ne_eq, not_true_eq_false, not_false_eq_true, and_true, true_and, and_false, false_and, c3lt, c3gt, c3eq, Bool.false_eq_true, isK_wr, inA_wr, inR_wr, kM, h, g]
theorem x_isWord {k : Int} (q : QQ N a b) (k0 : 0 ≤ k) : EV d 41 0 [(2, 110), (0, k)] [] a = some ((0, if mrd a 110 9 = 0 ∧ wx b = k then 1 else 0), a) := by
  have kk := q.k
  by_cases c : mrd a 110 9 = 0
  · have t := q.tg c
    have w8 := t.w8
    by_cases c2 : wx b = k
    · have c5 : mrd a 110 5 = 1 := by
        rw [t.1.1]
        unfold wx at c2
        by_cases z : mrd b 235 14 = 1
        · exact z
        · rw [if_neg z] at c2; omega
      rw [if_pos ⟨c, c2⟩]
      simp only [e41_0, e41_1, e41_4, e41_7, e41_8, e41_11, e41_12, e41_15, e41_16, e41_19, e41_20, e41_23, e41_24, e41_27, e41_28, psh0, psh1, psh3, true_or, or_true, eq_self, Option.bind_some, List.length_nil, List.length_cons, Nat.reduceAdd, Nat.reduceLeDiff, Nat.zero_le, ↓reduceIte, Int.reduceLT, Int.reduceEq, Int.reduceLE, Int.reduceNeg, Int.reduceAdd, Int.reduceMul, Int.reduceSub, ne_eq, not_true_eq_false, not_false_eq_true, and_true, true_and, and_false, false_and, c3lt, c3gt, c3eq, Bool.false_eq_true, isK_wr, inA_wr, inR_wr, kk, c, c5, w8, c2]
    · rw [if_neg (fun z => c2 z.2)]
      by_cases c5 : mrd a 110 5 = 1
      · simp only [e41_0, e41_1, e41_4, e41_7, e41_8, e41_11, e41_12, e41_15, e41_16, e41_19, e41_20, e41_23, e41_24, e41_27, e41_28, psh0, psh1, psh3, true_or, or_true, eq_self, Option.bind_some, List.length_nil, List.length_cons, Nat.reduceAdd, Nat.reduceLeDiff, Nat.zero_le, ↓reduceIte, Int.reduceLT, Int.reduceEq, Int.reduceLE, Int.reduceNeg, Int.reduceAdd, Int.reduceMul, Int.reduceSub, ne_eq, not_true_eq_false, not_false_eq_true, and_true, true_and, and_false, false_and, c3lt, c3gt, c3eq, Bool.false_eq_true, isK_wr, inA_wr, inR_wr, kk, c, c5, w8, c2]
      · simp only [e41_0, e41_1, e41_4, e41_7, e41_8, e41_11, e41_12, e41_15, e41_16, e41_19, e41_20, e41_23, e41_24, e41_27, e41_28, psh0, psh1, psh3, true_or, or_true, eq_self, Option.bind_some, List.length_nil, List.length_cons, Nat.reduceAdd, Nat.reduceLeDiff, Nat.zero_le, ↓reduceIte, Int.reduceLT, Int.reduceEq, Int.reduceLE, Int.reduceNeg, Int.reduceAdd, Int.reduceMul, Int.reduceSub, ne_eq, not_true_eq_false, not_false_eq_true, and_true, true_and, and_false, false_and, c3lt, c3gt, c3eq, Bool.false_eq_true, isK_wr, inA_wr, inR_wr, kk, c, c5]
  · rw [if_neg (fun z => c z.1)]
    simp only [e41_0, e41_1, e41_4, e41_7, e41_8, e41_11, e41_12, e41_15, e41_16, e41_19, e41_20, e41_23, e41_24, e41_27, e41_28, psh0, psh1, psh3, true_or, or_true, eq_self, Option.bind_some, List.length_nil, List.length_cons, Nat.reduceAdd, Nat.reduceLeDiff, Nat.zero_le, ↓reduceIte, Int.reduceLT, Int.reduceEq, Int.reduceLE, Int.reduceNeg, Int.reduceAdd, Int.reduceMul, Int.reduceSub, ne_eq, not_true_eq_false, not_false_eq_true, and_true, true_and, and_false, false_and, c3lt, c3gt, c3eq, Bool.false_eq_true, isK_wr, inA_wr, inR_wr, kk, c]
theorem x_isSign {x : Int} (q : QQ N a b) : EV d 42 0 [(2, 110), (0, x)] [] a = some ((0, if mrd a 110 9 = 0 ∧ mrd b 235 14 = 3 ∧ mrd b 235 17 = x then 1 else 0), a) := by
  have kk := q.k
  by_cases c : mrd a 110 9 = 0
  · have t := q.tg c
    have t1 := t.1.1
    by_cases c2 : mrd b 235 14 = 3
    · have t7 := (t.2.2.2.2.2.2 c2).1
      by_cases c3 : mrd b 235 17 = x
      · rw [if_pos ⟨c, c2, c3⟩]
        have z := cmp3_z.2 c3
        simp only [e42_0, e42_1, e42_4, e42_7, e42_8, e42_11, e42_12, e42_15, e42_16, e42_19, e42_20, e42_21, e42_22, e42_25, e42_26, e42_29, e42_30, psh0, psh1, psh3, true_or, or_true, eq_self, Option.bind_some, List.length_nil, List.length_cons, Nat.reduceAdd, Nat.reduceLeDiff, Nat.zero_le, ↓reduceIte, Int.reduceLT, Int.reduceEq, Int.reduceLE, Int.reduceNeg, Int.reduceAdd, Int.reduceMul, Int.reduceSub, ne_eq, not_true_eq_false, not_false_eq_true, and_true, true_and, and_false, false_and, c3lt, c3gt, c3eq, Bool.false_eq_true, isK_wr, inA_wr, inR_wr, kk, c, t1, c2, t7, z]
      · rw [if_neg (fun z => c3 z.2.2)]
        have z : ¬ cmp3 (mrd b 235 17) x = 0 := fun z => c3 (cmp3_z.1 z)
        simp only [e42_0, e42_1, e42_4, e42_7, e42_8, e42_11, e42_12, e42_15, e42_16, e42_19, e42_20, e42_21, e42_22, e42_25, e42_26, e42_29, e42_30, psh0, psh1, psh3, true_or, or_true, eq_self, Option.bind_some, List.length_nil, List.length_cons, Nat.reduceAdd, Nat.reduceLeDiff, Nat.zero_le, ↓reduceIte, Int.reduceLT, Int.reduceEq, Int.reduceLE, Int.reduceNeg, Int.reduceAdd, Int.reduceMul, Int.reduceSub, ne_eq, not_true_eq_false, not_false_eq_true, and_true, true_and, and_false, false_and, c3lt, c3gt, c3eq, Bool.false_eq_true, isK_wr, inA_wr, inR_wr, kk, c, t1, c2, t7, z]
    · rw [if_neg (fun z => c2 z.2.1)]
      simp only [e42_0, e42_1, e42_4, e42_7, e42_8, e42_11, e42_12, e42_15, e42_16, e42_19, e42_20, e42_21, e42_22, e42_25, e42_26, e42_29, e42_30, psh0, psh1, psh3, true_or, or_true, eq_self, Option.bind_some, List.length_nil, List.length_cons, Nat.reduceAdd, Nat.reduceLeDiff, Nat.zero_le, ↓reduceIte, Int.reduceLT, Int.reduceEq, Int.reduceLE, Int.reduceNeg, Int.reduceAdd, Int.reduceMul, Int.reduceSub, ne_eq, not_true_eq_false, not_false_eq_true, and_true, true_and, and_false, false_and, c3lt, c3gt, c3eq, Bool.false_eq_true, isK_wr, inA_wr, inR_wr, kk, c, t1, c2]
  · rw [if_neg (fun z => c z.1)]
    simp only [e42_0, e42_1, e42_4, e42_7, e42_8, e42_11, e42_12, e42_15, e42_16, e42_19, e42_20, e42_21, e42_22, e42_25, e42_26, e42_29, e42_30, psh0, psh1, psh3, true_or, or_true, eq_self, Option.bind_some, List.length_nil, List.length_cons, Nat.reduceAdd, Nat.reduceLeDiff, Nat.zero_le, ↓reduceIte, Int.reduceLT, Int.reduceEq, Int.reduceLE, Int.reduceNeg, Int.reduceAdd, Int.reduceMul, Int.reduceSub, ne_eq, not_true_eq_false, not_false_eq_true, and_true, true_and, and_false, false_and, c3lt, c3gt, c3eq, Bool.false_eq_true, isK_wr, inA_wr, inR_wr, kk, c]
theorem x_passW1 {k : Int} (kk : isK a 110 5) (g : EV d 41 0 [(2, 110), (0, k)] [] a = some ((0, 1), a)) (g2 : EV d 35 0 [(2, 110)] [] a = some ((3, 0), a')) : EV (d + 1) 43 0 [(2, 110), (0, k)] [] a = some ((3, 0), a') := by
  simp only [e43_0, e43_1, e43_2, e43_5, e43_8, e43_9, e43_12, e43_15, e43_16, e43_19, psh0, psh1, psh3, true_or, or_true, eq_self, Option.bind_some, List.length_nil, List.length_cons, Nat.reduceAdd, Nat.reduceLeDiff, Nat.zero_le, ↓reduceIte, Int.reduceLT, Int.reduceEq, Int.reduceLE, Int.reduceNeg, Int.reduceAdd, Int.reduceMul, Int.reduceSub, ne_eq, not_true_eq_false, not_false_eq_true, and_true, true_and, and_false, false_and, c3lt, c3gt, c3eq, Bool.false_eq_true, isK_wr, inA_wr, inR_wr, kk, g, g2]
theorem x_passW0 {k : Int} (kk : isK a 110 5) (g : EV d 41 0 [(2, 110), (0, k)] [] a = some ((0, 0), a)) (g2 : EV d 40 0 [(2, 110)] [] a = some ((3, 0), a')) : EV (d + 1) 43 0 [(2, 110), (0, k)] [] a = some ((3, 0), a') := by
  simp only [e43_0, e43_1, e43_2, e43_5, e43_8, e43_9, e43_12, e43_15, e43_16, e43_19, psh0, psh1, psh3, true_or, or_true, eq_self, Option.bind_some, List.length_nil, List.length_cons, Nat.reduceAdd, Nat.reduceLeDiff, Nat.zero_le, ↓reduceIte, Int.reduceLT, Int.reduceEq, Int.reduceLE, Int.reduceNeg, Int.reduceAdd, Int.reduceMul, Int.reduceSub, ne_eq, not_true_eq_false, not_false_eq_true, and_true, true_and, and_false, false_and, c3lt, c3gt, c3eq, Bool.false_eq_true, isK_wr, inA_wr, inR_wr, kk, g, g2]
theorem x_passS1 {k : Int} (kk : isK a 110 5) (g : EV d 42 0 [(2, 110), (0, k)] [] a = some ((0, 1), a)) (g2 : EV d 35 0 [(2, 110)] [] a = some ((3, 0), a')) : EV (d + 1) 44 0 [(2, 110), (0, k)] [] a = some ((3, 0), a') := by
  simp only [e44_0, e44_1, e44_2, e44_5, e44_8, e44_9, e44_12, e44_15, e44_16, e44_19, psh0, psh1, psh3, true_or, or_true, eq_self, Option.bind_some, List.length_nil, List.length_cons, Nat.reduceAdd, Nat.reduceLeDiff, Nat.zero_le, ↓reduceIte, Int.reduceLT, Int.reduceEq, Int.reduceLE, Int.reduceNeg, Int.reduceAdd, Int.reduceMul, Int.reduceSub, ne_eq, not_true_eq_false, not_false_eq_true, and_true, true_and, and_false, false_and, c3lt, c3gt, c3eq, Bool.false_eq_true, isK_wr, inA_wr, inR_wr, kk, g, g2]
theorem x_passS0 {k : Int} (kk : isK a 110 5) (g : EV d 42 0 [(2, 110), (0, k)] [] a = some ((0, 0), a)) (g2 : EV d 40 0 [(2, 110)] [] a = some ((3, 0), a')) : EV (d + 1) 44 0 [(2, 110), (0, k)] [] a = some ((3, 0), a') := by
  simp only [e44_0, e44_1, e44_2, e44_5, e44_8, e44_9, e44_12, e44_15, e44_16, e44_19, psh0, psh1, psh3, true_or, or_true, eq_self, Option.bind_some, List.length_nil, List.length_cons, Nat.reduceAdd, Nat.reduceLeDiff, Nat.zero_le, ↓reduceIte, Int.reduceLT, Int.reduceEq, Int.reduceLE, Int.reduceNeg, Int.reduceAdd, Int.reduceMul, Int.reduceSub, ne_eq, not_true_eq_false, not_false_eq_true, and_true, true_and, and_false, false_and, c3lt, c3gt, c3eq, Bool.false_eq_true, isK_wr, inA_wr, inR_wr, kk, g, g2]
/-- the outcome of a paired step that passes a token -/
def Stp2 (N : Nat) (a b a' b' : AM) : Prop := AX a a' ∧ NX b b' ∧ QQ N a' b' ∧ (mrd a' 110 9 = 0 → mrd a 110 9 = 0 ∧ mrd b 235 15 < mrd b' 235 15) ∧ (mrd a 110 9 ≠ 0 → a' = a ∧ b' = b)
theorem pw_both {k : Int} (q : QQ N a b) (k0 : 0 ≤ k) : ∃ a' b', EV (d + 2) 43 0 [(2, 110), (0, k)] [] a = some ((3, 0), a') ∧ EV (d' + 2) 215 0 [(2, 235), (0, wq b k)] [] b = some ((3, 0), b') ∧ Stp2 N a b a' b' := by
  have e12 := q.e12
  have ge := q.ge
  have g := x_isWord (d := d + 1) q k0
  by_cases c : mrd a 110 9 = 0
  · by_cases c2 : wx b = k
    · have w1 : mrd b 235 14 = 1 := by
        unfold wx at c2
        by_cases z : mrd b 235 14 = 1
        · exact z
        · rw [if_neg z] at c2; omega
      rw [if_pos ⟨c, c2⟩] at g
      obtain ⟨a', b', y1, y2, y3, y4, y5, y6, y7⟩ := adv2 (d := d) (d' := d') q c (by omega)
      have t3 := (q.tg c).2.2.1 (by omega)
      have t4 := t3.2.2.2 (by omega)
      refine ⟨a', b', x_passW1 q.k g y1, ?_, y3, y4, y5, fun _ => ⟨c, by omega⟩, fun z => absurd c z⟩
      rw [wq_1 c2]
      exact m_must1 q.km (by omega) y2
    · rw [if_neg (fun z => c2 z.2)] at g
      obtain ⟨a', b', y1, y2, y3, y4, y5, y6, y7⟩ := mis_both (d := d) (d' := d') q
      refine ⟨a', b', x_passW0 q.k g y1, ?_, y3, y4, y5, fun z => absurd z y6, y7⟩
      rw [wq_0 c2]
      exact m_mustF q.km (by omega) y2
  · rw [if_neg (fun z => c z.1)] at g
    obtain ⟨a', b', y1, y2, y3, y4, y5, y6, y7⟩ := mis_both (d := d) (d' := d') q
    obtain ⟨rfl, rfl⟩ := y7 c
    exact ⟨a', b', x_passW0 q.k g y1, m_must0 q.km (by omega), y3, y4, y5, fun z => absurd z y6, y7⟩
def sq (b : AM) (x : Int) : Int := if mrd b 235 14 = 3 ∧ mrd b 235 17 = x then 1 else 0
theorem ps_both {x : Int} (q : QQ N a b) : ∃ a' b', EV (d + 2) 44 0 [(2, 110), (0, x)] [] a = some ((3, 0), a') ∧ EV (d' + 2) 215 0 [(2, 235), (0, sq b x)] [] b = some ((3, 0), b') ∧ Stp2 N a b a' b' := by
  have e12 := q.e12
  have ge := q.ge
  have g := x_isSign (d := d + 1) (x := x) q
  unfold sq
  by_cases c : mrd a 110 9 = 0
  · by_cases c2 : mrd b 235 14 = 3 ∧ mrd b 235 17 = x
    · rw [if_pos ⟨c, c2⟩] at g
      obtain ⟨a', b', y1, y2, y3, y4, y5, y6, y7⟩ := adv2 (d := d) (d' := d') q c (by omega)
      have t3 := (q.tg c).2.2.1 (by omega)
      have t4 := t3.2.2.2 (by omega)
      refine ⟨a', b', x_passS1 q.k g y1, ?_, y3, y4, y5, fun _ => ⟨c, by omega⟩, fun z => absurd c z⟩
      rw [if_pos c2]
      exact m_must1 q.km (by omega) y2
    · rw [if_neg (fun z => c2 z.2)] at g
      obtain ⟨a', b', y1, y2, y3, y4, y5, y6, y7⟩ := mis_both (d := d) (d' := d') q
      refine ⟨a', b', x_passS0 q.k g y1, ?_, y3, y4, y5, fun z => absurd z y6, y7⟩
      rw [if_neg c2]
      exact m_mustF q.km (by omega) y2
  · rw [if_neg (fun z => c z.1)] at g
    obtain ⟨a', b', y1, y2, y3, y4, y5, y6, y7⟩ := mis_both (d := d) (d' := d') q
    obtain ⟨rfl, rfl⟩ := y7 c
    exact ⟨a', b', x_passS0 q.k g y1, m_must0 q.km (by omega), y3, y4, y5, fun z => absurd z y6, y7⟩
end

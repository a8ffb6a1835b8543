/-! age: what is told, both sides -/
def SN (s : Int) (a b : AM) : Prop := (mrd a s 6 = mrd b 240 1 ∧ 0 ≤ mrd a s 6 ∧ mrd a s 6 ≤ 12) ∧ (mrd a s 7 = mrd b 240 2 ∧ 0 ≤ mrd a s 7 ∧ mrd a s 7 ≤ 4) ∧ (∀ j, 0 ≤ j → j < mrd a s 6 → mrd a (s + 13 + j) 0 = mrd b 242 (4 + j)) ∧ ∀ j, 0 ≤ j → j < mrd a s 7 → mrd a (s + 25 + 2 * j) 1 = mrd b 242 (16 + j)
/-- what an age's reading may change -/
abbrev ZG (G x i : Int) : Prop := (x = 110 ∧ 4 ≤ i ∧ i ≤ 10) ∨ (x = G ∧ 6 ≤ i ∧ i ≤ 8) ∨ (G + 1 ≤ x ∧ x ≤ G + 6)
abbrev ZH (x i : Int) : Prop := (x = 235 ∧ ((12 ≤ i ∧ i ≤ 19) ∨ i = 25)) ∨ (x = 240 ∧ 1770 ≤ i)
section
variable {d d' N : Nat} {a a' a1 b b' b1 : AM} {s G v : Int}
theorem ZG_s {x i : Int} (hs : HD s) (hG : HG G) (h : (x = s ∧ i < 6) ∨ (x = s ∧ 5 ≤ i) ∨ (s + 13 ≤ x ∧ x ≤ s + 32)) : ¬ ZG G x i := by
  rintro (y | y | y)
  · rcases hs with rfl | rfl <;> omega
  · rcases hs with rfl | rfl <;> rcases hG with rfl | rfl | rfl <;> omega
  · rcases hs with rfl | rfl <;> rcases hG with rfl | rfl | rfl <;> omega
theorem SN.fr (h : SN s a b) (hs : HD s) (hG : HG G) (fa : ∀ x i, ¬ ZG G x i → mrd a' x i = mrd a x i) (fb : ∀ x i, ¬ ZH x i → mrd b' x i = mrd b x i) : SN s a' b' := by
  obtain ⟨h1, h2, h3, h4⟩ := h
  have e6 : mrd a' s 6 = mrd a s 6 := fa _ _ (ZG_s hs hG (by omega))
  have e7 : mrd a' s 7 = mrd a s 7 := fa _ _ (ZG_s hs hG (by omega))
  unfold SN
  rw [e6, e7, fb 240 1 (by decide), fb 240 2 (by decide)]
  refine ⟨h1, h2, fun j j0 j1 => ?_, fun j j0 j1 => ?_⟩
  · rw [fa _ _ (ZG_s hs hG (by omega)), fb _ _ (by unfold ZH; omega)]; exact h3 j j0 j1
  · rw [fa _ _ (ZG_s hs hG (by omega)), fb _ _ (by unfold ZH; omega)]; exact h4 j j0 j1
theorem AgF (sh : Shp a) (rr : RRef a.1) (hG : HG G) : isK a G 0 ∧ (mrd a G 0 = G + 1 ∧ mrd a G 1 = G + 2 ∧ mrd a G 2 = G + 3 ∧ mrd a G 3 = G + 4 ∧ mrd a G 4 = G + 5 ∧ mrd a G 5 = G + 6) ∧ (∀ j p, 1 ≤ j → j ≤ 5 → 0 ≤ p → p < 30 → inA a (G + j) 16 p) ∧ ∀ p, 0 ≤ p → p < 3 → inA a (G + 6) 16 p := by
  obtain ⟨k1, k2⟩ := a7_K sh hG.a7
  refine ⟨k1, ?_, fun j p j0 j1 p0 p1 => ⟨(k2 j j0 j1).1, p0, by rw [(k2 j j0 j1).2]; exact p1⟩, fun p p0 p1 => ?_⟩
  · rcases hG with rfl | rfl | rfl
    · exact ⟨rr (168, 0, 169) (by decide +kernel), rr (168, 1, 170) (by decide +kernel), rr (168, 2, 171) (by decide +kernel), rr (168, 3, 172) (by decide +kernel), rr (168, 4, 173) (by decide +kernel), rr (168, 5, 174) (by decide +kernel)⟩
    · exact ⟨rr (201, 0, 202) (by decide +kernel), rr (201, 1, 203) (by decide +kernel), rr (201, 2, 204) (by decide +kernel), rr (201, 3, 205) (by decide +kernel), rr (201, 4, 206) (by decide +kernel), rr (201, 5, 207) (by decide +kernel)⟩
    · exact ⟨rr (228, 0, 229) (by decide +kernel), rr (228, 1, 230) (by decide +kernel), rr (228, 2, 231) (by decide +kernel), rr (228, 3, 232) (by decide +kernel), rr (228, 4, 233) (by decide +kernel), rr (228, 5, 234) (by decide +kernel)⟩
  · have q := fun (x : Int) (hm : (x, 16, 3) ∈ shT) => Shp_K (n := 3) sh hm
    rcases hG with rfl | rfl | rfl
    · exact ⟨(q 174 (by decide +kernel)).1, p0, by show p < mln a 174; rw [(q 174 (by decide +kernel)).2]; exact p1⟩
    · exact ⟨(q 207 (by decide +kernel)).1, p0, by show p < mln a 207; rw [(q 207 (by decide +kernel)).2]; exact p1⟩
    · exact ⟨(q 234 (by decide +kernel)).1, p0, by show p < mln a 234; rw [(q 234 (by decide +kernel)).2]; exact p1⟩
/-- a child told -/
theorem tc_both (q : QQ N a b) (hs : HD s) (sn : SN s a b) : ∃ v a1 k u a' u' b', EV (d + 2) 48 0 [(2, 110)] [] a = some ((1, v), a1) ∧ AX a a1 ∧ (∀ e, EV e 62 0 [(2, s), (1, v), (3, 1), (3, 0)] [] a1 = some ((0, k), a1)) ∧ EV (d + 2) 49 0 [(2, 110), (0, k)] [] a1 = some ((0, u), a') ∧ EV (d' + 5) 228 0 [(2, 235), (0, 0), (0, 2), (3, 0)] [] b = some ((0, u'), b') ∧ Stp2 N a b a' b' ∧ (0 ≤ u ∧ u < 4) ∧ (mrd a' 110 9 = 0 → u' = u ∧ u < mrd a s 7) := by
  have bs := hs.b
  obtain ⟨n1, n2, n3, n4⟩ := sn
  have r := fun v => FnC_r (a := a) (s := s) (v := v) n2.2.1
  obtain ⟨v, a1, u, a', u', b', y1, y2, y3, y4, y5, y6, y7, y8⟩ := rt_both (d := d) (d' := d') (z := 2) (B := 0) (F := FnC a s) q (fun v => (r v).1) (Or.inr (Or.inr ⟨rfl, m_FnC (d := d' + 2) q.2.1.1 (by decide) (by decide) n2.2.1 n2.2.2 n2.1 (fun j j0 j1 => by rw [show (20 : Int) * 0 + 16 + j = 16 + j by omega]; exact n4 j j0 j1)⟩))
  have e7 : mrd a1 s 7 = mrd a s 7 := y2.2 _ _ (by omega)
  have cs1 : CS a1 s := CS_of (q.1.ax y2).1 (q.1.ax y2).2.1 (S6_cur hs)
  have ef : FnC a1 s v = FnC a s v := by
    unfold FnC
    rw [e7]
    exact fd_congr (f := fun l => mrd a1 (s + 25 + 2 * l) 1) (g := fun l => mrd a (s + 25 + 2 * l) 1) _ 0 (fun j _ hj => y2.2 _ _ (by omega))
  have rv := r v
  refine ⟨v, a1, FnC a s v, u, a', u', b', y1, y2, fun e => ?_, y3, y4, y5, ⟨y6.1, by omega⟩, fun z => ?_⟩
  · rw [← ef]
    exact x_FnC cs1 (by omega) (by omega)
  · obtain ⟨z1, z2⟩ := y8 z
    have := r (mrd b 235 19)
    exact ⟨z1, by omega⟩
/-- a lesson told -/
theorem tl_both (q : QQ N a b) (hs : HD s) (sn : SN s a b) : ∃ v a1 k u a' u' b', EV (d + 2) 48 0 [(2, 110)] [] a = some ((1, v), a1) ∧ AX a a1 ∧ (∀ e, EV e 61 0 [(2, s), (1, v), (3, 1), (3, 0)] [] a1 = some ((0, k), a1)) ∧ EV (d + 2) 49 0 [(2, 110), (0, k)] [] a1 = some ((0, u), a') ∧ EV (d' + 5) 228 0 [(2, 235), (0, 0), (0, 1), (3, 0)] [] b = some ((0, u'), b') ∧ Stp2 N a b a' b' ∧ (mrd a' 110 9 = 0 → u' = u ∧ 0 ≤ u ∧ u < mrd a s 6) := by
  have bs := hs.b
  obtain ⟨n1, n2, n3, n4⟩ := sn
  have r := fun v => FnL_r (a := a) (s := s) (v := v) n1.2.1
  obtain ⟨v, a1, u, a', u', b', y1, y2, y3, y4, y5, y6, y7, y8⟩ := rt_both (d := d) (d' := d') (z := 1) (B := 0) (F := FnL a s) q (fun v => (r v).1) (Or.inr (Or.inl ⟨rfl, m_FnL (d := d' + 2) q.2.1.1 (by decide) (by decide) n1.2.1 n1.2.2 n1.1 (fun j j0 j1 => by rw [show (20 : Int) * 0 + 4 + j = 4 + j by omega]; exact n3 j j0 j1)⟩))
  have e7 : mrd a1 s 6 = mrd a s 6 := y2.2 _ _ (by omega)
  have cs1 : CS a1 s := CS_of (q.1.ax y2).1 (q.1.ax y2).2.1 (S6_cur hs)
  have ef : FnL a1 s v = FnL a s v := by
    unfold FnL
    rw [e7]
    exact fd_congr (f := fun l => mrd a1 (s + 13 + l) 0) (g := fun l => mrd a (s + 13 + l) 0) _ 0 (fun j _ hj => y2.2 _ _ (by omega))
  refine ⟨v, a1, FnL a s v, u, a', u', b', y1, y2, fun e => ?_, y3, y4, y5, fun z => ?_⟩
  · rw [← ef]
    exact x_FnL cs1 (by omega) (by omega)
  · obtain ⟨z1, z2⟩ := y8 z
    have := r (mrd b 235 19)
    exact ⟨z1, y6.1, by omega⟩
/-- the sign that compares -/
def cq (b : AM) : Int := if mrd b 235 14 = 3 ∧ (mrd b 235 17 = 60 ∨ mrd b 235 17 = 62 ∨ mrd b 235 17 = 61) then 1 else 0
theorem x_cmp1 {x : Int} (kk : isK a 110 5) (hx : x = 60 ∨ x = 62 ∨ x = 61) (g : ∀ y, EV d 42 0 [(2, 110), (0, y)] [] a = some ((0, if x = y then 1 else 0), a)) (h7 : mrd a 110 7 = x) (g2 : EV d 35 0 [(2, 110)] [] a = some ((3, 0), a')) : EV (d + 1) 47 0 [(2, 110), (3, 0)] [] a = some ((0, x), a') := by
  have g60 := g 60
  have g62 := g 62
  have g61 := g 61
  have w0 : wch (w32 60) = 60 := by decide +kernel
  have w2 : wch (w32 62) = 62 := by decide +kernel
  have w1 : wch (w32 61) = 61 := by decide +kernel
  rcases hx with rfl | rfl | rfl
  · simp only [↓reduceIte, Int.reduceLT, Int.reduceEq, Int.reduceLE, Int.reduceNeg, Int.reduceAdd, Int.reduceMul, Int.reduceSub, ne_eq, not_true_eq_false, not_false_eq_true, and_true, true_and, and_false, false_and, c3lt, c3gt, c3eq, Bool.false_eq_true, isK_wr, inA_wr, inR_wr] at g60 g62 g61
    simp only [e47_0, e47_1, e47_3, e47_6, e47_9, e47_10, e47_12, e47_15, e47_18, e47_19, e47_21, e47_24, e47_27, e47_28, e47_31, e47_32, e47_33, e47_34, e47_35, e47_38, e47_39, e47_40, e47_41, e47_44, e47_46, psh0, psh1, psh3, true_or, or_true, eq_self, Option.bind_some, List.length_nil, List.length_cons, Nat.reduceAdd, Nat.reduceLeDiff, Nat.zero_le, ↓reduceIte, Int.reduceLT, Int.reduceEq, Int.reduceLE, Int.reduceNeg, Int.reduceAdd, Int.reduceMul, Int.reduceSub, ne_eq, not_true_eq_false, not_false_eq_true, and_true, true_and, and_false, false_and, c3lt, c3gt, c3eq, Bool.false_eq_true, isK_wr, inA_wr, inR_wr, kk, g60, h7, w0, g2]
  · simp only [↓reduceIte, Int.reduceLT, Int.reduceEq, Int.reduceLE, Int.reduceNeg, Int.reduceAdd, Int.reduceMul, Int.reduceSub, ne_eq, not_true_eq_false, not_false_eq_true, and_true, true_and, and_false, false_and, c3lt, c3gt, c3eq, Bool.false_eq_true, isK_wr, inA_wr, inR_wr] at g60 g62 g61
    simp only [e47_0, e47_1, e47_3, e47_6, e47_9, e47_10, e47_12, e47_15, e47_18, e47_19, e47_21, e47_24, e47_27, e47_28, e47_31, e47_32, e47_33, e47_34, e47_35, e47_38, e47_39, e47_40, e47_41, e47_44, e47_46, psh0, psh1, psh3, true_or, or_true, eq_self, Option.bind_some, List.length_nil, List.length_cons, Nat.reduceAdd, Nat.reduceLeDiff, Nat.zero_le, ↓reduceIte, Int.reduceLT, Int.reduceEq, Int.reduceLE, Int.reduceNeg, Int.reduceAdd, Int.reduceMul, Int.reduceSub, ne_eq, not_true_eq_false, not_false_eq_true, and_true, true_and, and_false, false_and, c3lt, c3gt, c3eq, Bool.false_eq_true, isK_wr, inA_wr, inR_wr, kk, g60, g62, h7, w2, g2]
  · simp only [↓reduceIte, Int.reduceLT, Int.reduceEq, Int.reduceLE, Int.reduceNeg, Int.reduceAdd, Int.reduceMul, Int.reduceSub, ne_eq, not_true_eq_false, not_false_eq_true, and_true, true_and, and_false, false_and, c3lt, c3gt, c3eq, Bool.false_eq_true, isK_wr, inA_wr, inR_wr] at g60 g62 g61
    simp only [e47_0, e47_1, e47_3, e47_6, e47_9, e47_10, e47_12, e47_15, e47_18, e47_19, e47_21, e47_24, e47_27, e47_28, e47_31, e47_32, e47_33, e47_34, e47_35, e47_38, e47_39, e47_40, e47_41, e47_44, e47_46, psh0, psh1, psh3, true_or, or_true, eq_self, Option.bind_some, List.length_nil, List.length_cons, Nat.reduceAdd, Nat.reduceLeDiff, Nat.zero_le, ↓reduceIte, Int.reduceLT, Int.reduceEq, Int.reduceLE, Int.reduceNeg, Int.reduceAdd, Int.reduceMul, Int.reduceSub, ne_eq, not_true_eq_false, not_false_eq_true, and_true, true_and, and_false, false_and, c3lt, c3gt, c3eq, Bool.false_eq_true, isK_wr, inA_wr, inR_wr, kk, g60, g62, g61, h7, w1, g2]
theorem x_cmp0 (kk : isK a 110 5) (g0 : EV d 42 0 [(2, 110), (0, 60)] [] a = some ((0, 0), a)) (g1 : EV d 42 0 [(2, 110), (0, 62)] [] a = some ((0, 0), a)) (g2 : EV d 42 0 [(2, 110), (0, 61)] [] a = some ((0, 0), a)) (g3 : EV d 40 0 [(2, 110)] [] a = some ((3, 0), a')) : EV (d + 1) 47 0 [(2, 110), (3, 0)] [] a = some ((0, 61), a') := by
  simp only [e47_0, e47_1, e47_3, e47_6, e47_9, e47_10, e47_12, e47_15, e47_18, e47_19, e47_21, e47_24, e47_27, e47_28, e47_31, e47_32, e47_33, e47_34, e47_35, e47_38, e47_39, e47_40, e47_41, e47_44, e47_46, psh0, psh1, psh3, true_or, or_true, eq_self, Option.bind_some, List.length_nil, List.length_cons, Nat.reduceAdd, Nat.reduceLeDiff, Nat.zero_le, ↓reduceIte, Int.reduceLT, Int.reduceEq, Int.reduceLE, Int.reduceNeg, Int.reduceAdd, Int.reduceMul, Int.reduceSub, ne_eq, not_true_eq_false, not_false_eq_true, and_true, true_and, and_false, false_and, c3lt, c3gt, c3eq, Bool.false_eq_true, isK_wr, inA_wr, inR_wr, kk, g0, g1, g2, g3]
theorem pc_both (q : QQ N a b) : ∃ v a' b', EV (d + 2) 47 0 [(2, 110), (3, 0)] [] a = some ((0, v), a') ∧ EV (d' + 2) 215 0 [(2, 235), (0, cq b)] [] b = some ((3, 0), b') ∧ Stp2 N a b a' b' ∧ (mrd a' 110 9 = 0 → mrd b 235 14 = 3 ∧ v = mrd b 235 17) := by
  have e12 := q.e12
  have ge := q.ge
  have g := fun x => x_isSign (d := d + 1) (x := x) q
  unfold cq
  by_cases c : mrd a 110 9 = 0
  · by_cases c2 : mrd b 235 14 = 3 ∧ (mrd b 235 17 = 60 ∨ mrd b 235 17 = 62 ∨ mrd b 235 17 = 61)
    · obtain ⟨a', b', y1, y2, y3, y4, y5, y6, y7⟩ := adv2 (d := d) (d' := d') q c (by omega)
      have t3 := (q.tg c).2.2.1 (by omega)
      have t4 := t3.2.2.2 (by omega)
      have t7 := ((q.tg c).2.2.2.2.2.2 c2.1).1
      refine ⟨mrd b 235 17, a', b', x_cmp1 q.k c2.2 (fun y => ?_) t7 y1, ?_, ⟨y3, y4, y5, fun _ => ⟨c, by omega⟩, fun z => absurd c z⟩, fun _ => ⟨c2.1, rfl⟩⟩
      · have := g y
        simp only [c, c2.1, true_and] at this
        exact this
      · rw [if_pos c2]
        exact m_must1 q.km (by omega) y2
    · obtain ⟨a', b', y1, y2, y3, y4, y5, y6, y7⟩ := mis_both (d := d) (d' := d') q
      have n : ∀ y, y = 60 ∨ y = 62 ∨ y = 61 → EV (d + 1) 42 0 [(2, 110), (0, y)] [] a = some ((0, 0), a) := fun y hy => by
        have := g y
        rw [if_neg (fun z => c2 ⟨z.2.1, by omega⟩)] at this
        exact this
      refine ⟨61, a', b', x_cmp0 q.k (n 60 (by omega)) (n 62 (by omega)) (n 61 (by omega)) y1, ?_, ⟨y3, y4, y5, fun z => absurd z y6, y7⟩, fun z => absurd z y6⟩
      rw [if_neg c2]
      exact m_mustF q.km (by omega) y2
  · obtain ⟨a', b', y1, y2, y3, y4, y5, y6, y7⟩ := mis_both (d := d) (d' := d') q
    obtain ⟨rfl, rfl⟩ := y7 c
    have n : ∀ y, EV (d + 1) 42 0 [(2, 110), (0, y)] [] a' = some ((0, 0), a') := fun y => by
      have := g y
      rw [if_neg (fun z => c z.1)] at this
      exact this
    exact ⟨61, a', b', x_cmp0 q.k (n 60) (n 62) (n 61) y1, m_must0 q.km (by omega), ⟨y3, y4, y5, fun z => absurd z y6, y7⟩, fun z => absurd z y6⟩
end

/-! copying a school: the class -/
def A7 : List Int := [17, 50, 83, 119, 168, 201, 228]
theorem a7_ref {m : Int → Int → Int} (hr : RRef m) {a : Int} (ha : a ∈ A7) : m a 0 = a + 1 ∧ m a 1 = a + 2 ∧ m a 2 = a + 3 ∧ m a 3 = a + 4 ∧ m a 4 = a + 5 := by
  have : ∀ a ∈ A7, (a, 0, a + 1) ∈ refT ∧ (a, 1, a + 2) ∈ refT ∧ (a, 2, a + 3) ∈ refT ∧ (a, 3, a + 4) ∈ refT ∧ (a, 4, a + 5) ∈ refT := by decide +kernel
  obtain ⟨h0, h1, h2, h3, h4⟩ := this a ha
  exact ⟨hr _ h0, hr _ h1, hr _ h2, hr _ h3, hr _ h4⟩
theorem a7_K {h : AM} (hp : Shp h) {a : Int} (ha : a ∈ A7) : isK h a 0 ∧ ∀ j, 1 ≤ j → j ≤ 5 → isK h (a + j) 16 ∧ mln h (a + j) = 30 := by
  have h1 : ∀ a ∈ A7, (a, 0, 9) ∈ shT := by decide +kernel
  have h2 : ∀ a ∈ A7, ∀ j, j < 6 → 1 ≤ j → (a + ((j : Nat) : Int), 16, 30) ∈ shT := by decide +kernel
  refine ⟨(Shp_K hp (h1 a ha)).1, fun j j0 j1 => ?_⟩
  have := h2 a ha j.toNat (by omega) (by omega)
  rw [Int.toNat_of_nonneg (by omega)] at this
  exact Shp_K hp this
/-- the cells that a copy to the school at s (age at a) may write -/
def WC (s a b q : Int) : Prop := (b = s ∧ 5 ≤ q ∧ q ≤ 8) ∨ (b = a ∧ 6 ≤ q ∧ q ≤ 7) ∨ (a + 1 ≤ b ∧ b ≤ a + 5) ∨ (s + 13 ≤ b ∧ b ≤ s + 24) ∨ (s + 25 ≤ b ∧ b ≤ s + 32 ∧ (q ≠ 0 ∨ (b - s) % 2 = 0))
theorem RRef_WC {m m' : Int → Int → Int} {s a : Int} (hs : s ∈ S6) (ha : a ∈ A7) (hf : ∀ b q, ¬ WC s a b q → m' b q = m b q) (hr : RRef m) : RRef m' := fun q hq => by
  have h1 : ∀ s ∈ S6, ∀ q ∈ refT, ¬ ((q.1 = s ∧ 5 ≤ q.2.1 ∧ q.2.1 ≤ 8) ∨ (s + 13 ≤ q.1 ∧ q.1 ≤ s + 24) ∨ (s + 25 ≤ q.1 ∧ q.1 ≤ s + 32 ∧ (q.2.1 ≠ 0 ∨ (q.1 - s) % 2 = 0))) := by decide +kernel
  have h2 : ∀ a ∈ A7, ∀ q ∈ refT, ¬ ((q.1 = a ∧ 6 ≤ q.2.1 ∧ q.2.1 ≤ 7) ∨ (a + 1 ≤ q.1 ∧ q.1 ≤ a + 5)) := by decide +kernel
  rw [hf _ _ ?_]
  · exact hr q hq
  · have := h1 s hs q hq
    have := h2 a ha q hq
    unfold WC
    omega
theorem Shp_eq {h g : AM} (e : g.2 = h.2) (hp : Shp h) : Shp g := by
  unfold Shp mnx at hp ⊢
  rw [e]
  exact hp
theorem isK_eq {h g : AM} (e : g.2 = h.2) {r : Int} {c : Nat} : isK g r c ↔ isK h r c := by
  unfold isK mnx mkn
  rw [e]
section
variable {d : Nat} {h : AM} {s1 s2 a1 a2 r p a b c k t u i j v w x y z : Int}
theorem x_lcopy (kr : isK h r 2) (kp : isK h p 2) (hn : p ≠ r) (hv : mrd h p 2 = 0 ∨ mrd h p 2 = 1) : ∃ g, EV d 16 0 [(2, r), (2, p)] [] h = some ((3, 0), g) ∧ g.2 = h.2 ∧ (∀ b q, b ≠ r → mrd g b q = mrd h b q) ∧ ∀ q, 0 ≤ q → q ≤ 6 → mrd g r q = mrd h p q := by
  refine ⟨mwr (mwr (mwr (mwr (mwr (mwr (mwr h r 0 (mrd h p 0)) r 1 (mrd h p 1)) r 2 (mrd h p 2)) r 3 (mrd h p 3)) r 4 (mrd h p 4)) r 5 (mrd h p 5)) r 6 (mrd h p 6), ?_, rfl, fun b q hb => ?_, fun q q0 q1 => ?_⟩
  · simp only [e16_0, e16_1, e16_2, e16_5, e16_8, e16_9, e16_10, e16_13, e16_16, e16_17, e16_18, e16_21, e16_24, e16_25, e16_26, e16_29, e16_32, e16_33, e16_34, e16_37, e16_40, e16_41, e16_42, e16_45, e16_48, e16_49, e16_50, e16_53, e16_56, psh0, psh1, psh3, true_or, or_true, eq_self, Option.bind_some, List.length_nil, List.length_cons, Nat.reduceAdd, Nat.reduceLeDiff, Nat.zero_le, ↓reduceIte, Int.reduceLT, Int.reduceEq, Int.reduceLE, Int.reduceNeg, Int.reduceAdd, Int.reduceMul, Int.reduceSub, ne_eq, not_true_eq_false, not_false_eq_true, and_true, true_and, and_false, false_and, c3lt, c3gt, c3eq, Bool.false_eq_true, isK_wr, inA_wr, inR_wr, kr, kp, rdn1 hn, hv]
  · simp only [rdn1 hb]
  · rcases (show q = 0 ∨ q = 1 ∨ q = 2 ∨ q = 3 ∨ q = 4 ∨ q = 5 ∨ q = 6 by omega) with rfl | rfl | rfl | rfl | rfl | rfl | rfl <;> simp [rd_wr]
theorem x_ccopy (kr : isK h r 1) (kp : isK h p 1) (er : mrd h r 0 = r + 1) (ep : mrd h p 0 = p + 1) (kr1 : isK h (r + 1) 16) (kp1 : isK h (p + 1) 16) (lr : mln h (r + 1) = 12) (lp : mln h (p + 1) = 12) (hn : p + 1 < r ∨ r + 1 < p) : ∃ g, EV (d + 1) 10 0 [(2, r), (2, p)] [] h = some ((3, 0), g) ∧ g.2 = h.2 ∧ (∀ b q, b ≠ r → b ≠ r + 1 → mrd g b q = mrd h b q) ∧ mrd g r 0 = mrd h r 0 ∧ (∀ q, 1 ≤ q → q ≤ 6 → mrd g r q = mrd h p q) ∧ ∀ q, 0 ≤ q → q < 12 → mrd g (r + 1) q = mrd h (p + 1) q := by
  have n1 : p ≠ r := by omega
  have n2 : p ≠ r + 1 := by omega
  have n3 : p + 1 ≠ r := by omega
  obtain ⟨g, hg⟩ : ∃ g, g = mwr (mwr (mwr (mwr (mwr (mwr h r 1 (mrd h p 1)) r 2 (mrd h p 2)) r 3 (mrd h p 3)) r 4 (mrd h p 4)) r 5 (mrd h p 5)) r 6 (mrd h p 6) := ⟨_, rfl⟩
  have e2 : g.2 = h.2 := by rw [hg]; rfl
  have c1 : 12 ≤ mln g (p + 1) := by
    rw [hg]; show 12 ≤ mln h (p + 1); omega
  have c2 : 12 ≤ mln g (r + 1) := by
    rw [hg]; show 12 ≤ mln h (r + 1); omega
  have c3 : isK g (p + 1) 16 ∧ isK g (r + 1) 16 := ⟨(isK_eq e2).mpr kp1, (isK_eq e2).mpr kr1⟩
  have g0 : mrd g r 0 = r + 1 := by rw [hg]; simp [rd_wr, er]
  have gp : mrd g p 0 = p + 1 := by rw [hg]; simp only [rdn1 n1, ep]
  have k1 : isK g p 1 := (isK_eq e2).mpr kp
  have k2 : isK g r 1 := (isK_eq e2).mpr kr
  have e48 : EV (d + 1) 10 0 [(2, r), (2, p)] [] h = EV (d + 1) 10 48 [(2, r), (2, p)] [] g := by
    rw [hg]
    simp only [e10_0, e10_1, e10_2, e10_5, e10_8, e10_9, e10_10, e10_13, e10_16, e10_17, e10_18, e10_21, e10_24, e10_25, e10_26, e10_29, e10_32, e10_33, e10_34, e10_37, e10_40, e10_41, e10_42, e10_45, e10_49, e10_52, e10_53, e10_54, e10_57, e10_58, e10_60, e10_63, psh0, psh1, psh3, true_or, or_true, eq_self, Option.bind_some, List.length_nil, List.length_cons, Nat.reduceAdd, Nat.reduceLeDiff, Nat.zero_le, ↓reduceIte, Int.reduceLT, Int.reduceEq, Int.reduceLE, Int.reduceNeg, Int.reduceAdd, Int.reduceMul, Int.reduceSub, ne_eq, not_true_eq_false, not_false_eq_true, and_true, true_and, and_false, false_and, c3lt, c3gt, c3eq, Bool.false_eq_true, isK_wr, inA_wr, inR_wr, kr, kp, rdn1 n1]
  refine ⟨mcp g (p + 1) 0 (r + 1) 0 12, ?_, e2, fun b q hb hb1 => ?_, ?_, fun q q0 q1 => ?_, fun q q0 q1 => ?_⟩
  · rw [e48, e10_48]
    simp only [e10_0, e10_1, e10_2, e10_5, e10_8, e10_9, e10_10, e10_13, e10_16, e10_17, e10_18, e10_21, e10_24, e10_25, e10_26, e10_29, e10_32, e10_33, e10_34, e10_37, e10_40, e10_41, e10_42, e10_45, e10_49, e10_52, e10_53, e10_54, e10_57, e10_58, e10_60, e10_63, psh0, psh1, psh3, true_or, or_true, eq_self, Option.bind_some, List.length_nil, List.length_cons, Nat.reduceAdd, Nat.reduceLeDiff, Nat.zero_le, ↓reduceIte, Int.reduceLT, Int.reduceEq, Int.reduceLE, Int.reduceNeg, Int.reduceAdd, Int.reduceMul, Int.reduceSub, ne_eq, not_true_eq_false, not_false_eq_true, and_true, true_and, and_false, false_and, c3lt, c3gt, c3eq, Bool.false_eq_true, isK_wr, inA_wr, inR_wr, k1, k2, g0, gp, c1, c2, c3, Int.le_refl, Int.reduceLE]
  · rw [rdc hb1, hg]
    simp only [rdn1 hb]
  · rw [rdc (by omega), g0, er]
  · rw [rdc (by omega), hg]
    rcases (show q = 1 ∨ q = 2 ∨ q = 3 ∨ q = 4 ∨ q = 5 ∨ q = 6 by omega) with rfl | rfl | rfl | rfl | rfl | rfl <;> simp [rd_wr]
  · rw [rd_cp, if_pos ⟨rfl, by omega, by omega⟩, hg]
    simp only [rdn1 n3, Int.zero_add, Int.sub_zero]
theorem x_acopy (hp : Shp h) (hr : RRef h.1) (h2 : r ∈ A7) (h1 : p ∈ A7) (hn : r ≠ p) (hv : mrd h p 6 = 0 ∨ mrd h p 6 = 1) : ∃ g, EV (d + 1) 1 0 [(2, r), (2, p)] [] h = some ((3, 0), g) ∧ g.2 = h.2 ∧ (∀ b q, ¬ (b = r ∧ 6 ≤ q ∧ q ≤ 7) → ¬ (r + 1 ≤ b ∧ b ≤ r + 5) → mrd g b q = mrd h b q) ∧ (mrd g r 6 = mrd h p 6 ∧ mrd g r 7 = mrd h p 7) ∧ ∀ j, 1 ≤ j → j ≤ 5 → ∀ q, 0 ≤ q → q < 30 → mrd g (r + j) q = mrd h (p + j) q := by
  have hd : r + 6 < p ∨ p + 6 < r := by
    have : ∀ r ∈ A7, ∀ p ∈ A7, r ≠ p → r + 6 < p ∨ p + 6 < r := by decide +kernel
    exact this r h2 p h1 hn
  have n0 : ∀ i, 1 ≤ i → i ≤ 5 → p ≠ r + i := fun i _ _ => by omega
  have n0' : ∀ i, 1 ≤ i → i ≤ 5 → r ≠ r + i := fun i _ _ => by omega
  have n1 : p ≠ r := by omega
  obtain ⟨kr, kr1⟩ := a7_K hp h2
  obtain ⟨kp, kp1⟩ := a7_K hp h1
  obtain ⟨r0, r1, r2, r3, r4⟩ := a7_ref (m := mrd h) hr h2
  obtain ⟨p0, p1, p2, p3, p4⟩ := a7_ref (m := mrd h) hr h1
  obtain ⟨ka1, la1⟩ := kr1 1 (by decide) (by decide)
  obtain ⟨ka2, la2⟩ := kr1 2 (by decide) (by decide)
  obtain ⟨ka3, la3⟩ := kr1 3 (by decide) (by decide)
  obtain ⟨ka4, la4⟩ := kr1 4 (by decide) (by decide)
  obtain ⟨ka5, la5⟩ := kr1 5 (by decide) (by decide)
  obtain ⟨kb1, lb1⟩ := kp1 1 (by decide) (by decide)
  obtain ⟨kb2, lb2⟩ := kp1 2 (by decide) (by decide)
  obtain ⟨kb3, lb3⟩ := kp1 3 (by decide) (by decide)
  obtain ⟨kb4, lb4⟩ := kp1 4 (by decide) (by decide)
  obtain ⟨kb5, lb5⟩ := kp1 5 (by decide) (by decide)
  have ml : ∀ (h : AM) (a i b j n x : Int), mln (mcp h a i b j n) x = mln h x := fun _ _ _ _ _ _ _ => rfl
  obtain ⟨g, hg⟩ : ∃ g, g = mcp (mcp (mcp (mcp (mcp h (p + 1) 0 (r + 1) 0 30) (p + 2) 0 (r + 2) 0 30) (p + 3) 0 (r + 3) 0 30) (p + 4) 0 (r + 4) 0 30) (p + 5) 0 (r + 5) 0 30 := ⟨_, rfl⟩
  have e2 : g.2 = h.2 := by rw [hg]; rfl
  have e75 : EV (d + 1) 1 0 [(2, r), (2, p)] [] h = EV (d + 1) 1 75 [(2, r), (2, p)] [] g := by
    rw [hg]
    simp only [e1_0, e1_1, e1_4, e1_5, e1_6, e1_9, e1_10, e1_12, e1_15, e1_16, e1_19, e1_20, e1_21, e1_24, e1_25, e1_27, e1_30, e1_31, e1_34, e1_35, e1_36, e1_39, e1_40, e1_42, e1_45, e1_46, e1_49, e1_50, e1_51, e1_54, e1_55, e1_57, e1_60, e1_61, e1_64, e1_65, e1_66, e1_69, e1_70, e1_72, e1_76, e1_77, e1_80, e1_83, e1_84, e1_85, e1_88, e1_91, psh0, psh1, psh3, true_or, or_true, eq_self, Option.bind_some, List.length_nil, List.length_cons, Nat.reduceAdd, Nat.reduceLeDiff, Nat.zero_le, ↓reduceIte, Int.reduceLT, Int.reduceEq, Int.reduceLE, Int.reduceNeg, Int.reduceAdd, Int.reduceMul, Int.reduceSub, ne_eq, not_true_eq_false, not_false_eq_true, and_true, true_and, and_false, false_and, c3lt, c3gt, c3eq, Bool.false_eq_true, isK_wr, inA_wr, inR_wr, isK_cp, kr, kp, rdc (n0 1 (by decide) (by decide)), rdc (n0 2 (by decide) (by decide)), rdc (n0 3 (by decide) (by decide)), rdc (n0 4 (by decide) (by decide)), rdc (n0' 1 (by decide) (by decide)), rdc (n0' 2 (by decide) (by decide)), rdc (n0' 3 (by decide) (by decide)), rdc (n0' 4 (by decide) (by decide)), r0, r1, r2, r3, r4, p0, p1, p2, p3, p4, ml, ka1, ka2, ka3, ka4, ka5, kb1, kb2, kb3, kb4, kb5, la1, la2, la3, la4, la5, lb1, lb2, lb3, lb4, lb5, Int.le_refl]
  have gp : ∀ q, mrd g p q = mrd h p q := fun q => by
    rw [hg, rdc (by omega), rdc (by omega), rdc (by omega), rdc (by omega), rdc (by omega)]
  have kgr : isK g r 0 := (isK_eq e2).mpr kr
  have kgp : isK g p 0 := (isK_eq e2).mpr kp
  refine ⟨mwr (mwr g r 6 (mrd h p 6)) r 7 (mrd h p 7), ?_, e2, fun b q hb hc => ?_, ⟨?_, rde⟩, fun j j0 j1 q q0 q1 => ?_⟩
  · rw [e75, e1_75]
    simp only [e1_0, e1_1, e1_4, e1_5, e1_6, e1_9, e1_10, e1_12, e1_15, e1_16, e1_19, e1_20, e1_21, e1_24, e1_25, e1_27, e1_30, e1_31, e1_34, e1_35, e1_36, e1_39, e1_40, e1_42, e1_45, e1_46, e1_49, e1_50, e1_51, e1_54, e1_55, e1_57, e1_60, e1_61, e1_64, e1_65, e1_66, e1_69, e1_70, e1_72, e1_76, e1_77, e1_80, e1_83, e1_84, e1_85, e1_88, e1_91, psh0, psh1, psh3, true_or, or_true, eq_self, Option.bind_some, List.length_nil, List.length_cons, Nat.reduceAdd, Nat.reduceLeDiff, Nat.zero_le, ↓reduceIte, Int.reduceLT, Int.reduceEq, Int.reduceLE, Int.reduceNeg, Int.reduceAdd, Int.reduceMul, Int.reduceSub, ne_eq, not_true_eq_false, not_false_eq_true, and_true, true_and, and_false, false_and, c3lt, c3gt, c3eq, Bool.false_eq_true, isK_wr, inA_wr, inR_wr, kgr, kgp, rdn1 n1, gp, hv]
  · rw [rd_wr, if_neg (by omega), rd_wr, if_neg (by omega), hg, rdc (by omega), rdc (by omega), rdc (by omega), rdc (by omega), rdc (by omega)]
  · rw [rdn2 (by decide), rde]
  · rw [rdn1 (by omega), rdn1 (by omega), hg]
    have z : ∀ x : Int, 0 + (x - 0) = x := fun x => by omega
    rcases (show j = 1 ∨ j = 2 ∨ j = 3 ∨ j = 4 ∨ j = 5 by omega) with rfl | rfl | rfl | rfl | rfl
    · rw [rdc (by omega), rdc (by omega), rdc (by omega), rdc (by omega), rd_cp, if_pos ⟨rfl, by omega, by omega⟩, z]
    · rw [rdc (by omega), rdc (by omega), rdc (by omega), rd_cp, if_pos ⟨rfl, by omega, by omega⟩, z, rdc (by omega)]
    · rw [rdc (by omega), rdc (by omega), rd_cp, if_pos ⟨rfl, by omega, by omega⟩, z, rdc (by omega), rdc (by omega)]
    · rw [rdc (by omega), rd_cp, if_pos ⟨rfl, by omega, by omega⟩, z, rdc (by omega), rdc (by omega), rdc (by omega)]
    · rw [rd_cp, if_pos ⟨rfl, by omega, by omega⟩, z, rdc (by omega), rdc (by omega), rdc (by omega), rdc (by omega)]
end

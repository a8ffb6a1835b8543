/-! feed -/
def bb (x q : Int) : Int := w8 (w8 (i_shr x (24 - 8 * q)))
def TK (h : AM) (o r f F x : Int) : AM := mwr (mwr (mwr (mwr (mwr (mwr (mwr (mwr h o F (bb x 0)) r f (F + 1)) o (F + 1) (bb x 1)) r f (F + 2)) o (F + 2) (bb x 2)) r f (F + 3)) o (F + 3) (bb x 3)) r f (F + 4)
theorem rd_TK {h : AM} {o r f F x a i : Int} (hor : o ≠ r) : mrd (TK h o r f F x) a i = if a = r ∧ i = f then F + 4 else if a = o ∧ F ≤ i ∧ i < F + 4 then bb x (i - F) else mrd h a i := by
  unfold TK
  simp only [rd_wr]
  by_cases c : a = r ∧ i = f
  · rw [if_pos c, if_pos c]
  · simp only [if_neg c]
    by_cases c2 : a = o ∧ F ≤ i ∧ i < F + 4
    · rw [if_pos c2]
      rcases (show i = F ∨ i = F + 1 ∨ i = F + 2 ∨ i = F + 3 by omega) with e | e | e | e
      · rw [if_neg (by omega), if_neg (by omega), if_neg (by omega), if_pos ⟨c2.1, e⟩, e, Int.sub_self]
      · rw [if_neg (by omega), if_neg (by omega), if_pos ⟨c2.1, e⟩, e]
        congr 1; omega
      · rw [if_neg (by omega), if_pos ⟨c2.1, e⟩, e]
        congr 1; omega
      · rw [if_pos ⟨c2.1, e⟩, e]
        congr 1; omega
    · rw [if_neg c2, if_neg (by omega), if_neg (by omega), if_neg (by omega), if_neg (by omega)]
theorem w_24 : w32 24 = 24 := w32_id (by decide) (by decide)
theorem w_16 : w32 16 = 16 := w32_id (by decide) (by decide)
theorem w_8 : w32 8 = 8 := w32_id (by decide) (by decide)
theorem w_0 : w32 0 = 0 := w32_id (by decide) (by decide)
theorem w_3 : w32 3 = 3 := w32_id (by decide) (by decide)
theorem w_2 : w32 2 = 2 := w32_id (by decide) (by decide)
theorem w_1 : w32 1 = 1 := w32_id (by decide) (by decide)
theorem w_m1 : w32 (-1) = -1 := w32_id (by decide) (by decide)
theorem w_m8 : w32 (-8) = -8 := w32_id (by decide) (by decide)
section
variable {d : Nat} {h g : AM} {F x : Int}
set_option maxHeartbeats 4000000 in
theorem x_takeIn (k110 : isK h 110 5) (r0 : mrd h 110 0 = 111) (k111 : isK h 111 17) (l111 : mln h 111 = 900) (hF : mrd h 110 2 = F) (F0 : 0 ≤ F) (F1 : F + 4 ≤ 900) : EV d 33 0 [(2, 110), (0, x), (3, 0)] [] h = some ((3, 0), TK h 111 110 2 F x) := by
  have i0 : inA h 111 17 F := ⟨k111, by omega, by rw [l111]; omega⟩
  have i1 : inA h 111 17 (F + 1) := ⟨k111, by omega, by rw [l111]; omega⟩
  have i2 : inA h 111 17 (F + 2) := ⟨k111, by omega, by rw [l111]; omega⟩
  have i3 : inA h 111 17 (F + 3) := ⟨k111, by omega, by rw [l111]; omega⟩
  have w0 : w32 (F + 1) = F + 1 := w32_id (by omega) (by omega)
  have w1 : w32 (F + 1 + 1) = F + 2 := by rw [w32_id (by omega) (by omega)]; omega
  have w2 : w32 (F + 2 + 1) = F + 3 := by rw [w32_id (by omega) (by omega)]; omega
  have w3 : w32 (F + 3 + 1) = F + 4 := by rw [w32_id (by omega) (by omega)]; omega
  have c0 : F < 900 := by omega
  have c1 : F + 1 < 900 := by omega
  have c2 : F + 2 < 900 := by omega
  have c3 : F + 3 < 900 := by omega
  unfold TK bb
  simp only [e33_0, e33_2, e33_3, e33_4, e33_7, e33_8, e33_11, e33_14, e33_17, e33_18, e33_21, e33_22, e33_25, e33_26, e33_27, e33_28, e33_29, e33_29z, e33_30, e33_31, e33_31i, e33_32, e33_35, e33_36, e33_37, e33_40, e33_43, e33_46, psh0, psh1, psh3, true_or, or_true, eq_self, Option.bind_some, List.length_nil, List.length_cons, Nat.reduceAdd, Nat.reduceLeDiff, Nat.zero_le, ↓reduceIte, Int.reduceLT, Int.reduceEq, Int.reduceLE, Int.reduceNeg, Int.reduceAdd, Int.reduceMul, Int.reduceSub, ne_eq, not_true_eq_false, not_false_eq_true, and_true, true_and, and_false, false_and, c3lt, c3gt, c3eq, Bool.false_eq_true, isK_wr, inA_wr, inR_wr, k110, r0, hF, rd_wr, i0, i1, i2, i3, w0, w1, w2, w3, c0, c1, c2, c3, w_24, w_16, w_8, w_0, w_m8, Int.sub_zero]
set_option maxHeartbeats 4000000 in
theorem m_lay (hm : CM g) (hF : mrd g 235 8 = F) (F0 : 0 ≤ F) (F1 : F + 4 ≤ 900) : EV d 218 0 [(2, 235), (0, x), (3, 0)] [] g = some ((3, 0), TK g 239 235 8 F x) := by
  have m7 : mrd g 235 7 = 239 := rf_235_7 hm.2.2
  have k111 := kn_239 hm.2.1
  have l111 := ln_239 hm.2.1
  have i0 : inA g 239 17 F := ⟨k111, by omega, by rw [l111]; omega⟩
  have i1 : inA g 239 17 (F + 1) := ⟨k111, by omega, by rw [l111]; omega⟩
  have i2 : inA g 239 17 (F + 2) := ⟨k111, by omega, by rw [l111]; omega⟩
  have i3 : inA g 239 17 (F + 3) := ⟨k111, by omega, by rw [l111]; omega⟩
  have w0 : w32 (F + 1) = F + 1 := w32_id (by omega) (by omega)
  have w1 : w32 (F + 1 + 1) = F + 2 := by rw [w32_id (by omega) (by omega)]; omega
  have w2 : w32 (F + 2 + 1) = F + 3 := by rw [w32_id (by omega) (by omega)]; omega
  have w3 : w32 (F + 3 + 1) = F + 4 := by rw [w32_id (by omega) (by omega)]; omega
  unfold TK bb
  simp only [e218_0, e218_1, e218_2, e218_3, e218_6, e218_7, e218_10, e218_11, e218_14, e218_15, e218_17, e218_18, e218_19, e218_20, e218_21, e218_21z, e218_22, e218_23, e218_23i, e218_24, e218_27, e218_28, e218_29, e218_32, e218_35, e218_38, psh0, psh1, psh3, true_or, or_true, eq_self, Option.bind_some, List.length_nil, List.length_cons, Nat.reduceAdd, Nat.reduceLeDiff, Nat.zero_le, ↓reduceIte, Int.reduceLT, Int.reduceEq, Int.reduceLE, Int.reduceNeg, Int.reduceAdd, Int.reduceMul, Int.reduceSub, ne_eq, not_true_eq_false, not_false_eq_true, and_true, true_and, and_false, false_and, c3lt, c3gt, c3eq, Bool.false_eq_true, isK_wr, inA_wr, inR_wr, hm.1, m7, hF, rd_wr, i0, i1, i2, i3, w0, w1, w2, w3, w_24, w_16, w_8, w_0, w_3, w_2, w_1, w_m1, Int.sub_zero]
end
def fdO : List Int := [111, 239]
def fdC : List (Int × Int) := [(110, 2), (235, 8)]
theorem Rel_tap {m m' : Int → Int → Int} (hf : FrE fdO fdC 0 0 m m') (h : Rel m) (ht : RTap m') : Rel m' := by
  obtain ⟨h1, h2, h3, h4, h5, h6, h7, h8, h9, h10⟩ := h
  exact Rel_mk (RRef_E hf (by decide +kernel) h1) (RNum_E hf (by decide +kernel) h2) (RTrys_E hf (by decide +kernel) h3) ht (RPln_E hf (by decide +kernel) h5) (RLiv_E hf (by decide +kernel) h6) (RFst_E hf (by decide +kernel) h7) (RPtr_E hf (by decide +kernel) h8) (RCur_E hf (by decide +kernel) (by decide) (by decide) h8 h9) (RMrk_E hf (by decide +kernel) (by decide) (by decide) h10)
theorem RRef_TK {h : AM} {o r f F x : Int} (hor : o ≠ r) (h1 : refT.all (fun q => !(q.1 == o)) = true) (h2 : refT.all (fun q => !(q.1 == r && q.2.1 == f)) = true) (hr : RRef h.1) : RRef (TK h o r f F x).1 := fun q hq => by
  have a1 := List.all_eq_true.mp h1 q hq
  have a2 := List.all_eq_true.mp h2 q hq
  refine Eq.trans ?_ (hr q hq)
  show mrd (TK h o r f F x) q.1 q.2.1 = _
  rw [rd_TK hor, if_neg, if_neg]
  · rfl
  · rintro ⟨z1, -⟩
    simp [z1] at a1
  · rintro ⟨z1, z2⟩
    simp [z1, z2] at a2
theorem op_feed : Op_feed Inv := by
  intro d h a0 a1 a2 a3 a4 hI i0 i1 i2 i3 i4
  obtain ⟨s, e8, hs, k0, kM, cs, ds⟩ := ctx hI
  have ds' := ds
  have ks := cs.1
  have r1 := cs.2.2.1
  have r2 := cs.2.2.2.1
  have r3 := cs.2.2.2.2.1
  have kl := cs.2.2.2.2.2.2.2.2.2.2.2.1
  have kc := cs.2.2.2.2.2.2.2.2.2.2.2.2
  obtain ⟨d5, d6, d7, d8, dl, dc⟩ := ds
  have hm : ∀ v, CM (mwr (mwr (mwr h 0 11 v) 235 1 0) 235 0 0) := fun v => CM_q (CM_of hI)
  have x1 : mrd h 0 1 = 110 := rf_0_1 hI.2.1.1
  have k110 := kn_110 hI.1
  have r0 : mrd h 110 0 = 111 := rf_110_0 hI.2.1.1
  obtain ⟨⟨f1, f2, f3⟩, f4⟩ : RTap (mrd h) := hI.2.1.2.2.2.1
  obtain ⟨F, hF⟩ : ∃ F, mrd h 110 2 = F := ⟨_, rfl⟩
  have hF2 : mrd h 235 8 = F := by rw [← f1, hF]
  rw [hF] at f2 f3 f4
  have w20 : w32 (F + 20) = F + 20 := w32_id (by omega) (by omega)
  by_cases c : 900 < F + 20
  · refine ⟨-1, h, mwr h 235 1 0, ?_, ?_, Inv_m1 hI⟩
    · simp only [e111_0, e111_1, e111_4, e111_7, e111_9, e111_10, e111_13, e111_16, e111_17, e111_18, e111_19, e111_22, e111_23, e111_26, e111_27, e111_30, e111_31, e111_34, e111_35, e111_38, e111_39, e111_42, e111_43, e111_46, e111_48, e111_51, e111_52, e111_55, e111_57, e111_60, e111_61, e111_64, e111_67, psh0, psh1, psh3, true_or, or_true, eq_self, Option.bind_some, List.length_nil, List.length_cons, Nat.reduceAdd, Nat.reduceLeDiff, Nat.zero_le, ↓reduceIte, Int.reduceLT, Int.reduceEq, Int.reduceLE, Int.reduceNeg, Int.reduceAdd, Int.reduceMul, Int.reduceSub, ne_eq, not_true_eq_false, not_false_eq_true, and_true, true_and, and_false, false_and, c3lt, c3gt, c3eq, Bool.false_eq_true, isK_wr, inA_wr, inR_wr, k0, x1, k110, hF, w20, c]
    · simp only [e217_0, e217_1, e217_2, e217_5, e217_6, e217_9, e217_11, e217_12, e217_15, e217_18, e217_19, e217_20, e217_21, e217_22, e217_25, e217_26, e217_27, e217_30, e217_31, e217_32, e217_35, e217_36, e217_38, e217_41, e217_42, e217_44, e217_47, e217_48, e217_51, psh0, psh1, psh3, true_or, or_true, eq_self, Option.bind_some, List.length_nil, List.length_cons, Nat.reduceAdd, Nat.reduceLeDiff, Nat.zero_le, ↓reduceIte, Int.reduceLT, Int.reduceEq, Int.reduceLE, Int.reduceNeg, Int.reduceAdd, Int.reduceMul, Int.reduceSub, ne_eq, not_true_eq_false, not_false_eq_true, and_true, true_and, and_false, false_and, c3lt, c3gt, c3eq, Bool.false_eq_true, isK_wr, inA_wr, inR_wr, kM, rd_wr, hF2, w20, c]
  · obtain ⟨h5, hh5⟩ : ∃ h5, h5 = TK (TK (TK (TK (TK h 111 110 2 F a0) 111 110 2 (F + 4) a1) 111 110 2 (F + 4 + 4) a2) 111 110 2 (F + 4 + 4 + 4) a3) 111 110 2 (F + 4 + 4 + 4 + 4) a4 := ⟨_, rfl⟩
    have n1 : (111 : Int) ≠ 110 := by decide
    have n2 : (239 : Int) ≠ 235 := by decide
    have v : ∀ (g : AM) F x, mrd (TK g 111 110 2 F x) 110 2 = F + 4 := fun g F x => by rw [rd_TK n1, if_pos ⟨rfl, rfl⟩]
    have v0 : ∀ (g : AM) F x, mrd (TK g 111 110 2 F x) 110 0 = mrd g 110 0 := fun g F x => by rw [rd_TK n1, if_neg (by omega), if_neg (by omega)]
    have v1 : ∀ (g : AM) F x, mrd (TK g 111 110 2 F x) 0 1 = mrd g 0 1 := fun g F x => by rw [rd_TK n1, if_neg (by omega), if_neg (by omega)]
    have kx : ∀ (g : AM) (o r f F x b : Int) (c : Nat), isK (TK g o r f F x) b c ↔ isK g b c := fun g o r f F x b c => Iff.rfl
    have t0 := x_takeIn (d := d + 59) (x := a0) k110 r0 (kn_111 hI.1) (ln_111 hI.1) hF f2 (by omega)
    have t1 := x_takeIn (d := d + 59) (h := TK h 111 110 2 F a0) (x := a1) k110 ((v0 _ _ _).trans r0) (kn_111 hI.1) (ln_111 hI.1) (v _ _ _) (by omega) (by omega)
    have t2 := x_takeIn (d := d + 59) (h := TK (TK h 111 110 2 F a0) 111 110 2 (F + 4) a1) (x := a2) k110 ((v0 _ _ _).trans ((v0 _ _ _).trans r0)) (kn_111 hI.1) (ln_111 hI.1) (v _ _ _) (by omega) (by omega)
    have t3 := x_takeIn (d := d + 59) (h := TK (TK (TK h 111 110 2 F a0) 111 110 2 (F + 4) a1) 111 110 2 (F + 4 + 4) a2) (x := a3) k110 ((v0 _ _ _).trans ((v0 _ _ _).trans ((v0 _ _ _).trans r0))) (kn_111 hI.1) (ln_111 hI.1) (v _ _ _) (by omega) (by omega)
    have t4 := x_takeIn (d := d + 59) (h := TK (TK (TK (TK h 111 110 2 F a0) 111 110 2 (F + 4) a1) 111 110 2 (F + 4 + 4) a2) 111 110 2 (F + 4 + 4 + 4) a3) (x := a4) k110 ((v0 _ _ _).trans ((v0 _ _ _).trans ((v0 _ _ _).trans ((v0 _ _ _).trans r0)))) (kn_111 hI.1) (ln_111 hI.1) (v _ _ _) (by omega) (by omega)
    rw [← hh5] at t4
    have z5 : mrd h5 110 2 = F + 20 := by rw [hh5, v]; omega
    have x5 : mrd h5 0 1 = 110 := by rw [hh5, v1, v1, v1, v1, v1]; exact x1
    have k5 : isK h5 110 5 := by rw [hh5]; exact k110
    have k05 : isK h5 0 10 := by rw [hh5]; exact k0
    have cm5 : CM h5 := by
      rw [hh5]
      have rr : ∀ (g : AM) F x, RRef g.1 → RRef (TK g 111 110 2 F x).1 := fun g F x hg => RRef_TK n1 (by decide +kernel) (by decide +kernel) hg
      exact ⟨kM, hI.1, rr _ _ _ (rr _ _ _ (rr _ _ _ (rr _ _ _ (rr _ _ _ hI.2.1.1))))⟩
    obtain ⟨g0, hg0⟩ : ∃ g0, g0 = mwr h5 235 1 0 := ⟨_, rfl⟩
    have cmg : CM g0 := by rw [hg0]; exact CM_wr rn_m1 cm5
    have u8 : mrd g0 235 8 = F := by
      rw [hg0, rdn2 (by decide), hh5]
      simp only [rd_TK n1]
      simp only [Int.reduceEq, false_and, if_false]
      exact hF2
    have rr2 : ∀ (g : AM) F x, CM g → CM (TK g 239 235 8 F x) := fun g F x hg => ⟨hg.1, hg.2.1, RRef_TK n2 (by decide +kernel) (by decide +kernel) hg.2.2⟩
    have u : ∀ (g : AM) F x, mrd (TK g 239 235 8 F x) 235 8 = F + 4 := fun g F x => by rw [rd_TK n2, if_pos ⟨rfl, rfl⟩]
    have s0 := m_lay (d := d + 59) (x := a0) cmg u8 f2 (by omega)
    have c1 := rr2 _ F a0 cmg
    have s1 := m_lay (d := d + 59) (x := a1) c1 (u _ _ _) (by omega) (by omega)
    have c2 := rr2 _ (F + 4) a1 c1
    have s2 := m_lay (d := d + 59) (x := a2) c2 (u _ _ _) (by omega) (by omega)
    have c3 := rr2 _ (F + 4 + 4) a2 c2
    have s3 := m_lay (d := d + 59) (x := a3) c3 (u _ _ _) (by omega) (by omega)
    have c4 := rr2 _ (F + 4 + 4 + 4) a3 c3
    have s4 := m_lay (d := d + 59) (x := a4) c4 (u _ _ _) (by omega) (by omega)
    have c5 := rr2 _ (F + 4 + 4 + 4 + 4) a4 c4
    obtain ⟨g5, hg5⟩ : ∃ g5, g5 = TK (TK (TK (TK (TK g0 239 235 8 F a0) 239 235 8 (F + 4) a1) 239 235 8 (F + 4 + 4) a2) 239 235 8 (F + 4 + 4 + 4) a3) 239 235 8 (F + 4 + 4 + 4 + 4) a4 := ⟨_, rfl⟩
    rw [← hg5] at s4 c5
    have y8 : mrd g5 235 8 = F + 20 := by rw [hg5, u]; omega
    refine ⟨F + 20, h5, g5, ?_, ?_, ?_⟩
    · simp only [e111_0, e111_1, e111_4, e111_7, e111_9, e111_10, e111_13, e111_16, e111_17, e111_18, e111_19, e111_22, e111_23, e111_26, e111_27, e111_30, e111_31, e111_34, e111_35, e111_38, e111_39, e111_42, e111_43, e111_46, e111_48, e111_51, e111_52, e111_55, e111_57, e111_60, e111_61, e111_64, e111_67, psh0, psh1, psh3, true_or, or_true, eq_self, Option.bind_some, List.length_nil, List.length_cons, Nat.reduceAdd, Nat.reduceLeDiff, Nat.zero_le, ↓reduceIte, Int.reduceLT, Int.reduceEq, Int.reduceLE, Int.reduceNeg, Int.reduceAdd, Int.reduceMul, Int.reduceSub, ne_eq, not_true_eq_false, not_false_eq_true, and_true, true_and, and_false, false_and, c3lt, c3gt, c3eq, Bool.false_eq_true, isK_wr, inA_wr, inR_wr, k0, x1, k110, hF, w20, c, kx, v1, t0, t1, t2, t3, t4, k05, x5, k5, z5]
    · simp only [e217_0, e217_1, e217_2, e217_5, e217_6, e217_9, e217_11, e217_12, e217_15, e217_18, e217_19, e217_20, e217_21, e217_22, e217_25, e217_26, e217_27, e217_30, e217_31, e217_32, e217_35, e217_36, e217_38, e217_41, e217_42, e217_44, e217_47, e217_48, e217_51, psh0, psh1, psh3, true_or, or_true, eq_self, Option.bind_some, List.length_nil, List.length_cons, Nat.reduceAdd, Nat.reduceLeDiff, Nat.zero_le, ↓reduceIte, Int.reduceLT, Int.reduceEq, Int.reduceLE, Int.reduceNeg, Int.reduceAdd, Int.reduceMul, Int.reduceSub, ne_eq, not_true_eq_false, not_false_eq_true, and_true, true_and, and_false, false_and, c3lt, c3gt, c3eq, Bool.false_eq_true, isK_wr, inA_wr, inR_wr, cm5.1, ← hg0, cmg.1, u8, w20, c, kx, s0, s1, s2, s3, s4, c5.1, y8]
    · have hr : ∀ a i, mrd g5 a i = if a = 235 ∧ i = 8 then F + 20 else if a = 239 ∧ F ≤ i ∧ i < F + 20 then (if i < F + 4 then bb a0 (i - F) else if i < F + 8 then bb a1 (i - F - 4) else if i < F + 12 then bb a2 (i - F - 8) else if i < F + 16 then bb a3 (i - F - 12) else bb a4 (i - F - 16)) else if a = 235 ∧ i = 1 then 0 else if a = 110 ∧ i = 2 then F + 20 else if a = 111 ∧ F ≤ i ∧ i < F + 20 then (if i < F + 4 then bb a0 (i - F) else if i < F + 8 then bb a1 (i - F - 4) else if i < F + 12 then bb a2 (i - F - 8) else if i < F + 16 then bb a3 (i - F - 12) else bb a4 (i - F - 16)) else mrd h a i := by
        have key : ∀ (g : AM) (o r f : Int), o ≠ r → ∀ a i, mrd (TK (TK (TK (TK (TK g o r f F a0) o r f (F + 4) a1) o r f (F + 4 + 4) a2) o r f (F + 4 + 4 + 4) a3) o r f (F + 4 + 4 + 4 + 4) a4) a i = if a = r ∧ i = f then F + 20 else if a = o ∧ F ≤ i ∧ i < F + 20 then (if i < F + 4 then bb a0 (i - F) else if i < F + 8 then bb a1 (i - F - 4) else if i < F + 12 then bb a2 (i - F - 8) else if i < F + 16 then bb a3 (i - F - 12) else bb a4 (i - F - 16)) else mrd g a i := by
          intro g o r f hor a i
          simp only [rd_TK hor]
          by_cases c : a = r ∧ i = f
          · rw [if_pos c, if_pos c]; omega
          · simp only [if_neg c]
            by_cases c2 : a = o ∧ F ≤ i ∧ i < F + 20
            · rw [if_pos c2]
              by_cases q1 : i < F + 4
              · rw [if_pos q1, if_neg (by omega), if_neg (by omega), if_neg (by omega), if_neg (by omega), if_pos ⟨c2.1, by omega⟩]
              rw [if_neg q1]
              by_cases q2 : i < F + 8
              · rw [if_pos q2, if_neg (by omega), if_neg (by omega), if_neg (by omega), if_pos ⟨c2.1, by omega⟩]
                congr 1; omega
              rw [if_neg q2]
              by_cases q3 : i < F + 12
              · rw [if_pos q3, if_neg (by omega), if_neg (by omega), if_pos ⟨c2.1, by omega⟩]
                congr 1; omega
              rw [if_neg q3]
              by_cases q4 : i < F + 16
              · rw [if_pos q4, if_neg (by omega), if_pos ⟨c2.1, by omega⟩]
                congr 1; omega
              · rw [if_neg q4, if_pos ⟨c2.1, by omega⟩]
                congr 1; omega
            · rw [if_neg c2, if_neg (by omega), if_neg (by omega), if_neg (by omega), if_neg (by omega), if_neg (by omega)]
        intro a i
        rw [hg5, key _ 239 235 8 n2, hg0, rd_wr, hh5, key _ 111 110 2 n1]
      refine Inv_mk hI (Rel_tap (m := h.1) (fun a i y5 y6 => ?_) hI.2.1 ?_) ?_ c5.2.1 (RSum_eq (h := h) (by rw [hg5, hg0, hh5]; rfl) ?_ hI.2.2.2.1) (by rw [hg5, hg0, hh5]; rfl)
      · show mrd g5 a i = mrd h a i
        rw [hr, if_neg, if_neg, if_neg, if_neg, if_neg]
        · intro z; exact y6 (Or.inl (by rw [z.1]; decide))
        · intro z; exact y6 (Or.inr (Or.inl (by rw [z.1, z.2]; decide)))
        · intro z; exact y5 (by rw [z.1, z.2]; exact Scr_m1)
        · intro z; exact y6 (Or.inl (by rw [z.1]; decide))
        · intro z; exact y6 (Or.inr (Or.inl (by rw [z.1, z.2]; decide)))
      · have e1 : g5.1 110 2 = F + 20 := by
          show mrd g5 110 2 = _
          rw [hr]
          simp
        have e2 : g5.1 235 8 = F + 20 := y8
        refine ⟨⟨by rw [e1, e2], by rw [e1]; omega, by rw [e1]; omega⟩, fun i j0 j1 => ?_⟩
        rw [e1] at j1
        show mrd g5 111 i = mrd g5 239 i
        rw [hr, hr]
        by_cases q : F ≤ i
        · simp only [Int.reduceEq, false_and, true_and, q, j1, and_self, if_true, if_false]
        · rw [if_neg (by omega), if_neg (by omega), if_neg (by omega), if_neg (by omega), if_neg (by omega), if_neg (by omega), if_neg (by omega), if_neg (by omega), if_neg (by omega), if_neg (by omega)]
          exact f4 i j0 (by omega)
      · rw [hr, hr]
        simp
        exact hI.2.2.1
      · rw [hr]
        simp

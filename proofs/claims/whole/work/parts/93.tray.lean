/-! trays: read, write -/
def trO : List Int := [3, 5, 7, 9, 236, 237, 238]
def trC : List (Int × Int) := [(2, 1), (2, 2), (2, 3), (4, 1), (4, 2), (4, 3), (6, 1), (6, 2), (6, 3), (8, 1), (8, 2), (8, 3)]
theorem Rel_tray {m m' : Int → Int → Int} (hf : FrE trO trC 0 0 m m') (h : Rel m) (ht : ∀ t, 0 ≤ t → t < 4 → RTry m' t) : Rel m' := by
  obtain ⟨h1, h2, h3, h4, h5, h6, h7, h8, h9, h10⟩ := h
  exact Rel_mk (RRef_E hf (by decide +kernel) h1) (RNum_E hf (by decide +kernel) h2) ht (RTap_E hf (by decide +kernel) h4) (RPln_E hf (by decide +kernel) h5) (RLiv_E hf (by decide +kernel) h6) (RFst_E hf (by decide +kernel) h7) (RPtr_E hf (by decide +kernel) h8) (RCur_E hf (by decide +kernel) (by decide) (by decide) h8 h9) (RMrk_E hf (by decide +kernel) (by decide) (by decide) h10)
theorem RRef_wrA {h : AM} {a i v : Int} (hn : refT.all (fun q => !(q.1 == a)) = true) (hr : RRef h.1) : RRef (mwr h a i v).1 := by
  intro q hq
  have := List.all_eq_true.mp hn q hq
  rw [← hr q hq]
  show (if q.1 = a ∧ q.2.1 = i then v else h.1 q.1 q.2.1) = _
  rw [if_neg]
  rintro ⟨z1, z2⟩
  simp [z1] at this
theorem CM_wrA {h : AM} {a i v : Int} (hn : refT.all (fun q => !(q.1 == a)) = true) (hm : CM h) : CM (mwr h a i v) := ⟨hm.1, hm.2.1, RRef_wrA hn hm.2.2⟩
/-- tray t's objects -/
def CT (h : AM) (t : Int) : Prop := inR h 1 t ∧ mrd h 1 t = 2 + 2 * t ∧ isK h (2 + 2 * t) 8 ∧ mrd h (2 + 2 * t) 0 = 3 + 2 * t ∧ isK h (3 + 2 * t) 19 ∧ mln h (3 + 2 * t) = 60
theorem CT_of {h : AM} (hp : Shp h) (hr : RRef h.1) {t : Int} (t0 : 0 ≤ t) (t1 : t < 4) : CT h t := by
  have k1 := kn_1 hp
  refine ⟨⟨⟨k1.1, k1.2.1, by rw [k1.2.2]; decide, by rw [k1.2.2]; decide⟩, t0, by rw [ln_1 hp]; exact t1⟩, ?_⟩
  rcases (show t = 0 ∨ t = 1 ∨ t = 2 ∨ t = 3 by omega) with rfl | rfl | rfl | rfl
  · exact ⟨hr (1, 0, 2) (by decide +kernel), (Shp_K (n := 4) hp (by decide +kernel)).1, hr (2, 0, 3) (by decide +kernel), Shp_K hp (by decide +kernel)⟩
  · exact ⟨hr (1, 1, 4) (by decide +kernel), (Shp_K (n := 4) hp (by decide +kernel)).1, hr (4, 0, 5) (by decide +kernel), Shp_K hp (by decide +kernel)⟩
  · exact ⟨hr (1, 2, 6) (by decide +kernel), (Shp_K (n := 4) hp (by decide +kernel)).1, hr (6, 0, 7) (by decide +kernel), Shp_K hp (by decide +kernel)⟩
  · exact ⟨hr (1, 3, 8) (by decide +kernel), (Shp_K (n := 4) hp (by decide +kernel)).1, hr (8, 0, 9) (by decide +kernel), Shp_K hp (by decide +kernel)⟩
/-- why a place of a tray can't be; 0 -/
def PL (h : AM) (t p : Int) : Int := if 0 ≤ t ∧ t < 4 then (if mrd h 237 t < 0 then 3 else if 0 ≤ p ∧ p < mrd h 237 t then 0 else 4) else 1
section
variable {d : Nat} {h : AM} {s a b c k p t v w x y z : Int}
theorem m_trayed (hm : CM h) : EV d 181 0 [(2, 235), (0, t)] [] h = some ((0, if 0 ≤ t ∧ t < 4 then (if mrd h 237 t < 0 then 3 else 0) else 1), h) := by
  have m5 : mrd h 235 5 = 237 := rf_235_5 hm.2.2
  by_cases c0 : t < 0
  · rw [if_neg (by omega)]
    simp only [e181_0, e181_1, e181_4, e181_5, e181_6, e181_9, e181_10, e181_13, e181_14, e181_17, e181_18, e181_19, e181_22, e181_23, e181_26, e181_27, psh0, psh1, psh3, true_or, or_true, eq_self, Option.bind_some, List.length_nil, List.length_cons, Nat.reduceAdd, Nat.reduceLeDiff, Nat.zero_le, ↓reduceIte, Int.reduceLT, Int.reduceEq, Int.reduceLE, Int.reduceNeg, Int.reduceAdd, Int.reduceMul, Int.reduceSub, ne_eq, not_true_eq_false, not_false_eq_true, and_true, true_and, and_false, false_and, c3lt, c3gt, c3eq, Bool.false_eq_true, isK_wr, inA_wr, inR_wr, c0]
  by_cases c1 : t < 4
  · have i1 : inA h 237 16 t := ⟨kn_237 hm.2.1, by omega, by rw [ln_237 hm.2.1]; exact c1⟩
    rw [if_pos (by omega)]
    by_cases c2 : mrd h 237 t < 0
    · simp only [e181_0, e181_1, e181_4, e181_5, e181_6, e181_9, e181_10, e181_13, e181_14, e181_17, e181_18, e181_19, e181_22, e181_23, e181_26, e181_27, psh0, psh1, psh3, true_or, or_true, eq_self, Option.bind_some, List.length_nil, List.length_cons, Nat.reduceAdd, Nat.reduceLeDiff, Nat.zero_le, ↓reduceIte, Int.reduceLT, Int.reduceEq, Int.reduceLE, Int.reduceNeg, Int.reduceAdd, Int.reduceMul, Int.reduceSub, ne_eq, not_true_eq_false, not_false_eq_true, and_true, true_and, and_false, false_and, c3lt, c3gt, c3eq, Bool.false_eq_true, isK_wr, inA_wr, inR_wr, c0, c1, hm.1, m5, i1, c2]
    · simp only [e181_0, e181_1, e181_4, e181_5, e181_6, e181_9, e181_10, e181_13, e181_14, e181_17, e181_18, e181_19, e181_22, e181_23, e181_26, e181_27, psh0, psh1, psh3, true_or, or_true, eq_self, Option.bind_some, List.length_nil, List.length_cons, Nat.reduceAdd, Nat.reduceLeDiff, Nat.zero_le, ↓reduceIte, Int.reduceLT, Int.reduceEq, Int.reduceLE, Int.reduceNeg, Int.reduceAdd, Int.reduceMul, Int.reduceSub, ne_eq, not_true_eq_false, not_false_eq_true, and_true, true_and, and_false, false_and, c3lt, c3gt, c3eq, Bool.false_eq_true, isK_wr, inA_wr, inR_wr, c0, c1, hm.1, m5, i1, c2]
  · rw [if_neg (by omega)]
    simp only [e181_0, e181_1, e181_4, e181_5, e181_6, e181_9, e181_10, e181_13, e181_14, e181_17, e181_18, e181_19, e181_22, e181_23, e181_26, e181_27, psh0, psh1, psh3, true_or, or_true, eq_self, Option.bind_some, List.length_nil, List.length_cons, Nat.reduceAdd, Nat.reduceLeDiff, Nat.zero_le, ↓reduceIte, Int.reduceLT, Int.reduceEq, Int.reduceLE, Int.reduceNeg, Int.reduceAdd, Int.reduceMul, Int.reduceSub, ne_eq, not_true_eq_false, not_false_eq_true, and_true, true_and, and_false, false_and, c3lt, c3gt, c3eq, Bool.false_eq_true, isK_wr, inA_wr, inR_wr, c0, c1]
theorem m_placed (hm : CM h) : EV (d + 1) 182 0 [(2, 235), (0, t), (0, p), (3, 0)] [] h = some ((0, PL h t p), h) := by
  have m5 : mrd h 235 5 = 237 := rf_235_5 hm.2.2
  have g := m_trayed (d := d) (t := t) hm
  unfold PL
  by_cases ct : 0 ≤ t ∧ t < 4
  · have i1 : inA h 237 16 t := ⟨kn_237 hm.2.1, by omega, by rw [ln_237 hm.2.1]; omega⟩
    rw [if_pos ct] at g ⊢
    by_cases c2 : mrd h 237 t < 0
    · rw [if_pos c2] at g ⊢
      simp only [e182_0, e182_1, e182_2, e182_5, e182_6, e182_7, e182_10, e182_11, e182_14, e182_15, e182_18, e182_19, e182_20, e182_23, e182_24, e182_25, e182_28, e182_29, e182_32, e182_33, psh0, psh1, psh3, true_or, or_true, eq_self, Option.bind_some, List.length_nil, List.length_cons, Nat.reduceAdd, Nat.reduceLeDiff, Nat.zero_le, ↓reduceIte, Int.reduceLT, Int.reduceEq, Int.reduceLE, Int.reduceNeg, Int.reduceAdd, Int.reduceMul, Int.reduceSub, ne_eq, not_true_eq_false, not_false_eq_true, and_true, true_and, and_false, false_and, c3lt, c3gt, c3eq, Bool.false_eq_true, isK_wr, inA_wr, inR_wr, hm.1, g]
    · rw [if_neg c2] at g ⊢
      by_cases cp : p < 0
      · rw [if_neg (by omega)]
        simp only [e182_0, e182_1, e182_2, e182_5, e182_6, e182_7, e182_10, e182_11, e182_14, e182_15, e182_18, e182_19, e182_20, e182_23, e182_24, e182_25, e182_28, e182_29, e182_32, e182_33, psh0, psh1, psh3, true_or, or_true, eq_self, Option.bind_some, List.length_nil, List.length_cons, Nat.reduceAdd, Nat.reduceLeDiff, Nat.zero_le, ↓reduceIte, Int.reduceLT, Int.reduceEq, Int.reduceLE, Int.reduceNeg, Int.reduceAdd, Int.reduceMul, Int.reduceSub, ne_eq, not_true_eq_false, not_false_eq_true, and_true, true_and, and_false, false_and, c3lt, c3gt, c3eq, Bool.false_eq_true, isK_wr, inA_wr, inR_wr, hm.1, g, cp]
      by_cases cp2 : p < mrd h 237 t
      · rw [if_pos (by omega)]
        simp only [e182_0, e182_1, e182_2, e182_5, e182_6, e182_7, e182_10, e182_11, e182_14, e182_15, e182_18, e182_19, e182_20, e182_23, e182_24, e182_25, e182_28, e182_29, e182_32, e182_33, psh0, psh1, psh3, true_or, or_true, eq_self, Option.bind_some, List.length_nil, List.length_cons, Nat.reduceAdd, Nat.reduceLeDiff, Nat.zero_le, ↓reduceIte, Int.reduceLT, Int.reduceEq, Int.reduceLE, Int.reduceNeg, Int.reduceAdd, Int.reduceMul, Int.reduceSub, ne_eq, not_true_eq_false, not_false_eq_true, and_true, true_and, and_false, false_and, c3lt, c3gt, c3eq, Bool.false_eq_true, isK_wr, inA_wr, inR_wr, hm.1, g, cp, cp2, m5, i1]
      · rw [if_neg (by omega)]
        simp only [e182_0, e182_1, e182_2, e182_5, e182_6, e182_7, e182_10, e182_11, e182_14, e182_15, e182_18, e182_19, e182_20, e182_23, e182_24, e182_25, e182_28, e182_29, e182_32, e182_33, psh0, psh1, psh3, true_or, or_true, eq_self, Option.bind_some, List.length_nil, List.length_cons, Nat.reduceAdd, Nat.reduceLeDiff, Nat.zero_le, ↓reduceIte, Int.reduceLT, Int.reduceEq, Int.reduceLE, Int.reduceNeg, Int.reduceAdd, Int.reduceMul, Int.reduceSub, ne_eq, not_true_eq_false, not_false_eq_true, and_true, true_and, and_false, false_and, c3lt, c3gt, c3eq, Bool.false_eq_true, isK_wr, inA_wr, inR_wr, hm.1, g, cp, cp2, m5, i1]
  · rw [if_neg ct] at g ⊢
    simp only [e182_0, e182_1, e182_2, e182_5, e182_6, e182_7, e182_10, e182_11, e182_14, e182_15, e182_18, e182_19, e182_20, e182_23, e182_24, e182_25, e182_28, e182_29, e182_32, e182_33, psh0, psh1, psh3, true_or, or_true, eq_self, Option.bind_some, List.length_nil, List.length_cons, Nat.reduceAdd, Nat.reduceLeDiff, Nat.zero_le, ↓reduceIte, Int.reduceLT, Int.reduceEq, Int.reduceLE, Int.reduceNeg, Int.reduceAdd, Int.reduceMul, Int.reduceSub, ne_eq, not_true_eq_false, not_false_eq_true, and_true, true_and, and_false, false_and, c3lt, c3gt, c3eq, Bool.false_eq_true, isK_wr, inA_wr, inR_wr, hm.1, g]
theorem x_askPlace (k0 : isK h 0 10) (x0 : mrd h 0 0 = 1) (hc : 0 ≤ t → t < 4 → CT h t) (hr : 0 ≤ t → t < 4 → RTry (mrd h) t) : EV (d + 1) 166 0 [(2, 0), (0, t), (0, p)] [] h = some ((0, PL h t p), h) := by
  have g := x_isTray (d := d) (h := h) (c := t)
  unfold PL
  by_cases ct : 0 ≤ t ∧ t < 4
  · rw [if_pos ct] at g ⊢
    obtain ⟨q1, q2, q3, q4, q5, q6⟩ := hc ct.1 ct.2
    rcases hr ct.1 ct.2 with ⟨e1, e2⟩ | ⟨e1, -, e3, -⟩
    · rw [if_pos (by omega)]
      simp only [e166_0, e166_1, e166_4, e166_7, e166_8, e166_9, e166_10, e166_13, e166_14, e166_15, e166_18, e166_21, e166_22, e166_23, e166_24, e166_27, e166_28, e166_29, e166_32, e166_33, e166_34, e166_37, e166_40, e166_41, e166_44, e166_45, psh0, psh1, psh3, true_or, or_true, eq_self, Option.bind_some, List.length_nil, List.length_cons, Nat.reduceAdd, Nat.reduceLeDiff, Nat.zero_le, ↓reduceIte, Int.reduceLT, Int.reduceEq, Int.reduceLE, Int.reduceNeg, Int.reduceAdd, Int.reduceMul, Int.reduceSub, ne_eq, not_true_eq_false, not_false_eq_true, and_true, true_and, and_false, false_and, c3lt, c3gt, c3eq, Bool.false_eq_true, isK_wr, inA_wr, inR_wr, k0, x0, g, q1, q2, q3, e1]
    · rw [if_neg (by omega)]
      by_cases cp : p < 0
      · rw [if_neg (by omega)]
        simp only [e166_0, e166_1, e166_4, e166_7, e166_8, e166_9, e166_10, e166_13, e166_14, e166_15, e166_18, e166_21, e166_22, e166_23, e166_24, e166_27, e166_28, e166_29, e166_32, e166_33, e166_34, e166_37, e166_40, e166_41, e166_44, e166_45, psh0, psh1, psh3, true_or, or_true, eq_self, Option.bind_some, List.length_nil, List.length_cons, Nat.reduceAdd, Nat.reduceLeDiff, Nat.zero_le, ↓reduceIte, Int.reduceLT, Int.reduceEq, Int.reduceLE, Int.reduceNeg, Int.reduceAdd, Int.reduceMul, Int.reduceSub, ne_eq, not_true_eq_false, not_false_eq_true, and_true, true_and, and_false, false_and, c3lt, c3gt, c3eq, Bool.false_eq_true, isK_wr, inA_wr, inR_wr, k0, x0, g, q1, q2, q3, e1, cp]
      by_cases cp2 : p < mrd h 237 t
      · rw [if_pos (by omega)]
        simp only [e166_0, e166_1, e166_4, e166_7, e166_8, e166_9, e166_10, e166_13, e166_14, e166_15, e166_18, e166_21, e166_22, e166_23, e166_24, e166_27, e166_28, e166_29, e166_32, e166_33, e166_34, e166_37, e166_40, e166_41, e166_44, e166_45, psh0, psh1, psh3, true_or, or_true, eq_self, Option.bind_some, List.length_nil, List.length_cons, Nat.reduceAdd, Nat.reduceLeDiff, Nat.zero_le, ↓reduceIte, Int.reduceLT, Int.reduceEq, Int.reduceLE, Int.reduceNeg, Int.reduceAdd, Int.reduceMul, Int.reduceSub, ne_eq, not_true_eq_false, not_false_eq_true, and_true, true_and, and_false, false_and, c3lt, c3gt, c3eq, Bool.false_eq_true, isK_wr, inA_wr, inR_wr, k0, x0, g, q1, q2, q3, e1, cp, e3.1, cp2]
      · rw [if_neg (by omega)]
        simp only [e166_0, e166_1, e166_4, e166_7, e166_8, e166_9, e166_10, e166_13, e166_14, e166_15, e166_18, e166_21, e166_22, e166_23, e166_24, e166_27, e166_28, e166_29, e166_32, e166_33, e166_34, e166_37, e166_40, e166_41, e166_44, e166_45, psh0, psh1, psh3, true_or, or_true, eq_self, Option.bind_some, List.length_nil, List.length_cons, Nat.reduceAdd, Nat.reduceLeDiff, Nat.zero_le, ↓reduceIte, Int.reduceLT, Int.reduceEq, Int.reduceLE, Int.reduceNeg, Int.reduceAdd, Int.reduceMul, Int.reduceSub, ne_eq, not_true_eq_false, not_false_eq_true, and_true, true_and, and_false, false_and, c3lt, c3gt, c3eq, Bool.false_eq_true, isK_wr, inA_wr, inR_wr, k0, x0, g, q1, q2, q3, e1, cp, e3.1, cp2]
  · rw [if_neg ct] at g ⊢
    simp only [e166_0, e166_1, e166_4, e166_7, e166_8, e166_9, e166_10, e166_13, e166_14, e166_15, e166_18, e166_21, e166_22, e166_23, e166_24, e166_27, e166_28, e166_29, e166_32, e166_33, e166_34, e166_37, e166_40, e166_41, e166_44, e166_45, psh0, psh1, psh3, true_or, or_true, eq_self, Option.bind_some, List.length_nil, List.length_cons, Nat.reduceAdd, Nat.reduceLeDiff, Nat.zero_le, ↓reduceIte, Int.reduceLT, Int.reduceEq, Int.reduceLE, Int.reduceNeg, Int.reduceAdd, Int.reduceMul, Int.reduceSub, ne_eq, not_true_eq_false, not_false_eq_true, and_true, true_and, and_false, false_and, c3lt, c3gt, c3eq, Bool.false_eq_true, isK_wr, inA_wr, inR_wr, k0, g]
/-- a number cut to a sort -/
def cutF (so v : Int) : Int := if so = 0 then w8 (w32 v) else if so = 1 then w16 (w32 v) else if so = 2 then w32 v else v
theorem m_cut : EV d 179 0 [(0, x), (1, v), (3, 1)] [] h = some ((1, cutF x v), h) := by
  unfold cutF
  by_cases c0 : x = 0
  · subst c0
    simp only [e179_0, e179_1, e179_4, e179_5, e179_6, e179_7, e179_8, e179_11, e179_12, e179_13, e179_16, e179_17, e179_18, e179_19, e179_20, e179_23, e179_24, e179_25, e179_28, e179_29, e179_30, e179_31, e179_34, e179_35, psh0, psh1, psh3, true_or, or_true, eq_self, Option.bind_some, List.length_nil, List.length_cons, Nat.reduceAdd, Nat.reduceLeDiff, Nat.zero_le, ↓reduceIte, Int.reduceLT, Int.reduceEq, Int.reduceLE, Int.reduceNeg, Int.reduceAdd, Int.reduceMul, Int.reduceSub, ne_eq, not_true_eq_false, not_false_eq_true, and_true, true_and, and_false, false_and, c3lt, c3gt, c3eq, Bool.false_eq_true, isK_wr, inA_wr, inR_wr]
  by_cases c1 : x = 1
  · subst c1
    simp only [e179_0, e179_1, e179_4, e179_5, e179_6, e179_7, e179_8, e179_11, e179_12, e179_13, e179_16, e179_17, e179_18, e179_19, e179_20, e179_23, e179_24, e179_25, e179_28, e179_29, e179_30, e179_31, e179_34, e179_35, psh0, psh1, psh3, true_or, or_true, eq_self, Option.bind_some, List.length_nil, List.length_cons, Nat.reduceAdd, Nat.reduceLeDiff, Nat.zero_le, ↓reduceIte, Int.reduceLT, Int.reduceEq, Int.reduceLE, Int.reduceNeg, Int.reduceAdd, Int.reduceMul, Int.reduceSub, ne_eq, not_true_eq_false, not_false_eq_true, and_true, true_and, and_false, false_and, c3lt, c3gt, c3eq, Bool.false_eq_true, isK_wr, inA_wr, inR_wr]
  by_cases c2 : x = 2
  · subst c2
    simp only [e179_0, e179_1, e179_4, e179_5, e179_6, e179_7, e179_8, e179_11, e179_12, e179_13, e179_16, e179_17, e179_18, e179_19, e179_20, e179_23, e179_24, e179_25, e179_28, e179_29, e179_30, e179_31, e179_34, e179_35, psh0, psh1, psh3, true_or, or_true, eq_self, Option.bind_some, List.length_nil, List.length_cons, Nat.reduceAdd, Nat.reduceLeDiff, Nat.zero_le, ↓reduceIte, Int.reduceLT, Int.reduceEq, Int.reduceLE, Int.reduceNeg, Int.reduceAdd, Int.reduceMul, Int.reduceSub, ne_eq, not_true_eq_false, not_false_eq_true, and_true, true_and, and_false, false_and, c3lt, c3gt, c3eq, Bool.false_eq_true, isK_wr, inA_wr, inR_wr]
  · simp only [e179_0, e179_1, e179_4, e179_5, e179_6, e179_7, e179_8, e179_11, e179_12, e179_13, e179_16, e179_17, e179_18, e179_19, e179_20, e179_23, e179_24, e179_25, e179_28, e179_29, e179_30, e179_31, e179_34, e179_35, psh0, psh1, psh3, true_or, or_true, eq_self, Option.bind_some, List.length_nil, List.length_cons, Nat.reduceAdd, Nat.reduceLeDiff, Nat.zero_le, ↓reduceIte, Int.reduceLT, Int.reduceEq, Int.reduceLE, Int.reduceNeg, Int.reduceAdd, Int.reduceMul, Int.reduceSub, ne_eq, not_true_eq_false, not_false_eq_true, and_true, true_and, and_false, false_and, c3lt, c3gt, c3eq, Bool.false_eq_true, isK_wr, inA_wr, inR_wr, c0, c1, c2]
theorem x_put (hc : CT h t) (s0 : 0 ≤ mrd h (2 + 2 * t) 2) (p0 : 0 ≤ p) (p1 : p < 60) : EV d 97 0 [(2, 2 + 2 * t), (0, p), (1, v), (3, 1)] [] h = some ((3, 0), mwr h (3 + 2 * t) p (cutF (mrd h (2 + 2 * t) 2) v)) := by
  obtain ⟨q1, q2, q3, q4, q5, q6⟩ := hc
  have i1 : inA h (3 + 2 * t) 19 p := ⟨q5, p0, by rw [q6]; exact p1⟩
  unfold cutF
  by_cases c0 : mrd h (2 + 2 * t) 2 = 0
  · simp only [e97_0, e97_1, e97_4c0, e97_4c1, e97_4c2, e97_4, e97_32, e97_33, e97_36, e97_37, e97_38, e97_39, e97_40, e97_41, e97_42, e97_45, e97_46, e97_49, e97_50, e97_51, e97_52, e97_53, e97_54, e97_55, e97_58, e97_59, e97_62, e97_63, e97_64, e97_65, e97_66, e97_67, e97_70, e97_71, e97_74, e97_75, e97_76, e97_77, psh0, psh1, psh3, true_or, or_true, eq_self, Option.bind_some, List.length_nil, List.length_cons, Nat.reduceAdd, Nat.reduceLeDiff, Nat.zero_le, ↓reduceIte, Int.reduceLT, Int.reduceEq, Int.reduceLE, Int.reduceNeg, Int.reduceAdd, Int.reduceMul, Int.reduceSub, ne_eq, not_true_eq_false, not_false_eq_true, and_true, true_and, and_false, false_and, c3lt, c3gt, c3eq, Bool.false_eq_true, isK_wr, inA_wr, inR_wr, q3, q4, c0, i1]
  by_cases c1 : mrd h (2 + 2 * t) 2 = 1
  · simp only [e97_0, e97_1, e97_4c0, e97_4c1, e97_4c2, e97_4, e97_32, e97_33, e97_36, e97_37, e97_38, e97_39, e97_40, e97_41, e97_42, e97_45, e97_46, e97_49, e97_50, e97_51, e97_52, e97_53, e97_54, e97_55, e97_58, e97_59, e97_62, e97_63, e97_64, e97_65, e97_66, e97_67, e97_70, e97_71, e97_74, e97_75, e97_76, e97_77, psh0, psh1, psh3, true_or, or_true, eq_self, Option.bind_some, List.length_nil, List.length_cons, Nat.reduceAdd, Nat.reduceLeDiff, Nat.zero_le, ↓reduceIte, Int.reduceLT, Int.reduceEq, Int.reduceLE, Int.reduceNeg, Int.reduceAdd, Int.reduceMul, Int.reduceSub, ne_eq, not_true_eq_false, not_false_eq_true, and_true, true_and, and_false, false_and, c3lt, c3gt, c3eq, Bool.false_eq_true, isK_wr, inA_wr, inR_wr, q3, q4, c1, i1]
  by_cases c2 : mrd h (2 + 2 * t) 2 = 2
  · simp only [e97_0, e97_1, e97_4c0, e97_4c1, e97_4c2, e97_4, e97_32, e97_33, e97_36, e97_37, e97_38, e97_39, e97_40, e97_41, e97_42, e97_45, e97_46, e97_49, e97_50, e97_51, e97_52, e97_53, e97_54, e97_55, e97_58, e97_59, e97_62, e97_63, e97_64, e97_65, e97_66, e97_67, e97_70, e97_71, e97_74, e97_75, e97_76, e97_77, psh0, psh1, psh3, true_or, or_true, eq_self, Option.bind_some, List.length_nil, List.length_cons, Nat.reduceAdd, Nat.reduceLeDiff, Nat.zero_le, ↓reduceIte, Int.reduceLT, Int.reduceEq, Int.reduceLE, Int.reduceNeg, Int.reduceAdd, Int.reduceMul, Int.reduceSub, ne_eq, not_true_eq_false, not_false_eq_true, and_true, true_and, and_false, false_and, c3lt, c3gt, c3eq, Bool.false_eq_true, isK_wr, inA_wr, inR_wr, q3, q4, c2, i1]
  · have cc : mrd h (2 + 2 * t) 2 < 0 ∨ 2 < mrd h (2 + 2 * t) 2 := by omega
    simp only [e97_0, e97_1, e97_4c0, e97_4c1, e97_4c2, e97_4, e97_32, e97_33, e97_36, e97_37, e97_38, e97_39, e97_40, e97_41, e97_42, e97_45, e97_46, e97_49, e97_50, e97_51, e97_52, e97_53, e97_54, e97_55, e97_58, e97_59, e97_62, e97_63, e97_64, e97_65, e97_66, e97_67, e97_70, e97_71, e97_74, e97_75, e97_76, e97_77, psh0, psh1, psh3, true_or, or_true, eq_self, Option.bind_some, List.length_nil, List.length_cons, Nat.reduceAdd, Nat.reduceLeDiff, Nat.zero_le, ↓reduceIte, Int.reduceLT, Int.reduceEq, Int.reduceLE, Int.reduceNeg, Int.reduceAdd, Int.reduceMul, Int.reduceSub, ne_eq, not_true_eq_false, not_false_eq_true, and_true, true_and, and_false, false_and, c3lt, c3gt, c3eq, Bool.false_eq_true, isK_wr, inA_wr, inR_wr, q3, q4, cc, c0, c1, c2, i1]
end
theorem rn_sm1 {h : AM} {v b j : Int} (hb : b ≠ 0) (hb2 : b ≠ 235) : mrd (mwr (mwr h 0 11 v) 235 1 0) b j = mrd h b j := by rw [rdn1 hb2, rdn1 hb]
theorem PL_q {h : AM} {v t p : Int} : PL (mwr (mwr h 0 11 v) 235 1 0) t p = PL h t p := by
  unfold PL
  simp only [rn_sm1, ↓reduceIte, Int.reduceLT, Int.reduceEq, Int.reduceLE, Int.reduceNeg, Int.reduceAdd, Int.reduceMul, Int.reduceSub, ne_eq, not_true_eq_false, not_false_eq_true, and_true, true_and, and_false, false_and, c3lt, c3gt, c3eq, Bool.false_eq_true, isK_wr, inA_wr, inR_wr]
theorem op_read : Op_read Inv := by
  intro d h a0 a1 hI i0 i1
  obtain ⟨s, e8, hs, k0, kM, cs, ds⟩ := ctx hI
  have ds' := ds
  have ks := cs.1
  have r1 := cs.2.2.1
  have r2 := cs.2.2.2.1
  have r3 := cs.2.2.2.2.1
  have kl := cs.2.2.2.2.2.2.2.2.2.2.2.1
  have kc := cs.2.2.2.2.2.2.2.2.2.2.2.2
  obtain ⟨d5, d6, d7, d8, dl, dc⟩ := ds
  have hm : ∀ v, CM (mwr (mwr (mwr h 0 11 v) 235 1 0) 235 0 0) := fun v => CM_q (CM_of hI)
  have x0 : mrd h 0 0 = 1 := rf_0_0 hI.2.1.1
  have gx := x_askPlace (d := d + 58) (t := a0) (p := a1) k0 x0 (fun t0 t1 => CT_of hI.1 hI.2.1.1 t0 t1) (fun t0 t1 => hI.2.1.2.2.1 a0 t0 t1)
  have hm1 : ∀ v, CM (mwr (mwr h 0 11 v) 235 1 0) := fun v => CM_wr rn_m1 (CM_wr rn_st (CM_of hI))
  have gm := fun v => m_placed (d := d + 58) (t := a0) (p := a1) (hm1 v)
  simp only [PL_q] at gm
  by_cases hc : PL h a0 a1 = 0
  · rw [hc] at gx
    simp only [hc] at gm
    unfold PL at hc
    have ct : 0 ≤ a0 ∧ a0 < 4 := by
      by_cases z : 0 ≤ a0 ∧ a0 < 4
      · exact z
      · rw [if_neg z] at hc; omega
    rw [if_pos ct] at hc
    have c2 : ¬ mrd h 237 a0 < 0 := fun z => by rw [if_pos z] at hc; omega
    rw [if_neg c2] at hc
    have cp : 0 ≤ a1 ∧ a1 < mrd h 237 a0 := by
      by_cases z : 0 ≤ a1 ∧ a1 < mrd h 237 a0
      · exact z
      · rw [if_neg z] at hc; omega
    obtain ⟨q1, q2, q3, q4, q5, q6⟩ := CT_of hI.1 hI.2.1.1 ct.1 ct.2
    have hr : RTry (mrd h) a0 := hI.2.1.2.2.1 a0 ct.1 ct.2
    rcases hr with ⟨e1, e2⟩ | ⟨e1, -, e3, e4⟩
    · omega
    have i1 : inA h (3 + 2 * a0) 19 a1 := ⟨q5, cp.1, by rw [q6]; omega⟩
    have i2 : inA h 238 19 (60 * a0 + a1) := ⟨kn_238 hI.1, by omega, by rw [ln_238 hI.1]; omega⟩
    have m6 : mrd h 235 6 = 238 := rf_235_6 hI.2.1.1
    have w1 : w32 (60 * a0) = 60 * a0 := w32_id (by omega) (by omega)
    have w2 : w32 (60 * a0 + a1) = 60 * a0 + a1 := w32_id (by omega) (by omega)
    have e := e4 a1 cp.1 cp.2
    refine opq hI (mrd h 238 (60 * a0 + a1)) 0 ?_ ?_
    · have n1 : (2 + 2 * a0 = 0) = False := eq_false (by omega)
      have n2 : (3 + 2 * a0 = 0) = False := eq_false (by omega)
      simp only [e109_0, e109_1, e109_2, e109_3, e109_6, e109_7, e109_8, e109_11, e109_12, e109_13, e109_16, e109_17, e109_18, e109_19, e109_20, e109_23, e109_24, e109_27, e109_28, e109_29, e109_32, e109_33, e109_34, psh0, psh1, psh3, true_or, or_true, eq_self, Option.bind_some, List.length_nil, List.length_cons, Nat.reduceAdd, Nat.reduceLeDiff, Nat.zero_le, ↓reduceIte, Int.reduceLT, Int.reduceEq, Int.reduceLE, Int.reduceNeg, Int.reduceAdd, Int.reduceMul, Int.reduceSub, ne_eq, not_true_eq_false, not_false_eq_true, and_true, true_and, and_false, false_and, c3lt, c3gt, c3eq, Bool.false_eq_true, isK_wr, inA_wr, inR_wr, k0, gx, rdn1, rdn2, x0, q1, q2, q3, q4, i1, n1, n2, e]
    · simp only [e184_0, e184_1, e184_2, e184_5, e184_6, e184_7, e184_8, e184_9, e184_12, e184_15, e184_16, e184_19, e184_22, e184_25, e184_28, e184_29, e184_32, e184_34, e184_35, e184_36, e184_37, e184_38, e184_39, psh0, psh1, psh3, true_or, or_true, eq_self, Option.bind_some, List.length_nil, List.length_cons, Nat.reduceAdd, Nat.reduceLeDiff, Nat.zero_le, ↓reduceIte, Int.reduceLT, Int.reduceEq, Int.reduceLE, Int.reduceNeg, Int.reduceAdd, Int.reduceMul, Int.reduceSub, ne_eq, not_true_eq_false, not_false_eq_true, and_true, true_and, and_false, false_and, c3lt, c3gt, c3eq, Bool.false_eq_true, isK_wr, inA_wr, inR_wr, kM, gm, rde, rdq5, rdq, m6, w1, w2, i2]
  · have hp : 0 < PL h a0 a1 := by
      unfold PL at hc ⊢
      split
      · split
        · decide
        · split
          · rename_i z1 z2 z3
            rw [if_pos z1, if_neg z2, if_pos z3] at hc
            exact absurd rfl hc
          · decide
      · decide
    generalize PL h a0 a1 = R at gx gm hc hp
    refine opq hI (-1) R ?_ ?_
    · simp only [e109_0, e109_1, e109_2, e109_3, e109_6, e109_7, e109_8, e109_11, e109_12, e109_13, e109_16, e109_17, e109_18, e109_19, e109_20, e109_23, e109_24, e109_27, e109_28, e109_29, e109_32, e109_33, e109_34, psh0, psh1, psh3, true_or, or_true, eq_self, Option.bind_some, List.length_nil, List.length_cons, Nat.reduceAdd, Nat.reduceLeDiff, Nat.zero_le, ↓reduceIte, Int.reduceLT, Int.reduceEq, Int.reduceLE, Int.reduceNeg, Int.reduceAdd, Int.reduceMul, Int.reduceSub, ne_eq, not_true_eq_false, not_false_eq_true, and_true, true_and, and_false, false_and, c3lt, c3gt, c3eq, Bool.false_eq_true, isK_wr, inA_wr, inR_wr, k0, gx, hc, x_refuse]
    · simp only [e184_0, e184_1, e184_2, e184_5, e184_6, e184_7, e184_8, e184_9, e184_12, e184_15, e184_16, e184_19, e184_22, e184_25, e184_28, e184_29, e184_32, e184_34, e184_35, e184_36, e184_37, e184_38, e184_39, psh0, psh1, psh3, true_or, or_true, eq_self, Option.bind_some, List.length_nil, List.length_cons, Nat.reduceAdd, Nat.reduceLeDiff, Nat.zero_le, ↓reduceIte, Int.reduceLT, Int.reduceEq, Int.reduceLE, Int.reduceNeg, Int.reduceAdd, Int.reduceMul, Int.reduceSub, ne_eq, not_true_eq_false, not_false_eq_true, and_true, true_and, and_false, false_and, c3lt, c3gt, c3eq, Bool.false_eq_true, isK_wr, inA_wr, inR_wr, kM, gm, rde, hp]

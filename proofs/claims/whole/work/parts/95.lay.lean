/-! a tray is laid; numbers are poured -/
def mfl (h : AM) (a i n v : Int) : AM := (fun c q => if c = a ∧ i ≤ q ∧ q < i + n then v else h.1 c q, h.2)
theorem mfl_0 {h : AM} {a i v : Int} : mfl h a i 0 v = h := by
  refine Prod.ext (funext fun b => funext fun j => ?_) rfl
  show (if b = a ∧ i ≤ j ∧ j < i + 0 then v else h.1 b j) = _
  rw [if_neg (by omega)]
theorem mfl_s {h : AM} {a i n v : Int} (hn : 0 ≤ n) : mwr (mfl h a i n v) a (i + n) v = mfl h a i (n + 1) v := by
  refine Prod.ext (funext fun b => funext fun j => ?_) rfl
  show (if b = a ∧ j = i + n then v else if b = a ∧ i ≤ j ∧ j < i + n then v else h.1 b j) = if b = a ∧ i ≤ j ∧ j < i + (n + 1) then v else h.1 b j
  by_cases c : b = a ∧ j = i + n
  · rw [if_pos c, if_pos (by omega)]
  · rw [if_neg c]
    by_cases c2 : b = a ∧ i ≤ j ∧ j < i + n
    · rw [if_pos c2, if_pos (by omega)]
    · rw [if_neg c2, if_neg (by omega)]
theorem rd_fl {h : AM} {a i n v b j : Int} : mrd (mfl h a i n v) b j = if b = a ∧ i ≤ j ∧ j < i + n then v else mrd h b j := rfl
theorem rdf {h : AM} {a i n v b j : Int} (hb : b ≠ a) : mrd (mfl h a i n v) b j = mrd h b j := by rw [rd_fl, if_neg (fun z => hb z.1)]
theorem isK_fl {h : AM} {a i n v r : Int} {c : Nat} : isK (mfl h a i n v) r c ↔ isK h r c := Iff.rfl
theorem inA_fl {h : AM} {a i n v r j : Int} {c : Nat} : inA (mfl h a i n v) r c j ↔ inA h r c j := Iff.rfl
theorem CM_flA {h : AM} {a i n v : Int} (hn : refT.all (fun q => !(q.1 == a)) = true) (hm : CM h) : CM (mfl h a i n v) := ⟨hm.1, hm.2.1, fun q hq => by
  have := List.all_eq_true.mp hn q hq
  rw [← hm.2.2 q hq]
  show (if q.1 = a ∧ i ≤ q.2.1 ∧ q.2.1 < i + n then v else h.1 q.1 q.2.1) = _
  rw [if_neg]
  rintro ⟨z1, z2⟩
  simp [z1] at this⟩
section
variable {d : Nat} {h : AM} {s a b c k p t v w x y z : Int}
theorem x_lay_loop (hc : CT h t) (t0 : 0 ≤ t) (n : Nat) : ∀ i : Nat, i + n = 60 → EV d 95 17 [(2, 2 + 2 * t), (0, x), (0, y), (0, (i : Int))] [] (mfl h (3 + 2 * t) 0 i 0) = some ((3, 0), mfl h (3 + 2 * t) 0 60 0) := by
  obtain ⟨q1, q2, q3, q4, q5, q6⟩ := hc
  have n1 : (2 + 2 * t = 3 + 2 * t) = False := eq_false (by omega)
  induction n with
  | zero =>
    intro i hi
    have c : ¬ (i : Int) < 60 := by omega
    have e : (i : Int) = 60 := by omega
    rw [e95_17]
    simp only [e95_0, e95_1, e95_2, e95_5, e95_6, e95_7, e95_10, e95_11, e95_12, e95_15, e95_16, e95_18, e95_20, e95_23, e95_24, e95_27, e95_28, e95_29, e95_30, e95_33, e95_36, psh0, psh1, psh3, true_or, or_true, eq_self, Option.bind_some, List.length_nil, List.length_cons, Nat.reduceAdd, Nat.reduceLeDiff, Nat.zero_le, ↓reduceIte, Int.reduceLT, Int.reduceEq, Int.reduceLE, Int.reduceNeg, Int.reduceAdd, Int.reduceMul, Int.reduceSub, ne_eq, not_true_eq_false, not_false_eq_true, and_true, true_and, and_false, false_and, c3lt, c3gt, c3eq, Bool.false_eq_true, isK_wr, inA_wr, inR_wr, c, e]
  | succ n ih =>
    intro i hi
    have c : (i : Int) < 60 := by omega
    have w1 : w32 ((i : Int) + 1) = ((i + 1 : Nat) : Int) := by rw [w32_id (by omega) (by omega)]; omega
    have i1 : inA h (3 + 2 * t) 19 i := ⟨q5, by omega, by rw [q6]; exact c⟩
    have e : mwr (mfl h (3 + 2 * t) 0 i 0) (3 + 2 * t) i 0 = mfl h (3 + 2 * t) 0 ((i + 1 : Nat) : Int) 0 := by
      have := mfl_s (h := h) (a := 3 + 2 * t) (i := 0) (n := i) (v := 0) (by omega)
      rw [Int.zero_add] at this
      exact this
    rw [e95_17]
    simp only [e95_0, e95_1, e95_2, e95_5, e95_6, e95_7, e95_10, e95_11, e95_12, e95_15, e95_16, e95_18, e95_20, e95_23, e95_24, e95_27, e95_28, e95_29, e95_30, e95_33, e95_36, psh0, psh1, psh3, true_or, or_true, eq_self, Option.bind_some, List.length_nil, List.length_cons, Nat.reduceAdd, Nat.reduceLeDiff, Nat.zero_le, ↓reduceIte, Int.reduceLT, Int.reduceEq, Int.reduceLE, Int.reduceNeg, Int.reduceAdd, Int.reduceMul, Int.reduceSub, ne_eq, not_true_eq_false, not_false_eq_true, and_true, true_and, and_false, false_and, c3lt, c3gt, c3eq, Bool.false_eq_true, isK_wr, inA_wr, inR_wr, c, isK_fl, inA_fl, q3, rdf, n1, q4, i1, w1, e]
    exact ih (i + 1) (by omega)
theorem m_tray_loop (hm : CM h) (t0 : 0 ≤ t) (t1 : t < 4) (M : Nat) (hM : M ≤ 60) (n : Nat) : ∀ i : Nat, i + n = M → EV d 180 74 [(2, 235), (0, t), (0, x), (0, (M : Int)), (0, (i : Int))] [] (mfl h 238 (60 * t) i 0) = some ((0, 1), mfl h 238 (60 * t) M 0) := by
  have m6 : mrd h 235 6 = 238 := rf_235_6 hm.2.2
  have w1 : w32 (60 * t) = 60 * t := w32_id (by omega) (by omega)
  induction n with
  | zero =>
    intro i hi
    have e : i = M := by omega
    subst e
    rw [e180_74]
    simp only [e180_0, e180_1, e180_2, e180_5, e180_6, e180_7, e180_10, e180_11, e180_14, e180_15, e180_16, e180_19, e180_20, e180_23, e180_24, e180_25, e180_28, e180_29, e180_30, e180_33, e180_34, e180_35, e180_37, e180_40, e180_41, e180_42, e180_45, e180_46, e180_47, e180_50, e180_51, e180_53, e180_56, e180_57, e180_58, e180_61, e180_62, e180_63, e180_64, e180_65, e180_68, e180_69, e180_70, e180_71, e180_72, e180_76, e180_77, e180_80, e180_81, e180_84, e180_86, e180_87, e180_88, e180_90, e180_91, e180_92, e180_93, e180_96, e180_99, e180_100, psh0, psh1, psh3, true_or, or_true, eq_self, Option.bind_some, List.length_nil, List.length_cons, Nat.reduceAdd, Nat.reduceLeDiff, Nat.zero_le, ↓reduceIte, Int.reduceLT, Int.reduceEq, Int.reduceLE, Int.reduceNeg, Int.reduceAdd, Int.reduceMul, Int.reduceSub, ne_eq, not_true_eq_false, not_false_eq_true, and_true, true_and, and_false, false_and, c3lt, c3gt, c3eq, Bool.false_eq_true, isK_wr, inA_wr, inR_wr, Int.lt_irrefl]
  | succ n ih =>
    intro i hi
    have c : (i : Int) < M := by omega
    have w2 : w32 ((i : Int) + 1) = ((i + 1 : Nat) : Int) := by rw [w32_id (by omega) (by omega)]; omega
    have w3 : w32 (60 * t + i) = 60 * t + i := w32_id (by omega) (by omega)
    have i1 : inA h 238 19 (60 * t + i) := ⟨kn_238 hm.2.1, by omega, by rw [ln_238 hm.2.1]; omega⟩
    have e := mfl_s (h := h) (a := 238) (i := 60 * t) (n := i) (v := 0) (by omega)
    rw [e180_74]
    simp only [e180_0, e180_1, e180_2, e180_5, e180_6, e180_7, e180_10, e180_11, e180_14, e180_15, e180_16, e180_19, e180_20, e180_23, e180_24, e180_25, e180_28, e180_29, e180_30, e180_33, e180_34, e180_35, e180_37, e180_40, e180_41, e180_42, e180_45, e180_46, e180_47, e180_50, e180_51, e180_53, e180_56, e180_57, e180_58, e180_61, e180_62, e180_63, e180_64, e180_65, e180_68, e180_69, e180_70, e180_71, e180_72, e180_76, e180_77, e180_80, e180_81, e180_84, e180_86, e180_87, e180_88, e180_90, e180_91, e180_92, e180_93, e180_96, e180_99, e180_100, psh0, psh1, psh3, true_or, or_true, eq_self, Option.bind_some, List.length_nil, List.length_cons, Nat.reduceAdd, Nat.reduceLeDiff, Nat.zero_le, ↓reduceIte, Int.reduceLT, Int.reduceEq, Int.reduceLE, Int.reduceNeg, Int.reduceAdd, Int.reduceMul, Int.reduceSub, ne_eq, not_true_eq_false, not_false_eq_true, and_true, true_and, and_false, false_and, c3lt, c3gt, c3eq, Bool.false_eq_true, isK_wr, inA_wr, inR_wr, c, isK_fl, inA_fl, hm.1, rdf, m6, w1, w2, w3, i1, e]
    exact ih (i + 1) (by omega)
end
theorem trC_n {t : Int} (t0 : 0 ≤ t) (t1 : t < 4) : (2 + 2 * t, 1) ∈ trC ∧ (2 + 2 * t, 2) ∈ trC ∧ (2 + 2 * t, 3) ∈ trC ∧ refT.all (fun q => !(q.1 == 2 + 2 * t && q.2.1 == 1)) = true ∧ refT.all (fun q => !(q.1 == 2 + 2 * t && q.2.1 == 2)) = true ∧ refT.all (fun q => !(q.1 == 2 + 2 * t && q.2.1 == 3)) = true := by
  rcases (show t = 0 ∨ t = 1 ∨ t = 2 ∨ t = 3 by omega) with rfl | rfl | rfl | rfl <;> decide +kernel
theorem FrE_fl {ob : List Int} {ce : List (Int × Int)} {n w : Int} {m : Int → Int → Int} {h : AM} {a i k v : Int} (hs : a ∈ ob) (hf : FrE ob ce n w m h.1) : FrE ob ce n w m (mfl h a i k v).1 := fun b j hb hx => by
  show (if b = a ∧ i ≤ j ∧ j < i + k then v else h.1 b j) = _
  rw [if_neg]
  · exact hf b j hb hx
  · rintro ⟨rfl, z⟩
    exact hx (Or.inl hs)
theorem rn_36 : refT.all (fun q => !(q.1 == 236)) = true := by decide +kernel
theorem rn_37 : refT.all (fun q => !(q.1 == 237)) = true := by decide +kernel
theorem rn_38 : refT.all (fun q => !(q.1 == 238)) = true := by decide +kernel
theorem op_tray : Op_tray Inv := by
  intro d h a0 a1 a2 hI i0 i1 i2
  obtain ⟨s, e8, hs, k0, kM, cs, ds⟩ := ctx hI
  have ds' := ds
  have ks := cs.1
  have r1 := cs.2.2.1
  have r2 := cs.2.2.2.1
  have r3 := cs.2.2.2.2.1
  have kl := cs.2.2.2.2.2.2.2.2.2.2.2.1
  have kc := cs.2.2.2.2.2.2.2.2.2.2.2.2
  obtain ⟨d5, d6, d7, d8, dl, dc⟩ := ds
  have hm : ∀ v, CM (mwr (mwr (mwr h 0 11 v) 235 1 0) 235 0 0) := fun v => CM_q (CM_of hI)
  have x0 : mrd h 0 0 = 1 := rf_0_0 hI.2.1.1
  have gt := x_isTray (d := d + 59) (h := h) (c := a0)
  by_cases ct : 0 ≤ a0 ∧ a0 < 4
  · rw [if_pos ct] at gt
    have ct0 : ¬ a0 < 0 := by omega
    by_cases cs : 0 ≤ a1 ∧ a1 < 4
    · have cs0 : ¬ a1 < 0 := by omega
      have cs3 : ¬ 3 < a1 := by omega
      by_cases c60 : 60 < a2
      · refine opq hI 0 5 ?_ ?_
        · simp only [e107_0, e107_1, e107_4, e107_7, e107_8, e107_11, e107_12, e107_13, e107_16, e107_17, e107_18, e107_21, e107_22, e107_23, e107_25, e107_28, e107_29, e107_30, e107_33, e107_34, e107_35, e107_38, e107_39, e107_41, e107_44, e107_45, e107_46, e107_49, e107_50, e107_51, e107_52, e107_53, e107_56, e107_57, e107_60, psh0, psh1, psh3, true_or, or_true, eq_self, Option.bind_some, List.length_nil, List.length_cons, Nat.reduceAdd, Nat.reduceLeDiff, Nat.zero_le, ↓reduceIte, Int.reduceLT, Int.reduceEq, Int.reduceLE, Int.reduceNeg, Int.reduceAdd, Int.reduceMul, Int.reduceSub, ne_eq, not_true_eq_false, not_false_eq_true, and_true, true_and, and_false, false_and, c3lt, c3gt, c3eq, Bool.false_eq_true, isK_wr, inA_wr, inR_wr, k0, gt, cs0, cs.2, c60, x_deny]
        · simp only [e180_0, e180_1, e180_2, e180_5, e180_6, e180_7, e180_10, e180_11, e180_14, e180_15, e180_16, e180_19, e180_20, e180_23, e180_24, e180_25, e180_28, e180_29, e180_30, e180_33, e180_34, e180_35, e180_37, e180_40, e180_41, e180_42, e180_45, e180_46, e180_47, e180_50, e180_51, e180_53, e180_56, e180_57, e180_58, e180_61, e180_62, e180_63, e180_64, e180_65, e180_68, e180_69, e180_70, e180_71, e180_72, e180_76, e180_77, e180_80, e180_81, e180_84, e180_86, e180_87, e180_88, e180_90, e180_91, e180_92, e180_93, e180_96, e180_99, e180_100, psh0, psh1, psh3, true_or, or_true, eq_self, Option.bind_some, List.length_nil, List.length_cons, Nat.reduceAdd, Nat.reduceLeDiff, Nat.zero_le, ↓reduceIte, Int.reduceLT, Int.reduceEq, Int.reduceLE, Int.reduceNeg, Int.reduceAdd, Int.reduceMul, Int.reduceSub, ne_eq, not_true_eq_false, not_false_eq_true, and_true, true_and, and_false, false_and, c3lt, c3gt, c3eq, Bool.false_eq_true, isK_wr, inA_wr, inR_wr, kM, ct0, ct.2, cs0, cs3, c60, m_no, wrwr]
      by_cases cn : a2 < 0
      · refine opq hI 0 6 ?_ ?_
        · simp only [e107_0, e107_1, e107_4, e107_7, e107_8, e107_11, e107_12, e107_13, e107_16, e107_17, e107_18, e107_21, e107_22, e107_23, e107_25, e107_28, e107_29, e107_30, e107_33, e107_34, e107_35, e107_38, e107_39, e107_41, e107_44, e107_45, e107_46, e107_49, e107_50, e107_51, e107_52, e107_53, e107_56, e107_57, e107_60, psh0, psh1, psh3, true_or, or_true, eq_self, Option.bind_some, List.length_nil, List.length_cons, Nat.reduceAdd, Nat.reduceLeDiff, Nat.zero_le, ↓reduceIte, Int.reduceLT, Int.reduceEq, Int.reduceLE, Int.reduceNeg, Int.reduceAdd, Int.reduceMul, Int.reduceSub, ne_eq, not_true_eq_false, not_false_eq_true, and_true, true_and, and_false, false_and, c3lt, c3gt, c3eq, Bool.false_eq_true, isK_wr, inA_wr, inR_wr, k0, gt, cs0, cs.2, c60, cn, x_deny]
        · simp only [e180_0, e180_1, e180_2, e180_5, e180_6, e180_7, e180_10, e180_11, e180_14, e180_15, e180_16, e180_19, e180_20, e180_23, e180_24, e180_25, e180_28, e180_29, e180_30, e180_33, e180_34, e180_35, e180_37, e180_40, e180_41, e180_42, e180_45, e180_46, e180_47, e180_50, e180_51, e180_53, e180_56, e180_57, e180_58, e180_61, e180_62, e180_63, e180_64, e180_65, e180_68, e180_69, e180_70, e180_71, e180_72, e180_76, e180_77, e180_80, e180_81, e180_84, e180_86, e180_87, e180_88, e180_90, e180_91, e180_92, e180_93, e180_96, e180_99, e180_100, psh0, psh1, psh3, true_or, or_true, eq_self, Option.bind_some, List.length_nil, List.length_cons, Nat.reduceAdd, Nat.reduceLeDiff, Nat.zero_le, ↓reduceIte, Int.reduceLT, Int.reduceEq, Int.reduceLE, Int.reduceNeg, Int.reduceAdd, Int.reduceMul, Int.reduceSub, ne_eq, not_true_eq_false, not_false_eq_true, and_true, true_and, and_false, false_and, c3lt, c3gt, c3eq, Bool.false_eq_true, isK_wr, inA_wr, inR_wr, kM, ct0, ct.2, cs0, cs3, c60, cn, m_no, wrwr]
      have hct := CT_of hI.1 hI.2.1.1 ct.1 ct.2
      obtain ⟨q1, q2, q3, q4, q5, q6⟩ := id hct
      obtain ⟨N, rfl⟩ := Int.eq_ofNat_of_zero_le (show 0 ≤ a2 by omega)
      obtain ⟨tn1, tn2⟩ := trO_n ct.1 ct.2
      obtain ⟨tc1, tc2, tc3, tc4, tc5, tc6⟩ := trC_n ct.1 ct.2
      have n1 : (3 + 2 * a0 = 2 + 2 * a0) = False := eq_false (by omega)
      have hct1 : CT (mwr (mwr (mwr h (2 + 2 * a0) 1 1) (2 + 2 * a0) 2 a1) (2 + 2 * a0) 3 N) a0 := by
        refine ⟨q1, ?_, q3, ?_, q5, q6⟩
        · rw [rdn1 (by omega), rdn1 (by omega), rdn1 (by omega)]; exact q2
        · rw [rdn2 (by omega), rdn2 (by omega), rdn2 (by omega)]; exact q4
      have gl : EV (d + 59) 95 0 [(2, 2 + 2 * a0), (0, a1), (0, (N : Int)), (3, 0)] [] h = some ((3, 0), mfl (mwr (mwr (mwr h (2 + 2 * a0) 1 1) (2 + 2 * a0) 2 a1) (2 + 2 * a0) 3 N) (3 + 2 * a0) 0 60 0) := by
        simp only [e95_0, e95_1, e95_2, e95_5, e95_6, e95_7, e95_10, e95_11, e95_12, e95_15, e95_16, e95_18, e95_20, e95_23, e95_24, e95_27, e95_28, e95_29, e95_30, e95_33, e95_36, psh0, psh1, psh3, true_or, or_true, eq_self, Option.bind_some, List.length_nil, List.length_cons, Nat.reduceAdd, Nat.reduceLeDiff, Nat.zero_le, ↓reduceIte, Int.reduceLT, Int.reduceEq, Int.reduceLE, Int.reduceNeg, Int.reduceAdd, Int.reduceMul, Int.reduceSub, ne_eq, not_true_eq_false, not_false_eq_true, and_true, true_and, and_false, false_and, c3lt, c3gt, c3eq, Bool.false_eq_true, isK_wr, inA_wr, inR_wr, q3]
        have := x_lay_loop (d := d + 59) (x := a1) (y := N) hct1 ct.1 60 0 (by omega)
        rw [show ((0 : Nat) : Int) = 0 from rfl, mfl_0] at this
        exact this
      obtain ⟨m1, hm1⟩ : ∃ m1, m1 = mfl (mwr (mwr (mwr h (2 + 2 * a0) 1 1) (2 + 2 * a0) 2 a1) (2 + 2 * a0) 3 N) (3 + 2 * a0) 0 60 0 := ⟨_, rfl⟩
      rw [← hm1] at gl
      have cm1 : CM m1 := by
        rw [hm1]
        exact CM_flA tn2 (CM_wr tc6 (CM_wr tc5 (CM_wr tc4 (CM_of hI))))
      have cm2 : CM (mwr (mwr (mwr (mwr (mwr m1 0 11 0) 235 1 0) 235 0 0) 236 a0 a1) 237 a0 N) := CM_wrA rn_37 (CM_wrA rn_36 (CM_wr rn_m0 (CM_wr rn_m1 (CM_wr rn_st cm1))))
      have k0' : isK m1 0 10 := by rw [hm1]; exact k0
      have kM' : isK m1 235 11 := cm1.1
      have m4 : mrd m1 235 4 = 236 := rf_235_4 cm1.2.2
      have m5 : mrd m1 235 5 = 237 := rf_235_5 cm1.2.2
      have j1 : inA m1 236 16 a0 := ⟨kn_236 cm1.2.1, ct.1, by rw [ln_236 cm1.2.1]; omega⟩
      have j2 : inA m1 237 16 a0 := ⟨kn_237 cm1.2.1, ct.1, by rw [ln_237 cm1.2.1]; omega⟩
      have gm := m_tray_loop (d := d + 60) (x := a1) cm2 ct.1 ct.2 N (by omega) N 0 (by omega)
      rw [show ((0 : Nat) : Int) = 0 from rfl, mfl_0] at gm
      refine ⟨1, mwr m1 0 11 0, mfl (mwr (mwr (mwr (mwr (mwr m1 0 11 0) 235 1 0) 235 0 0) 236 a0 a1) 237 a0 N) 238 (60 * a0) N 0, ?_, ?_, ?_⟩
      · simp only [e107_0, e107_1, e107_4, e107_7, e107_8, e107_11, e107_12, e107_13, e107_16, e107_17, e107_18, e107_21, e107_22, e107_23, e107_25, e107_28, e107_29, e107_30, e107_33, e107_34, e107_35, e107_38, e107_39, e107_41, e107_44, e107_45, e107_46, e107_49, e107_50, e107_51, e107_52, e107_53, e107_56, e107_57, e107_60, psh0, psh1, psh3, true_or, or_true, eq_self, Option.bind_some, List.length_nil, List.length_cons, Nat.reduceAdd, Nat.reduceLeDiff, Nat.zero_le, ↓reduceIte, Int.reduceLT, Int.reduceEq, Int.reduceLE, Int.reduceNeg, Int.reduceAdd, Int.reduceMul, Int.reduceSub, ne_eq, not_true_eq_false, not_false_eq_true, and_true, true_and, and_false, false_and, c3lt, c3gt, c3eq, Bool.false_eq_true, isK_wr, inA_wr, inR_wr, k0, gt, cs0, cs.2, c60, cn, x0, q1, q2, q3, gl, k0', x_agree]
      · simp only [e180_0, e180_1, e180_2, e180_5, e180_6, e180_7, e180_10, e180_11, e180_14, e180_15, e180_16, e180_19, e180_20, e180_23, e180_24, e180_25, e180_28, e180_29, e180_30, e180_33, e180_34, e180_35, e180_37, e180_40, e180_41, e180_42, e180_45, e180_46, e180_47, e180_50, e180_51, e180_53, e180_56, e180_57, e180_58, e180_61, e180_62, e180_63, e180_64, e180_65, e180_68, e180_69, e180_70, e180_71, e180_72, e180_76, e180_77, e180_80, e180_81, e180_84, e180_86, e180_87, e180_88, e180_90, e180_91, e180_92, e180_93, e180_96, e180_99, e180_100, psh0, psh1, psh3, true_or, or_true, eq_self, Option.bind_some, List.length_nil, List.length_cons, Nat.reduceAdd, Nat.reduceLeDiff, Nat.zero_le, ↓reduceIte, Int.reduceLT, Int.reduceEq, Int.reduceLE, Int.reduceNeg, Int.reduceAdd, Int.reduceMul, Int.reduceSub, ne_eq, not_true_eq_false, not_false_eq_true, and_true, true_and, and_false, false_and, c3lt, c3gt, c3eq, Bool.false_eq_true, isK_wr, inA_wr, inR_wr, kM', ct0, ct.2, cs0, cs3, c60, cn, m4, m5, rdn1, rdn2, j1, j2]
        exact gm
      · have hr : ∀ b j, mrd (mfl (mwr (mwr (mwr (mwr (mwr m1 0 11 0) 235 1 0) 235 0 0) 236 a0 a1) 237 a0 N) 238 (60 * a0) N 0) b j = if b = 238 ∧ 60 * a0 ≤ j ∧ j < 60 * a0 + N then 0 else if b = 237 ∧ j = a0 then (N : Int) else if b = 236 ∧ j = a0 then a1 else if b = 235 ∧ j = 0 then 0 else if b = 235 ∧ j = 1 then 0 else if b = 0 ∧ j = 11 then 0 else if b = 3 + 2 * a0 ∧ 0 ≤ j ∧ j < 60 then 0 else if b = 2 + 2 * a0 ∧ j = 3 then (N : Int) else if b = 2 + 2 * a0 ∧ j = 2 then a1 else if b = 2 + 2 * a0 ∧ j = 1 then 1 else mrd h b j := by
          intro b j
          rw [hm1]
          simp only [rd_fl, rd_wr, Int.zero_add]
        refine Inv_mk hI (Rel_tray ?_ hI.2.1 ?_) ?_ cm2.2.1 (RSum_tr (h := h) (by rw [hm1]; rfl) ?_ hI) (by rw [hm1]; rfl)
        · rw [hm1]
          exact FrE_fl (by decide) (FrE_wr (Or.inr (Or.inl (by decide))) (FrE_wr (Or.inr (Or.inl (by decide))) (FrE_wr (Or.inl Scr_m0) (FrE_wr (Or.inl Scr_m1) (FrE_wr (Or.inl Scr_st) (FrE_fl tn1 (FrE_wr (Or.inr (Or.inr (Or.inl tc3))) (FrE_wr (Or.inr (Or.inr (Or.inl tc2))) (FrE_wr (Or.inr (Or.inr (Or.inl tc1))) FrE.rf)))))))))
        · intro u u0 u1
          show RTry (mrd _) u
          have hu : RTry (mrd h) u := hI.2.1.2.2.1 u u0 u1
          by_cases c : u = a0
          · subst c
            right
            refine ⟨?_, ⟨?_, ?_, ?_⟩, ⟨?_, ?_, ?_⟩, fun q z0 z1 => ?_⟩
            · rw [hr]; grind
            · rw [hr, hr]; grind
            · rw [hr]; grind
            · rw [hr]; grind
            · rw [hr, hr]; grind
            · rw [hr]; grind
            · rw [hr]; grind
            · rw [hr] at z1
              rw [hr, hr]; grind
          · refine RTry_of (m := mrd h) (funext fun i => ?_) (funext fun i => ?_) ?_ ?_ (fun q _ _ => ?_) hu
            · rw [hr]; grind
            · rw [hr]; grind
            · rw [hr]; grind
            · rw [hr]; grind
            · rw [hr]; grind
        · rw [hr, hr]; grind
        · rw [hr]; grind
    · refine opq hI 0 1 ?_ ?_
      · by_cases cs0 : a1 < 0
        · simp only [e107_0, e107_1, e107_4, e107_7, e107_8, e107_11, e107_12, e107_13, e107_16, e107_17, e107_18, e107_21, e107_22, e107_23, e107_25, e107_28, e107_29, e107_30, e107_33, e107_34, e107_35, e107_38, e107_39, e107_41, e107_44, e107_45, e107_46, e107_49, e107_50, e107_51, e107_52, e107_53, e107_56, e107_57, e107_60, psh0, psh1, psh3, true_or, or_true, eq_self, Option.bind_some, List.length_nil, List.length_cons, Nat.reduceAdd, Nat.reduceLeDiff, Nat.zero_le, ↓reduceIte, Int.reduceLT, Int.reduceEq, Int.reduceLE, Int.reduceNeg, Int.reduceAdd, Int.reduceMul, Int.reduceSub, ne_eq, not_true_eq_false, not_false_eq_true, and_true, true_and, and_false, false_and, c3lt, c3gt, c3eq, Bool.false_eq_true, isK_wr, inA_wr, inR_wr, k0, gt, cs0, x_deny]
        · have cs4 : ¬ a1 < 4 := by omega
          simp only [e107_0, e107_1, e107_4, e107_7, e107_8, e107_11, e107_12, e107_13, e107_16, e107_17, e107_18, e107_21, e107_22, e107_23, e107_25, e107_28, e107_29, e107_30, e107_33, e107_34, e107_35, e107_38, e107_39, e107_41, e107_44, e107_45, e107_46, e107_49, e107_50, e107_51, e107_52, e107_53, e107_56, e107_57, e107_60, psh0, psh1, psh3, true_or, or_true, eq_self, Option.bind_some, List.length_nil, List.length_cons, Nat.reduceAdd, Nat.reduceLeDiff, Nat.zero_le, ↓reduceIte, Int.reduceLT, Int.reduceEq, Int.reduceLE, Int.reduceNeg, Int.reduceAdd, Int.reduceMul, Int.reduceSub, ne_eq, not_true_eq_false, not_false_eq_true, and_true, true_and, and_false, false_and, c3lt, c3gt, c3eq, Bool.false_eq_true, isK_wr, inA_wr, inR_wr, k0, gt, cs0, cs4, x_deny]
      · by_cases cs0 : a1 < 0
        · simp only [e180_0, e180_1, e180_2, e180_5, e180_6, e180_7, e180_10, e180_11, e180_14, e180_15, e180_16, e180_19, e180_20, e180_23, e180_24, e180_25, e180_28, e180_29, e180_30, e180_33, e180_34, e180_35, e180_37, e180_40, e180_41, e180_42, e180_45, e180_46, e180_47, e180_50, e180_51, e180_53, e180_56, e180_57, e180_58, e180_61, e180_62, e180_63, e180_64, e180_65, e180_68, e180_69, e180_70, e180_71, e180_72, e180_76, e180_77, e180_80, e180_81, e180_84, e180_86, e180_87, e180_88, e180_90, e180_91, e180_92, e180_93, e180_96, e180_99, e180_100, psh0, psh1, psh3, true_or, or_true, eq_self, Option.bind_some, List.length_nil, List.length_cons, Nat.reduceAdd, Nat.reduceLeDiff, Nat.zero_le, ↓reduceIte, Int.reduceLT, Int.reduceEq, Int.reduceLE, Int.reduceNeg, Int.reduceAdd, Int.reduceMul, Int.reduceSub, ne_eq, not_true_eq_false, not_false_eq_true, and_true, true_and, and_false, false_and, c3lt, c3gt, c3eq, Bool.false_eq_true, isK_wr, inA_wr, inR_wr, kM, ct0, ct.2, cs0, m_no, wrwr]
        · have cs3 : 3 < a1 := by omega
          simp only [e180_0, e180_1, e180_2, e180_5, e180_6, e180_7, e180_10, e180_11, e180_14, e180_15, e180_16, e180_19, e180_20, e180_23, e180_24, e180_25, e180_28, e180_29, e180_30, e180_33, e180_34, e180_35, e180_37, e180_40, e180_41, e180_42, e180_45, e180_46, e180_47, e180_50, e180_51, e180_53, e180_56, e180_57, e180_58, e180_61, e180_62, e180_63, e180_64, e180_65, e180_68, e180_69, e180_70, e180_71, e180_72, e180_76, e180_77, e180_80, e180_81, e180_84, e180_86, e180_87, e180_88, e180_90, e180_91, e180_92, e180_93, e180_96, e180_99, e180_100, psh0, psh1, psh3, true_or, or_true, eq_self, Option.bind_some, List.length_nil, List.length_cons, Nat.reduceAdd, Nat.reduceLeDiff, Nat.zero_le, ↓reduceIte, Int.reduceLT, Int.reduceEq, Int.reduceLE, Int.reduceNeg, Int.reduceAdd, Int.reduceMul, Int.reduceSub, ne_eq, not_true_eq_false, not_false_eq_true, and_true, true_and, and_false, false_and, c3lt, c3gt, c3eq, Bool.false_eq_true, isK_wr, inA_wr, inR_wr, kM, ct0, ct.2, cs0, cs3, m_no, wrwr]
  · rw [if_neg ct] at gt
    refine opq hI 0 1 ?_ ?_
    · simp only [e107_0, e107_1, e107_4, e107_7, e107_8, e107_11, e107_12, e107_13, e107_16, e107_17, e107_18, e107_21, e107_22, e107_23, e107_25, e107_28, e107_29, e107_30, e107_33, e107_34, e107_35, e107_38, e107_39, e107_41, e107_44, e107_45, e107_46, e107_49, e107_50, e107_51, e107_52, e107_53, e107_56, e107_57, e107_60, psh0, psh1, psh3, true_or, or_true, eq_self, Option.bind_some, List.length_nil, List.length_cons, Nat.reduceAdd, Nat.reduceLeDiff, Nat.zero_le, ↓reduceIte, Int.reduceLT, Int.reduceEq, Int.reduceLE, Int.reduceNeg, Int.reduceAdd, Int.reduceMul, Int.reduceSub, ne_eq, not_true_eq_false, not_false_eq_true, and_true, true_and, and_false, false_and, c3lt, c3gt, c3eq, Bool.false_eq_true, isK_wr, inA_wr, inR_wr, k0, gt, x_deny]
    · by_cases ct0 : a0 < 0
      · simp only [e180_0, e180_1, e180_2, e180_5, e180_6, e180_7, e180_10, e180_11, e180_14, e180_15, e180_16, e180_19, e180_20, e180_23, e180_24, e180_25, e180_28, e180_29, e180_30, e180_33, e180_34, e180_35, e180_37, e180_40, e180_41, e180_42, e180_45, e180_46, e180_47, e180_50, e180_51, e180_53, e180_56, e180_57, e180_58, e180_61, e180_62, e180_63, e180_64, e180_65, e180_68, e180_69, e180_70, e180_71, e180_72, e180_76, e180_77, e180_80, e180_81, e180_84, e180_86, e180_87, e180_88, e180_90, e180_91, e180_92, e180_93, e180_96, e180_99, e180_100, psh0, psh1, psh3, true_or, or_true, eq_self, Option.bind_some, List.length_nil, List.length_cons, Nat.reduceAdd, Nat.reduceLeDiff, Nat.zero_le, ↓reduceIte, Int.reduceLT, Int.reduceEq, Int.reduceLE, Int.reduceNeg, Int.reduceAdd, Int.reduceMul, Int.reduceSub, ne_eq, not_true_eq_false, not_false_eq_true, and_true, true_and, and_false, false_and, c3lt, c3gt, c3eq, Bool.false_eq_true, isK_wr, inA_wr, inR_wr, kM, ct0, m_no, wrwr]
      · have ct4 : ¬ a0 < 4 := by omega
        simp only [e180_0, e180_1, e180_2, e180_5, e180_6, e180_7, e180_10, e180_11, e180_14, e180_15, e180_16, e180_19, e180_20, e180_23, e180_24, e180_25, e180_28, e180_29, e180_30, e180_33, e180_34, e180_35, e180_37, e180_40, e180_41, e180_42, e180_45, e180_46, e180_47, e180_50, e180_51, e180_53, e180_56, e180_57, e180_58, e180_61, e180_62, e180_63, e180_64, e180_65, e180_68, e180_69, e180_70, e180_71, e180_72, e180_76, e180_77, e180_80, e180_81, e180_84, e180_86, e180_87, e180_88, e180_90, e180_91, e180_92, e180_93, e180_96, e180_99, e180_100, psh0, psh1, psh3, true_or, or_true, eq_self, Option.bind_some, List.length_nil, List.length_cons, Nat.reduceAdd, Nat.reduceLeDiff, Nat.zero_le, ↓reduceIte, Int.reduceLT, Int.reduceEq, Int.reduceLE, Int.reduceNeg, Int.reduceAdd, Int.reduceMul, Int.reduceSub, ne_eq, not_true_eq_false, not_false_eq_true, and_true, true_and, and_false, false_and, c3lt, c3gt, c3eq, Bool.false_eq_true, isK_wr, inA_wr, inR_wr, kM, ct0, ct4, m_no, wrwr]

/-! told names, on the two sides -/
def bdP (f : Int → Int) : Nat → Bool := fun p => decide (¬ (1 ≤ f p ∧ f p ≤ 26))
def tdF (h : AM) (t : Int) : Int → Int := fun p => mrd h 238 (60 * t + p)
def TS (h : AM) (t n : Int) : Int := if RW h t n 0 = 0 then (if fI (bdP (tdF h t)) 0 n.toNat = n.toNat then 0 else 5) else RW h t n 0
theorem rn_243 : refT.all (fun q => !(q.1 == 243)) = true := by decide +kernel
theorem rn_149 : refT.all (fun q => !(q.1 == 149)) = true := by decide +kernel
theorem SC.rf {h : AM} (hp : Shp h) (hr : RSum h) : SC h h := ⟨hp, hr, rfl, fun _ _ _ _ _ _ => rfl⟩
theorem SC_ff {h h' : AM} {i n : Int} {f : Int → Int} (hs : SC h h') : SC h (mff h' 149 i n f) := by
  obtain ⟨s1, s2, s3, s4⟩ := hs
  refine ⟨s1, RSum_eq (h := h') rfl (rdff (by decide)) s2, s3, fun b j h1 h2 h3 h4 => ?_⟩
  rw [rdff h3]
  exact s4 b j h1 h2 h3 h4
section
variable {d : Nat} {h g : AM} {s a b c k l p t v w x y z : Int}
theorem x_hear_loop (hct : CT h t) (t0 : 0 ≤ t) (t1 : t < 4) (k148 : isK h 148 7) (q0 : mrd h 148 0 = 149) (k149 : isK h 149 16) (l149 : mln h 149 = 12) (n : Nat) (n12 : n ≤ 12) (m : Nat) : ∀ (i : Nat) (l4 l5 : AV), i + m = n → EV d 82 2 [(2, 148), (2, 2 + 2 * t), (0, (n : Int)), (0, (i : Int)), l4, l5] [] (mff h 149 0 i (mrd h (3 + 2 * t))) = some (if fI (bdP (mrd h (3 + 2 * t))) i m = n then ((0, 1), mwr (mff h 149 0 n (mrd h (3 + 2 * t))) 148 2 n) else ((0, 0), mff h 149 0 ((fI (bdP (mrd h (3 + 2 * t))) i m : Nat) : Int) (mrd h (3 + 2 * t)))) := by
  obtain ⟨q1, q2, q3, q4, q5, q6⟩ := hct
  have n2 : (2 + 2 * t = 149) = False := eq_false (by omega)
  have n3 : (3 + 2 * t = 149) = False := eq_false (by omega)
  induction m with
  | zero =>
    intro i l4 l5 hi
    have e : i = n := by omega
    subst e
    rw [e82_2, fI, if_pos rfl]
    simp only [e82_0, e82_1, e82_3, e82_4, e82_7, e82_8, e82_11, e82_12, e82_13, e82_15, e82_17, e82_18, e82_19, e82_22, e82_24, e82_27, e82_28, e82_31, e82_32, e82_33, e82_34, e82_37, e82_38, e82_40, e82_41, e82_42, e82_45, e82_48, e82_49, e82_50, e82_53, e82_54, psh0, psh1, psh3, true_or, or_true, eq_self, Option.bind_some, List.length_nil, List.length_cons, Nat.reduceAdd, Nat.reduceLeDiff, Nat.zero_le, ↓reduceIte, Int.reduceLT, Int.reduceEq, Int.reduceLE, Int.reduceNeg, Int.reduceAdd, Int.reduceMul, Int.reduceSub, ne_eq, not_true_eq_false, not_false_eq_true, and_true, true_and, and_false, false_and, c3lt, c3gt, c3eq, Bool.false_eq_true, isK_wr, inA_wr, inR_wr, isK_ff, k148, Int.lt_irrefl]
  | succ m ih =>
    intro i l4 l5 hi
    have ci : (i : Int) < n := by omega
    have w1 : w32 ((i : Int) + 1) = ((i + 1 : Nat) : Int) := by rw [w32_id (by omega) (by omega)]; omega
    have i1 : inA h (3 + 2 * t) 19 i := ⟨q5, by omega, by rw [q6]; omega⟩
    have i2 : inA h 149 16 i := ⟨k149, by omega, by rw [l149]; omega⟩
    rw [e82_2, fI]
    by_cases cb : 1 ≤ mrd h (3 + 2 * t) i ∧ mrd h (3 + 2 * t) i ≤ 26
    · have c1 : ¬ mrd h (3 + 2 * t) i < 1 := by omega
      have c2 : ¬ 26 < mrd h (3 + 2 * t) i := by omega
      have w2 : w32 (mrd h (3 + 2 * t) i) = mrd h (3 + 2 * t) i := w32_id (by omega) (by omega)
      have e := mff_s (h := h) (a := 149) (i := 0) (n := i) (f := mrd h (3 + 2 * t)) (by omega)
      rw [Int.zero_add] at e
      rw [if_neg (show ¬ bdP (mrd h (3 + 2 * t)) i = true by unfold bdP; rw [decide_eq_true_iff]; exact fun z => z cb), ← ih (i + 1) (1, mrd h (3 + 2 * t) i) (3, 1) (by omega)]
      simp only [e82_0, e82_1, e82_3, e82_4, e82_7, e82_8, e82_11, e82_12, e82_13, e82_15, e82_17, e82_18, e82_19, e82_22, e82_24, e82_27, e82_28, e82_31, e82_32, e82_33, e82_34, e82_37, e82_38, e82_40, e82_41, e82_42, e82_45, e82_48, e82_49, e82_50, e82_53, e82_54, psh0, psh1, psh3, true_or, or_true, eq_self, Option.bind_some, List.length_nil, List.length_cons, Nat.reduceAdd, Nat.reduceLeDiff, Nat.zero_le, ↓reduceIte, Int.reduceLT, Int.reduceEq, Int.reduceLE, Int.reduceNeg, Int.reduceAdd, Int.reduceMul, Int.reduceSub, ne_eq, not_true_eq_false, not_false_eq_true, and_true, true_and, and_false, false_and, c3lt, c3gt, c3eq, Bool.false_eq_true, isK_wr, inA_wr, inR_wr, ci, isK_ff, inA_ff, k148, q3, rdff, n2, n3, q4, i1, c1, c2, q0, w2, i2, w1, e]
      rfl
    · rw [if_pos (show bdP (mrd h (3 + 2 * t)) i = true from decide_eq_true cb), if_neg (show ¬ i = n by omega)]
      by_cases c1 : mrd h (3 + 2 * t) i < 1
      · simp only [e82_0, e82_1, e82_3, e82_4, e82_7, e82_8, e82_11, e82_12, e82_13, e82_15, e82_17, e82_18, e82_19, e82_22, e82_24, e82_27, e82_28, e82_31, e82_32, e82_33, e82_34, e82_37, e82_38, e82_40, e82_41, e82_42, e82_45, e82_48, e82_49, e82_50, e82_53, e82_54, psh0, psh1, psh3, true_or, or_true, eq_self, Option.bind_some, List.length_nil, List.length_cons, Nat.reduceAdd, Nat.reduceLeDiff, Nat.zero_le, ↓reduceIte, Int.reduceLT, Int.reduceEq, Int.reduceLE, Int.reduceNeg, Int.reduceAdd, Int.reduceMul, Int.reduceSub, ne_eq, not_true_eq_false, not_false_eq_true, and_true, true_and, and_false, false_and, c3lt, c3gt, c3eq, Bool.false_eq_true, isK_wr, inA_wr, inR_wr, ci, isK_ff, inA_ff, k148, q3, rdff, n2, n3, q4, i1, c1]
      · have c2 : 26 < mrd h (3 + 2 * t) i := by omega
        simp only [e82_0, e82_1, e82_3, e82_4, e82_7, e82_8, e82_11, e82_12, e82_13, e82_15, e82_17, e82_18, e82_19, e82_22, e82_24, e82_27, e82_28, e82_31, e82_32, e82_33, e82_34, e82_37, e82_38, e82_40, e82_41, e82_42, e82_45, e82_48, e82_49, e82_50, e82_53, e82_54, psh0, psh1, psh3, true_or, or_true, eq_self, Option.bind_some, List.length_nil, List.length_cons, Nat.reduceAdd, Nat.reduceLeDiff, Nat.zero_le, ↓reduceIte, Int.reduceLT, Int.reduceEq, Int.reduceLE, Int.reduceNeg, Int.reduceAdd, Int.reduceMul, Int.reduceSub, ne_eq, not_true_eq_false, not_false_eq_true, and_true, true_and, and_false, false_and, c3lt, c3gt, c3eq, Bool.false_eq_true, isK_wr, inA_wr, inR_wr, ci, isK_ff, inA_ff, k148, q3, rdff, n2, n3, q4, i1, c1, c2]
theorem m_told_loop (hm : CM g) (t0 : 0 ≤ t) (t1 : t < 4) (n : Nat) (n12 : n ≤ 12) (m : Nat) : ∀ i : Nat, i + m = n → EV (d + 1) 289 65 [(2, 235), (0, t), (0, (n : Int)), (0, (i : Int))] [] (mff g 243 0 i (tdF g t)) = if fI (bdP (tdF g t)) i m = n then EV (d + 1) 289 111 [(2, 235), (0, t), (0, (n : Int)), (0, (n : Int))] [] (mff g 243 0 n (tdF g t)) else some ((0, 0), mwr (mff g 243 0 ((fI (bdP (tdF g t)) i m : Nat) : Int) (tdF g t)) 235 0 5) := by
  have hmm : ∀ j, CM (mff g 243 0 j (tdF g t)) := fun j => CM_ffA rn_243 hm
  have m26 : mrd g 235 26 = 243 := rf_235_26 hm.2.2
  induction m with
  | zero =>
    intro i hi
    have e : i = n := by omega
    subst e
    rw [e289_65, fI, if_pos rfl]
    simp only [e289_0, e289_1, e289_2, e289_5, e289_8, e289_9, e289_10, e289_13, e289_14, e289_15, e289_18, e289_19, e289_20, e289_23, e289_24, e289_25, e289_28, e289_29, e289_30, e289_33, e289_34, e289_35, e289_36, e289_39, e289_40, e289_41, e289_44, e289_45, e289_46, e289_47, e289_48, e289_51, e289_54, e289_57, e289_58, e289_59, e289_62, e289_63, e289_64, e289_66, e289_67, e289_70, e289_71, e289_72, e289_73, e289_76, e289_77, e289_80, e289_83, e289_86, e289_87, e289_88, e289_91, e289_92, e289_93, e289_96, e289_97, e289_98, e289_99, e289_100, e289_103, e289_104, e289_105, e289_108, e289_112, e289_113, e289_116, e289_117, e289_120, e289_121, psh0, psh1, psh3, true_or, or_true, eq_self, Option.bind_some, List.length_nil, List.length_cons, Nat.reduceAdd, Nat.reduceLeDiff, Nat.zero_le, ↓reduceIte, Int.reduceLT, Int.reduceEq, Int.reduceLE, Int.reduceNeg, Int.reduceAdd, Int.reduceMul, Int.reduceSub, ne_eq, not_true_eq_false, not_false_eq_true, and_true, true_and, and_false, false_and, c3lt, c3gt, c3eq, Bool.false_eq_true, isK_wr, inA_wr, inR_wr, Int.lt_irrefl]
  | succ m ih =>
    intro i hi
    have ci : (i : Int) < n := by omega
    have w1 : w32 ((i : Int) + 1) = ((i + 1 : Nat) : Int) := by rw [w32_id (by omega) (by omega)]; omega
    have i2 : inA g 243 16 i := ⟨kn_243 hm.2.1, by omega, by rw [ln_243 hm.2.1]; omega⟩
    have gn := m_numberOf (d := d) (p := (i : Int)) (hmm i) t0 t1 (by omega) (by omega)
    have en : mrd (mff g 243 0 i (tdF g t)) 238 (60 * t + i) = tdF g t i := rdff (by decide)
    rw [en] at gn
    rw [e289_65, fI]
    by_cases cb : 1 ≤ tdF g t i ∧ tdF g t i ≤ 26
    · have w2 : w32 (tdF g t i) = tdF g t i := w32_id (by omega) (by omega)
      have e := mff_s (h := g) (a := 243) (i := 0) (n := i) (f := tdF g t) (by omega)
      rw [Int.zero_add] at e
      rw [if_neg (show ¬ bdP (tdF g t) i = true by unfold bdP; rw [decide_eq_true_iff]; exact fun z => z cb), ← ih (i + 1) (by omega)]
      simp only [e289_0, e289_1, e289_2, e289_5, e289_8, e289_9, e289_10, e289_13, e289_14, e289_15, e289_18, e289_19, e289_20, e289_23, e289_24, e289_25, e289_28, e289_29, e289_30, e289_33, e289_34, e289_35, e289_36, e289_39, e289_40, e289_41, e289_44, e289_45, e289_46, e289_47, e289_48, e289_51, e289_54, e289_57, e289_58, e289_59, e289_62, e289_63, e289_64, e289_66, e289_67, e289_70, e289_71, e289_72, e289_73, e289_76, e289_77, e289_80, e289_83, e289_86, e289_87, e289_88, e289_91, e289_92, e289_93, e289_96, e289_97, e289_98, e289_99, e289_100, e289_103, e289_104, e289_105, e289_108, e289_112, e289_113, e289_116, e289_117, e289_120, e289_121, psh0, psh1, psh3, true_or, or_true, eq_self, Option.bind_some, List.length_nil, List.length_cons, Nat.reduceAdd, Nat.reduceLeDiff, Nat.zero_le, ↓reduceIte, Int.reduceLT, Int.reduceEq, Int.reduceLE, Int.reduceNeg, Int.reduceAdd, Int.reduceMul, Int.reduceSub, ne_eq, not_true_eq_false, not_false_eq_true, and_true, true_and, and_false, false_and, c3lt, c3gt, c3eq, Bool.false_eq_true, isK_wr, inA_wr, inR_wr, ci, isK_ff, inA_ff, hm.1, gn, m_isIn, cb, rdff, m26, w2, i2, w1, e]
      rfl
    · rw [if_pos (show bdP (tdF g t) i = true from decide_eq_true cb), if_neg (show ¬ i = n by omega)]
      simp only [e289_0, e289_1, e289_2, e289_5, e289_8, e289_9, e289_10, e289_13, e289_14, e289_15, e289_18, e289_19, e289_20, e289_23, e289_24, e289_25, e289_28, e289_29, e289_30, e289_33, e289_34, e289_35, e289_36, e289_39, e289_40, e289_41, e289_44, e289_45, e289_46, e289_47, e289_48, e289_51, e289_54, e289_57, e289_58, e289_59, e289_62, e289_63, e289_64, e289_66, e289_67, e289_70, e289_71, e289_72, e289_73, e289_76, e289_77, e289_80, e289_83, e289_86, e289_87, e289_88, e289_91, e289_92, e289_93, e289_96, e289_97, e289_98, e289_99, e289_100, e289_103, e289_104, e289_105, e289_108, e289_112, e289_113, e289_116, e289_117, e289_120, e289_121, psh0, psh1, psh3, true_or, or_true, eq_self, Option.bind_some, List.length_nil, List.length_cons, Nat.reduceAdd, Nat.reduceLeDiff, Nat.zero_le, ↓reduceIte, Int.reduceLT, Int.reduceEq, Int.reduceLE, Int.reduceNeg, Int.reduceAdd, Int.reduceMul, Int.reduceSub, ne_eq, not_true_eq_false, not_false_eq_true, and_true, true_and, and_false, false_and, c3lt, c3gt, c3eq, Bool.false_eq_true, isK_wr, inA_wr, inR_wr, ci, isK_ff, inA_ff, hm.1, gn, m_isIn, cb, m_no]
end
theorem RW_0 {h : AM} {t n lo : Int} (e : RW h t n lo = 0) : (0 ≤ t ∧ t < 4) ∧ 0 ≤ mrd h 237 t ∧ n ≤ mrd h 237 t ∧ lo ≤ n ∧ n ≤ 12 := by
  unfold RW at e
  by_cases c1 : 0 ≤ t ∧ t < 4
  · rw [if_pos c1] at e
    by_cases c2 : mrd h 237 t < 0
    · rw [if_pos c2] at e; omega
    · rw [if_neg c2] at e
      by_cases c3 : mrd h 237 t < n
      · rw [if_pos c3] at e; omega
      · rw [if_neg c3] at e
        by_cases c4 : lo ≤ n ∧ n ≤ 12
        · exact ⟨c1, by omega, by omega, c4⟩
        · rw [if_neg c4] at e; omega
  · rw [if_neg c1] at e; omega
/-- the class hears a told name -/
theorem x_askTold {d : Nat} {h : AM} {t n : Int} (hI : Inv h) : ∃ h', EV (d + 2) 168 0 [(2, 0), (0, t), (0, n), (3, 0)] [] h = some ((0, TS h t n), h') ∧ SC h h' ∧ (TS h t n = 0 → mrd h' 148 2 = n ∧ ∀ p : Nat, (p : Int) < n → mrd h' 149 p = tdF h t p) := by
  obtain ⟨s, e8, hs, k0, kM, cs, ds⟩ := ctx hI
  have x0 : mrd h 0 0 = 1 := rf_0_0 hI.2.1.1
  have x6 : mrd h 0 6 = 148 := rf_0_6 hI.2.1.1
  have q0 : mrd h 148 0 = 149 := rf_148_0 hI.2.1.1
  have k148 := kn_148 hI.1
  have gx := x_askRow (d := d) (t := t) (x := n) (y := 0) k0 x0 (fun t0 t1 => CT_of hI.1 hI.2.1.1 t0 t1) (fun t0 t1 => hI.2.1.2.2.1 t t0 t1)
  have sc0 := SC.rf hI.1 hI.2.2.2.1
  unfold TS
  by_cases c : RW h t n 0 = 0
  · rw [c] at gx
    rw [if_pos c]
    obtain ⟨c1, c2, c3, c4, c5⟩ := RW_0 c
    obtain ⟨m, rfl⟩ := Int.eq_ofNat_of_zero_le c4
    have hct := CT_of hI.1 hI.2.1.1 c1.1 c1.2
    obtain ⟨q1, q2, q3, q4, q5, q6⟩ := id hct
    have rt : RTry (mrd h) t := hI.2.1.2.2.1 t c1.1 c1.2
    rcases rt with ⟨-, e2⟩ | ⟨e1, e2, e3, e4⟩
    · omega
    have gl := x_hear_loop (d := d + 1) hct c1.1 c1.2 k148 q0 (kn_149 hI.1) (ln_149 hI.1) m (by omega) m 0 (3, 0) (3, 0) (by omega)
    rw [show ((0 : Nat) : Int) = 0 from rfl, mff_0] at gl
    have eP : fI (bdP (mrd h (3 + 2 * t))) 0 m = fI (bdP (tdF h t)) 0 m := fI_congr m 0 (fun j _ hj => by
      unfold bdP
      rw [e4 j (by omega) (by omega)]
      rfl)
    have gl' : EV (d + 1) 82 0 [(2, 148), (2, 2 + 2 * t), (0, (m : Int)), (3, 0), (3, 0), (3, 0)] [] h = some (if fI (bdP (tdF h t)) 0 m = m then ((0, 1), mwr (mff h 149 0 m (mrd h (3 + 2 * t))) 148 2 m) else ((0, 0), mff h 149 0 ((fI (bdP (tdF h t)) 0 m : Nat) : Int) (mrd h (3 + 2 * t)))) := by
      rw [← eP]
      refine Eq.trans ?_ gl
      simp only [e82_0, e82_1, e82_3, e82_4, e82_7, e82_8, e82_11, e82_12, e82_13, e82_15, e82_17, e82_18, e82_19, e82_22, e82_24, e82_27, e82_28, e82_31, e82_32, e82_33, e82_34, e82_37, e82_38, e82_40, e82_41, e82_42, e82_45, e82_48, e82_49, e82_50, e82_53, e82_54, psh0, psh1, psh3, true_or, or_true, eq_self, Option.bind_some, List.length_nil, List.length_cons, Nat.reduceAdd, Nat.reduceLeDiff, Nat.zero_le, ↓reduceIte, Int.reduceLT, Int.reduceEq, Int.reduceLE, Int.reduceNeg, Int.reduceAdd, Int.reduceMul, Int.reduceSub, ne_eq, not_true_eq_false, not_false_eq_true, and_true, true_and, and_false, false_and, c3lt, c3gt, c3eq, Bool.false_eq_true, isK_wr, inA_wr, inR_wr]
    rw [show ((m : Int)).toNat = m from rfl]
    by_cases ca : fI (bdP (tdF h t)) 0 m = m
    · rw [if_pos ca] at gl'
      rw [if_pos ca]
      refine ⟨mwr (mff h 149 0 m (mrd h (3 + 2 * t))) 148 2 m, ?_, SC_wr (SC_ff sc0) (Or.inr (Or.inl ⟨rfl, Or.inl rfl⟩)), fun _ => ⟨rde, fun p hp => ?_⟩⟩
      · simp only [e168_0, e168_1, e168_2, e168_3, e168_4, e168_7, e168_8, e168_9, e168_12, e168_13, e168_14, e168_15, e168_18, e168_19, e168_22, e168_23, e168_24, e168_25, e168_28, e168_31, e168_32, e168_35, e168_36, psh0, psh1, psh3, true_or, or_true, eq_self, Option.bind_some, List.length_nil, List.length_cons, Nat.reduceAdd, Nat.reduceLeDiff, Nat.zero_le, ↓reduceIte, Int.reduceLT, Int.reduceEq, Int.reduceLE, Int.reduceNeg, Int.reduceAdd, Int.reduceMul, Int.reduceSub, ne_eq, not_true_eq_false, not_false_eq_true, and_true, true_and, and_false, false_and, c3lt, c3gt, c3eq, Bool.false_eq_true, isK_wr, inA_wr, inR_wr, k0, gx, x6, x0, q1, q2, k148, gl']
      · rw [rdn1 (by decide), rd_ff, if_pos ⟨rfl, by omega, by omega⟩, Int.sub_zero, e4 p (by omega) (by omega)]
        rfl
    · rw [if_neg ca] at gl'
      rw [if_neg ca]
      refine ⟨mff h 149 0 ((fI (bdP (tdF h t)) 0 m : Nat) : Int) (mrd h (3 + 2 * t)), ?_, SC_ff sc0, fun z => by omega⟩
      simp only [e168_0, e168_1, e168_2, e168_3, e168_4, e168_7, e168_8, e168_9, e168_12, e168_13, e168_14, e168_15, e168_18, e168_19, e168_22, e168_23, e168_24, e168_25, e168_28, e168_31, e168_32, e168_35, e168_36, psh0, psh1, psh3, true_or, or_true, eq_self, Option.bind_some, List.length_nil, List.length_cons, Nat.reduceAdd, Nat.reduceLeDiff, Nat.zero_le, ↓reduceIte, Int.reduceLT, Int.reduceEq, Int.reduceLE, Int.reduceNeg, Int.reduceAdd, Int.reduceMul, Int.reduceSub, ne_eq, not_true_eq_false, not_false_eq_true, and_true, true_and, and_false, false_and, c3lt, c3gt, c3eq, Bool.false_eq_true, isK_wr, inA_wr, inR_wr, k0, gx, x6, x0, q1, q2, k148, gl']
  · rw [if_neg c]
    refine ⟨h, ?_, sc0, fun z => absurd z c⟩
    simp only [e168_0, e168_1, e168_2, e168_3, e168_4, e168_7, e168_8, e168_9, e168_12, e168_13, e168_14, e168_15, e168_18, e168_19, e168_22, e168_23, e168_24, e168_25, e168_28, e168_31, e168_32, e168_35, e168_36, psh0, psh1, psh3, true_or, or_true, eq_self, Option.bind_some, List.length_nil, List.length_cons, Nat.reduceAdd, Nat.reduceLeDiff, Nat.zero_le, ↓reduceIte, Int.reduceLT, Int.reduceEq, Int.reduceLE, Int.reduceNeg, Int.reduceAdd, Int.reduceMul, Int.reduceSub, ne_eq, not_true_eq_false, not_false_eq_true, and_true, true_and, and_false, false_and, c3lt, c3gt, c3eq, Bool.false_eq_true, isK_wr, inA_wr, inR_wr, k0, gx, c]
/-- the row of a told name is laid and filled -/
def Laid (h g : AM) (n : Int) (f : Int → Int) (N : Nat) : Prop := mrd g 235 27 = n ∧ (∀ p : Nat, (p : Int) < n → mrd g 243 p = f p) ∧ RowsU g g N (2 ^ N) ∧ CM g
theorem RowsU_self {g g0 : AM} {N st : Nat} (hq : FQ g0 g) (hr : FR g0 N) (hu : RowsU g g0 N st) : RowsU g g N st := by
  obtain ⟨-, eok⟩ := FR_fq hr hq
  have e4 : ∀ i, mrd g 240 i = mrd g0 240 i := fun i => hq.2 _ _ (by decide) (by decide) (by decide)
  unfold RowsU at hu ⊢
  rw [eok]
  simp only [e4]
  exact hu
theorem SF.fq {h h1 h2 : AM} (hf : SF h h1) (a : FQ h1 h2) : SF h h2 := by
  refine hf.st a.1 (fun x i hn => a.2 x i (fun z => hn ?_) (fun z => hn ?_) (fun z => hn ?_)) (a.2 _ _ (by decide) (by decide) (by decide))
  · rw [z]; exact Or.inl (by decide +kernel)
  · rw [z]; exact Or.inl (by decide +kernel)
  · rw [z]; exact Or.inl (by decide +kernel)
theorem SF.ff {h h1 : AM} {i n : Int} {f : Int → Int} (hf : SF h h1) : SF h (mff h1 243 i n f) := by
  refine hf.st rfl (fun x j hn => ?_) (rdff (by decide))
  refine rdff (fun z => hn ?_)
  rw [z]; exact Or.inl (by decide +kernel)
theorem m_isTold {d : Nat} {h g : AM} {t n : Int} (hI : Inv h) (hf : SF h g) (N : Nat) (hN : mrd h 240 1 = N) : ∃ g', EV (d + 3) 289 0 [(2, 235), (0, t), (0, n), (3, 0)] [] g = some ((0, if TS h t n = 0 then 1 else 0), g') ∧ SF h g' ∧ mrd g' 0 11 = mrd g 0 11 ∧ (TS h t n = 0 → mrd g' 235 0 = mrd g 235 0 ∧ Laid h g' n (tdF h t) N) ∧ (TS h t n ≠ 0 → mrd g' 235 0 = TS h t n) := by
  obtain ⟨s, e8, hs, k0, kM, cs, ds⟩ := ctx hI
  obtain ⟨d5, d6, d7, d8, dl, dc⟩ := ds
  have cm := hf.cm hI
  have m5 : mrd g 235 5 = 237 := rf_235_5 cm.2.2
  have gt := m_isTray (d := d + 1) (c := t) cm.1
  have e37 : ∀ i, mrd g 237 i = mrd h 237 i := fun i => congrFun (Fr_A hf.1 (by decide +kernel)) i
  have e38 : ∀ i, mrd g 238 i = mrd h 238 i := fun i => congrFun (Fr_A hf.1 (by decide +kernel)) i
  have etd : tdF g t = tdF h t := funext fun p => e38 _
  unfold TS RW
  by_cases ct : 0 ≤ t ∧ t < 4
  · have ct3 : 0 ≤ t ∧ t ≤ 3 := by omega
    rw [if_pos ct3] at gt
    rw [if_pos ct]
    have j2 : inA g 237 16 t := ⟨kn_237 cm.2.1, ct.1, by rw [ln_237 cm.2.1]; omega⟩
    by_cases c3 : mrd h 237 t < 0
    · simp only [if_pos c3, Int.reduceEq, if_false]
      refine ⟨mwr g 235 0 3, ?_, hf.wr Scr_m0 (by omega), rdn1 (by decide), fun z => by simp at z, fun _ => rde⟩
      simp only [e289_0, e289_1, e289_2, e289_5, e289_8, e289_9, e289_10, e289_13, e289_14, e289_15, e289_18, e289_19, e289_20, e289_23, e289_24, e289_25, e289_28, e289_29, e289_30, e289_33, e289_34, e289_35, e289_36, e289_39, e289_40, e289_41, e289_44, e289_45, e289_46, e289_47, e289_48, e289_51, e289_54, e289_57, e289_58, e289_59, e289_62, e289_63, e289_64, e289_66, e289_67, e289_70, e289_71, e289_72, e289_73, e289_76, e289_77, e289_80, e289_83, e289_86, e289_87, e289_88, e289_91, e289_92, e289_93, e289_96, e289_97, e289_98, e289_99, e289_100, e289_103, e289_104, e289_105, e289_108, e289_111, e289_112, e289_113, e289_116, e289_117, e289_120, e289_121, psh0, psh1, psh3, true_or, or_true, eq_self, Option.bind_some, List.length_nil, List.length_cons, Nat.reduceAdd, Nat.reduceLeDiff, Nat.zero_le, ↓reduceIte, Int.reduceLT, Int.reduceEq, Int.reduceLE, Int.reduceNeg, Int.reduceAdd, Int.reduceMul, Int.reduceSub, ne_eq, not_true_eq_false, not_false_eq_true, and_true, true_and, and_false, false_and, c3lt, c3gt, c3eq, Bool.false_eq_true, isK_wr, inA_wr, inR_wr, cm.1, gt, m5, j2, e37, c3, m_no]
    simp only [if_neg c3]
    by_cases c4 : mrd h 237 t < n
    · simp only [if_pos c4, Int.reduceEq, if_false]
      refine ⟨mwr g 235 0 4, ?_, hf.wr Scr_m0 (by omega), rdn1 (by decide), fun z => by simp at z, fun _ => rde⟩
      simp only [e289_0, e289_1, e289_2, e289_5, e289_8, e289_9, e289_10, e289_13, e289_14, e289_15, e289_18, e289_19, e289_20, e289_23, e289_24, e289_25, e289_28, e289_29, e289_30, e289_33, e289_34, e289_35, e289_36, e289_39, e289_40, e289_41, e289_44, e289_45, e289_46, e289_47, e289_48, e289_51, e289_54, e289_57, e289_58, e289_59, e289_62, e289_63, e289_64, e289_66, e289_67, e289_70, e289_71, e289_72, e289_73, e289_76, e289_77, e289_80, e289_83, e289_86, e289_87, e289_88, e289_91, e289_92, e289_93, e289_96, e289_97, e289_98, e289_99, e289_100, e289_103, e289_104, e289_105, e289_108, e289_111, e289_112, e289_113, e289_116, e289_117, e289_120, e289_121, psh0, psh1, psh3, true_or, or_true, eq_self, Option.bind_some, List.length_nil, List.length_cons, Nat.reduceAdd, Nat.reduceLeDiff, Nat.zero_le, ↓reduceIte, Int.reduceLT, Int.reduceEq, Int.reduceLE, Int.reduceNeg, Int.reduceAdd, Int.reduceMul, Int.reduceSub, ne_eq, not_true_eq_false, not_false_eq_true, and_true, true_and, and_false, false_and, c3lt, c3gt, c3eq, Bool.false_eq_true, isK_wr, inA_wr, inR_wr, cm.1, gt, m5, j2, e37, c3, c4, m_no]
    simp only [if_neg c4]
    by_cases c5 : 0 ≤ n ∧ n ≤ 12
    · simp only [if_pos c5, if_true]
      obtain ⟨m, rfl⟩ := Int.eq_ofNat_of_zero_le c5.1
      rw [show ((m : Int)).toNat = m from rfl]
      have gl := m_told_loop (d := d + 2) cm ct.1 ct.2 m (by omega) m 0 (by omega)
      rw [show ((0 : Nat) : Int) = 0 from rfl, mff_0, etd] at gl
      by_cases ca : fI (bdP (tdF h t)) 0 m = m
      · rw [if_pos ca] at gl
        simp only [if_pos ca, if_true]
        have hall := fI_all ca
        obtain ⟨g1, hg1⟩ : ∃ g1, g1 = mwr (mff g 243 0 m (tdF h t)) 235 27 m := ⟨_, rfl⟩
        have hf1 : SF h g1 := by rw [hg1]; exact hf.ff.wr (Or.inr (Or.inr (by decide +kernel))) (by omega)
        have cm1 := hf1.cm hI
        have e27 : mrd g1 235 27 = m := by rw [hg1, rde]
        have er : ∀ p : Nat, (p : Int) < m → mrd g1 243 p = tdF h t p := fun p hp => by
          rw [hg1, rdn1 (by decide), rd_ff, if_pos ⟨rfl, by omega, by omega⟩, Int.sub_zero]
        have fr1 : FR g1 N := by
          refine ⟨cm1, by rw [hf1.c]; exact hN, by omega, by rw [e27]; omega, fun p hp => ?_, fun l hl => ?_⟩
          · rw [e27] at hp
            rw [er p hp]
            have := hall p (by omega)
            unfold bdP at this
            rw [decide_eq_false_iff_not] at this
            have : 1 ≤ tdF h t p ∧ tdF h t p ≤ 26 := Classical.byContradiction fun z => this z
            omega
          · obtain ⟨p1, p2, p3, p4, p5, p6⟩ := dl l (by omega) (by omega)
            rw [hf1.c, hf1.c]
            omega
        obtain ⟨g2, f1, f2, f3⟩ := m_fill (d := d) fr1
        have hf2 := hf1.fq f2
        refine ⟨g2, ?_, hf2, ?_, fun _ => ⟨?_, ?_, ?_, ?_, hf2.cm hI⟩, fun z => absurd rfl z⟩
        · have gk : isK (mff g 243 0 m (tdF h t)) 235 11 := cm.1
          simp only [e289_0, e289_1, e289_2, e289_5, e289_8, e289_9, e289_10, e289_13, e289_14, e289_15, e289_18, e289_19, e289_20, e289_23, e289_24, e289_25, e289_28, e289_29, e289_30, e289_33, e289_34, e289_35, e289_36, e289_39, e289_40, e289_41, e289_44, e289_45, e289_46, e289_47, e289_48, e289_51, e289_54, e289_57, e289_58, e289_59, e289_62, e289_63, e289_64, e289_66, e289_67, e289_70, e289_71, e289_72, e289_73, e289_76, e289_77, e289_80, e289_83, e289_86, e289_87, e289_88, e289_91, e289_92, e289_93, e289_96, e289_97, e289_98, e289_99, e289_100, e289_103, e289_104, e289_105, e289_108, e289_112, e289_113, e289_116, e289_117, e289_120, e289_121, psh0, psh1, psh3, true_or, or_true, eq_self, Option.bind_some, List.length_nil, List.length_cons, Nat.reduceAdd, Nat.reduceLeDiff, Nat.zero_le, ↓reduceIte, Int.reduceLT, Int.reduceEq, Int.reduceLE, Int.reduceNeg, Int.reduceAdd, Int.reduceMul, Int.reduceSub, ne_eq, not_true_eq_false, not_false_eq_true, and_true, true_and, and_false, false_and, c3lt, c3gt, c3eq, Bool.false_eq_true, isK_wr, inA_wr, inR_wr, cm.1, gt, m5, j2, e37, c3, c4, m_isIn, c5]
          refine gl.trans ?_
          rw [e289_111]
          simp only [e289_0, e289_1, e289_2, e289_5, e289_8, e289_9, e289_10, e289_13, e289_14, e289_15, e289_18, e289_19, e289_20, e289_23, e289_24, e289_25, e289_28, e289_29, e289_30, e289_33, e289_34, e289_35, e289_36, e289_39, e289_40, e289_41, e289_44, e289_45, e289_46, e289_47, e289_48, e289_51, e289_54, e289_57, e289_58, e289_59, e289_62, e289_63, e289_64, e289_66, e289_67, e289_70, e289_71, e289_72, e289_73, e289_76, e289_77, e289_80, e289_83, e289_86, e289_87, e289_88, e289_91, e289_92, e289_93, e289_96, e289_97, e289_98, e289_99, e289_100, e289_103, e289_104, e289_105, e289_108, e289_112, e289_113, e289_116, e289_117, e289_120, e289_121, psh0, psh1, psh3, true_or, or_true, eq_self, Option.bind_some, List.length_nil, List.length_cons, Nat.reduceAdd, Nat.reduceLeDiff, Nat.zero_le, ↓reduceIte, Int.reduceLT, Int.reduceEq, Int.reduceLE, Int.reduceNeg, Int.reduceAdd, Int.reduceMul, Int.reduceSub, ne_eq, not_true_eq_false, not_false_eq_true, and_true, true_and, and_false, false_and, c3lt, c3gt, c3eq, Bool.false_eq_true, isK_wr, inA_wr, inR_wr, gk, ← hg1, cm1.1, f1]
        · rw [f2.2 _ _ (by decide) (by decide) (by decide), hg1, rdn1 (by decide), rdff (by decide)]
        · rw [f2.2 _ _ (by decide) (by decide) (by decide), hg1, rdn2 (by decide), rdff (by decide)]
        · rw [f2.2 _ _ (by decide) (by decide) (by decide)]; exact e27
        · intro p hp
          rw [f2.2 _ _ (by decide) (by decide) (by decide)]
          exact er p hp
        · exact RowsU_self f2 fr1 f3
      · rw [if_neg ca] at gl
        simp only [if_neg ca, Int.reduceEq, if_false]
        refine ⟨mwr (mff g 243 0 ((fI (bdP (tdF h t)) 0 m : Nat) : Int) (tdF h t)) 235 0 5, ?_, hf.ff.wr Scr_m0 (by omega), by rw [rdn1 (by decide)]; exact rdff (by decide), fun z => by simp at z, fun _ => rde⟩
        simp only [e289_0, e289_1, e289_2, e289_5, e289_8, e289_9, e289_10, e289_13, e289_14, e289_15, e289_18, e289_19, e289_20, e289_23, e289_24, e289_25, e289_28, e289_29, e289_30, e289_33, e289_34, e289_35, e289_36, e289_39, e289_40, e289_41, e289_44, e289_45, e289_46, e289_47, e289_48, e289_51, e289_54, e289_57, e289_58, e289_59, e289_62, e289_63, e289_64, e289_66, e289_67, e289_70, e289_71, e289_72, e289_73, e289_76, e289_77, e289_80, e289_83, e289_86, e289_87, e289_88, e289_91, e289_92, e289_93, e289_96, e289_97, e289_98, e289_99, e289_100, e289_103, e289_104, e289_105, e289_108, e289_112, e289_113, e289_116, e289_117, e289_120, e289_121, psh0, psh1, psh3, true_or, or_true, eq_self, Option.bind_some, List.length_nil, List.length_cons, Nat.reduceAdd, Nat.reduceLeDiff, Nat.zero_le, ↓reduceIte, Int.reduceLT, Int.reduceEq, Int.reduceLE, Int.reduceNeg, Int.reduceAdd, Int.reduceMul, Int.reduceSub, ne_eq, not_true_eq_false, not_false_eq_true, and_true, true_and, and_false, false_and, c3lt, c3gt, c3eq, Bool.false_eq_true, isK_wr, inA_wr, inR_wr, cm.1, gt, m5, j2, e37, c3, c4, m_isIn, c5]
        exact gl
    · simp only [if_neg c5, Int.reduceEq, if_false]
      refine ⟨mwr g 235 0 5, ?_, hf.wr Scr_m0 (by omega), rdn1 (by decide), fun z => by simp at z, fun _ => rde⟩
      simp only [e289_0, e289_1, e289_2, e289_5, e289_8, e289_9, e289_10, e289_13, e289_14, e289_15, e289_18, e289_19, e289_20, e289_23, e289_24, e289_25, e289_28, e289_29, e289_30, e289_33, e289_34, e289_35, e289_36, e289_39, e289_40, e289_41, e289_44, e289_45, e289_46, e289_47, e289_48, e289_51, e289_54, e289_57, e289_58, e289_59, e289_62, e289_63, e289_64, e289_66, e289_67, e289_70, e289_71, e289_72, e289_73, e289_76, e289_77, e289_80, e289_83, e289_86, e289_87, e289_88, e289_91, e289_92, e289_93, e289_96, e289_97, e289_98, e289_99, e289_100, e289_103, e289_104, e289_105, e289_108, e289_111, e289_112, e289_113, e289_116, e289_117, e289_120, e289_121, psh0, psh1, psh3, true_or, or_true, eq_self, Option.bind_some, List.length_nil, List.length_cons, Nat.reduceAdd, Nat.reduceLeDiff, Nat.zero_le, ↓reduceIte, Int.reduceLT, Int.reduceEq, Int.reduceLE, Int.reduceNeg, Int.reduceAdd, Int.reduceMul, Int.reduceSub, ne_eq, not_true_eq_false, not_false_eq_true, and_true, true_and, and_false, false_and, c3lt, c3gt, c3eq, Bool.false_eq_true, isK_wr, inA_wr, inR_wr, cm.1, gt, m5, j2, e37, c3, c4, m_isIn, c5, m_no]
  · have ct3 : ¬ (0 ≤ t ∧ t ≤ 3) := by omega
    rw [if_neg ct3] at gt
    simp only [if_neg ct, Int.reduceEq, if_false]
    refine ⟨mwr g 235 0 1, ?_, hf.wr Scr_m0 (by omega), rdn1 (by decide), fun z => by simp at z, fun _ => rde⟩
    simp only [e289_0, e289_1, e289_2, e289_5, e289_8, e289_9, e289_10, e289_13, e289_14, e289_15, e289_18, e289_19, e289_20, e289_23, e289_24, e289_25, e289_28, e289_29, e289_30, e289_33, e289_34, e289_35, e289_36, e289_39, e289_40, e289_41, e289_44, e289_45, e289_46, e289_47, e289_48, e289_51, e289_54, e289_57, e289_58, e289_59, e289_62, e289_63, e289_64, e289_66, e289_67, e289_70, e289_71, e289_72, e289_73, e289_76, e289_77, e289_80, e289_83, e289_86, e289_87, e289_88, e289_91, e289_92, e289_93, e289_96, e289_97, e289_98, e289_99, e289_100, e289_103, e289_104, e289_105, e289_108, e289_111, e289_112, e289_113, e289_116, e289_117, e289_120, e289_121, psh0, psh1, psh3, true_or, or_true, eq_self, Option.bind_some, List.length_nil, List.length_cons, Nat.reduceAdd, Nat.reduceLeDiff, Nat.zero_le, ↓reduceIte, Int.reduceLT, Int.reduceEq, Int.reduceLE, Int.reduceNeg, Int.reduceAdd, Int.reduceMul, Int.reduceSub, ne_eq, not_true_eq_false, not_false_eq_true, and_true, true_and, and_false, false_and, c3lt, c3gt, c3eq, Bool.false_eq_true, isK_wr, inA_wr, inR_wr, cm.1, gt, m_no]

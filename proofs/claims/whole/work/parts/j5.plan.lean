/-! plans: the call -/
def plO : List Int := [153, 154, 156, 157, 158, 159, 253, 254, 255]
def plC : List (Int × Int) := [(152, 3), (152, 6), (235, 42)]
theorem Rel_pln {m m' : Int → Int → Int} (hf : FrE plO plC 0 0 m m') (h : Rel m) (hn : RPln m') : Rel m' := by
  obtain ⟨h1, h2, h3, h4, h5, h6, h7, h8, h9, h10⟩ := h
  exact Rel_mk (RRef_E hf (by decide +kernel) h1) (RNum_E hf (by decide +kernel) h2) (RTrys_E hf (by decide +kernel) h3) (RTap_E hf (by decide +kernel) h4) hn (RLiv_E hf (by decide +kernel) h6) (RFst_E hf (by decide +kernel) h7) (RPtr_E hf (by decide +kernel) h8) (RCur_E hf (by decide +kernel) (by decide) (by decide) h8 h9) (RMrk_E hf (by decide +kernel) (by decide) (by decide) h10)
theorem WP_eq {h g : AM} (e7 : ∀ i, mrd g 237 i = mrd h 237 i) (e8 : ∀ i, mrd g 238 i = mrd h 238 i) (e4 : ∀ i, mrd g 240 i = mrd h 240 i) (k : Int) : WP g k = WP h k := by
  unfold WP WPa WPk
  simp only [PN_eq e7, e8, e4]
theorem PDh_eq {h g : AM} (e7 : ∀ i, mrd g 237 i = mrd h 237 i) (e8 : ∀ i, mrd g 238 i = mrd h 238 i) (e4 : ∀ i, mrd g 240 i = mrd h 240 i) : PDh g = PDh h := by
  unfold PDh
  simp only [PN_eq e7, e8, e4]
theorem RTry_pn {h : AM} {t : Int} (hr : RTry (mrd h) t) : (mrd h 237 t = -1 ∨ 0 ≤ mrd h 237 t) ∧ PN h t ≤ 60 := by
  unfold PN
  rcases hr with ⟨-, e⟩ | ⟨-, -, e, -⟩
  · exact ⟨Or.inl e, by rw [e]; decide⟩
  · exact ⟨Or.inr (by omega), by omega⟩
section
variable {d : Nat} {h g : AM} {s : Int}
theorem x_plans_loop {nc : Nat} (hI : Inv h) (e8 : mrd h 0 8 = s) (cs : CS h s) (ds : DS h s) (hn : mrd h 240 2 = nc) (n : Nat) : ∀ (i : Nat) (l2 : AV), i + n = nc → ∃ l2', EV (d + 3) 150 2 [(2, 0), (0, (i : Int)), l2] [] h = if fI (fun k => decide (WP h k ≠ 0)) i n = nc then EV (d + 3) 150 49 [(2, 0), (0, (nc : Int)), l2'] [] h else some ((0, -1), mwr h 0 11 (WP h (fI (fun k => decide (WP h k ≠ 0)) i n : Nat))) := by
  have k0 : isK h 0 10 := kn_0 hI.1
  have x0 : mrd h 0 0 = 1 := rf_0_0 hI.2.1.1
  have e7 : mrd h s 7 = nc := ds.2.2.1.1.trans hn
  have n4 : nc ≤ 4 := by have := ds.2.2.1.2.2; omega
  have r2 := cs.2.2.2.1
  induction n with
  | zero =>
    intro i l2 hi
    have e : i = nc := by omega
    subst e
    refine ⟨l2, ?_⟩
    rw [e150_2, fI, if_pos rfl]
    simp only [e150_0, e150_1, e150_3, e150_4, e150_7, e150_10, e150_13, e150_14, e150_15, e150_18, e150_21, e150_22, e150_23, e150_24, e150_27, e150_28, e150_29, e150_32, e150_33, e150_34, e150_37, e150_38, e150_39, e150_42, e150_43, e150_46, e150_50, e150_53, e150_54, e150_57, e150_58, e150_61, e150_64, e150_65, e150_66, e150_69, e150_72, e150_75, psh0, psh1, psh3, true_or, or_true, eq_self, Option.bind_some, List.length_nil, List.length_cons, Nat.reduceAdd, Nat.reduceLeDiff, Nat.zero_le, ↓reduceIte, Int.reduceLT, Int.reduceEq, Int.reduceLE, Int.reduceNeg, Int.reduceAdd, Int.reduceMul, Int.reduceSub, ne_eq, not_true_eq_false, not_false_eq_true, and_true, true_and, and_false, false_and, c3lt, c3gt, c3eq, Bool.false_eq_true, isK_wr, inA_wr, inR_wr, k0, e8, cs.1, e7, Int.lt_irrefl]
  | succ n ih =>
    intro i l2 hi
    have ci : (i : Int) < nc := by omega
    have w1 : w32 ((i : Int) + 1) = ((i + 1 : Nat) : Int) := by rw [w32_id (by omega) (by omega)]; omega
    have hct := CT_of hI.1 hI.2.1.1 (t := (i : Int)) (by omega) (by omega)
    obtain ⟨q1, q2, q3, q4, q5, q6⟩ := id hct
    obtain ⟨t1, t2, t3, t4, t5, t6⟩ := cs.2.2.2.2.2.2.2.2.2.2.2.2 i (by omega) (by omega)
    have ga := x_askPlan (d := d) (k := (i : Int)) k0 e8 cs ds hct (hI.2.1.2.2.1 i (by omega) (by omega)) (by omega) (by rw [hn]; exact ci)
    by_cases c : WP h i = 0
    · obtain ⟨l2', g1⟩ := ih (i + 1) (0, 0) (by omega)
      refine ⟨l2', ?_⟩
      rw [fI, if_neg (show ¬ decide (WP h i ≠ 0) = true by rw [decide_eq_true_iff]; exact fun z => z c), ← g1, e150_2]
      simp only [e150_0, e150_1, e150_3, e150_4, e150_7, e150_10, e150_13, e150_14, e150_15, e150_18, e150_21, e150_22, e150_23, e150_24, e150_27, e150_28, e150_29, e150_32, e150_33, e150_34, e150_37, e150_38, e150_39, e150_42, e150_43, e150_46, e150_50, e150_53, e150_54, e150_57, e150_58, e150_61, e150_64, e150_65, e150_66, e150_69, e150_72, e150_75, psh0, psh1, psh3, true_or, or_true, eq_self, Option.bind_some, List.length_nil, List.length_cons, Nat.reduceAdd, Nat.reduceLeDiff, Nat.zero_le, ↓reduceIte, Int.reduceLT, Int.reduceEq, Int.reduceLE, Int.reduceNeg, Int.reduceAdd, Int.reduceMul, Int.reduceSub, ne_eq, not_true_eq_false, not_false_eq_true, and_true, true_and, and_false, false_and, c3lt, c3gt, c3eq, Bool.false_eq_true, isK_wr, inA_wr, inR_wr, k0, e8, cs.1, e7, ci, r2, x0, q1, q2, t1, t2, ga, c, w1]
    · refine ⟨l2, ?_⟩
      rw [fI, if_pos (show decide (WP h i ≠ 0) = true from decide_eq_true c), if_neg (show ¬ i = nc by omega), e150_2]
      simp only [e150_0, e150_1, e150_3, e150_4, e150_7, e150_10, e150_13, e150_14, e150_15, e150_18, e150_21, e150_22, e150_23, e150_24, e150_27, e150_28, e150_29, e150_32, e150_33, e150_34, e150_37, e150_38, e150_39, e150_42, e150_43, e150_46, e150_50, e150_53, e150_54, e150_57, e150_58, e150_61, e150_64, e150_65, e150_66, e150_69, e150_72, e150_75, psh0, psh1, psh3, true_or, or_true, eq_self, Option.bind_some, List.length_nil, List.length_cons, Nat.reduceAdd, Nat.reduceLeDiff, Nat.zero_le, ↓reduceIte, Int.reduceLT, Int.reduceEq, Int.reduceLE, Int.reduceNeg, Int.reduceAdd, Int.reduceMul, Int.reduceSub, ne_eq, not_true_eq_false, not_false_eq_true, and_true, true_and, and_false, false_and, c3lt, c3gt, c3eq, Bool.false_eq_true, isK_wr, inA_wr, inR_wr, k0, e8, cs.1, e7, ci, r2, x0, q1, q2, t1, t2, ga, c, x_refuse]
theorem WP_pos (k : Int) : 0 ≤ WP h k := by
  unfold WP
  split
  · split
    · omega
    · split <;> omega
  · omega
theorem m_plans_loop {nc : Nat} (hm : CM g) (hn : mrd g 240 2 = nc) (n4 : nc ≤ 4) (N0 : 0 ≤ mrd g 240 1) (N12 : mrd g 240 1 ≤ 12) (hk : ∀ k : Int, 0 ≤ k → k < nc → (mrd g 237 k = -1 ∨ 0 ≤ mrd g 237 k) ∧ PN g k ≤ 60 ∧ 0 ≤ mrd g 240 (76 + k) ∧ mrd g 240 (76 + k) ≤ 12) (l3 : AV) (n : Nat) : ∀ (i : Nat) (l2 : AV), i + n = nc → ∃ l2', EV (d + 3) 309 12 [(2, 235), (0, (i : Int)), l2, l3] [] g = if fI (fun k => decide (WP g k ≠ 0)) i n = nc then EV (d + 3) 309 44 [(2, 235), (0, (nc : Int)), l2', l3] [] g else some ((0, -1), mwr g 235 0 (WP g (fI (fun k => decide (WP g k ≠ 0)) i n : Nat))) := by
  have ic := inC hm (j := 2) (by decide) (by decide)
  induction n with
  | zero =>
    intro i l2 hi
    have e : i = nc := by omega
    subst e
    refine ⟨l2, ?_⟩
    rw [e309_12, fI, if_pos rfl]
    simp only [e309_0, e309_1, e309_2, e309_5, e309_6, e309_7, e309_10, e309_11, e309_13, e309_14, e309_17, e309_18, e309_19, e309_22, e309_23, e309_24, e309_27, e309_28, e309_29, e309_32, e309_33, e309_34, e309_37, e309_38, e309_41, e309_45, e309_46, e309_47, e309_48, e309_51, e309_52, e309_55, e309_56, e309_57, e309_58, e309_59, e309_62, e309_63, e309_64, e309_65, e309_66, e309_69, e309_70, e309_71, e309_72, e309_73, e309_76, e309_77, e309_78, e309_79, e309_82, e309_85, e309_86, e309_87, e309_88, e309_89, e309_92, e309_95, e309_98, e309_101, e309_102, e309_103, e309_104, e309_105, e309_106, e309_107, e309_110, e309_111, e309_112, e309_115, e309_116, e309_119, e309_120, e309_121, e309_122, e309_125, e309_126, e309_127, e309_128, e309_131, e309_132, e309_133, e309_136, e309_137, e309_140, e309_143, e309_144, e309_145, e309_148, e309_149, e309_150, e309_153, e309_154, psh0, psh1, psh3, true_or, or_true, eq_self, Option.bind_some, List.length_nil, List.length_cons, Nat.reduceAdd, Nat.reduceLeDiff, Nat.zero_le, ↓reduceIte, Int.reduceLT, Int.reduceEq, Int.reduceLE, Int.reduceNeg, Int.reduceAdd, Int.reduceMul, Int.reduceSub, ne_eq, not_true_eq_false, not_false_eq_true, and_true, true_and, and_false, false_and, c3lt, c3gt, c3eq, Bool.false_eq_true, isK_wr, inA_wr, inR_wr, hm.1, mC hm, ic, hn, Int.lt_irrefl]
  | succ n ih =>
    intro i l2 hi
    have ci : (i : Int) < nc := by omega
    have w1 : w32 ((i : Int) + 1) = ((i + 1 : Nat) : Int) := by rw [w32_id (by omega) (by omega)]; omega
    obtain ⟨a1, a2, a3, a4⟩ := hk i (by omega) ci
    have ga := m_whyNoPlan (d := d) (k := (i : Int)) hm (by omega) (by omega) a1 a2 N0 N12 a3 a4
    have hp := WP_pos (h := g) i
    by_cases c : WP g i = 0
    · obtain ⟨l2', g1⟩ := ih (i + 1) (0, 0) (by omega)
      refine ⟨l2', ?_⟩
      rw [fI, if_neg (show ¬ decide (WP g i ≠ 0) = true by rw [decide_eq_true_iff]; exact fun z => z c), ← g1, e309_12]
      simp only [e309_0, e309_1, e309_2, e309_5, e309_6, e309_7, e309_10, e309_11, e309_13, e309_14, e309_17, e309_18, e309_19, e309_22, e309_23, e309_24, e309_27, e309_28, e309_29, e309_32, e309_33, e309_34, e309_37, e309_38, e309_41, e309_45, e309_46, e309_47, e309_48, e309_51, e309_52, e309_55, e309_56, e309_57, e309_58, e309_59, e309_62, e309_63, e309_64, e309_65, e309_66, e309_69, e309_70, e309_71, e309_72, e309_73, e309_76, e309_77, e309_78, e309_79, e309_82, e309_85, e309_86, e309_87, e309_88, e309_89, e309_92, e309_95, e309_98, e309_101, e309_102, e309_103, e309_104, e309_105, e309_106, e309_107, e309_110, e309_111, e309_112, e309_115, e309_116, e309_119, e309_120, e309_121, e309_122, e309_125, e309_126, e309_127, e309_128, e309_131, e309_132, e309_133, e309_136, e309_137, e309_140, e309_143, e309_144, e309_145, e309_148, e309_149, e309_150, e309_153, e309_154, psh0, psh1, psh3, true_or, or_true, eq_self, Option.bind_some, List.length_nil, List.length_cons, Nat.reduceAdd, Nat.reduceLeDiff, Nat.zero_le, ↓reduceIte, Int.reduceLT, Int.reduceEq, Int.reduceLE, Int.reduceNeg, Int.reduceAdd, Int.reduceMul, Int.reduceSub, ne_eq, not_true_eq_false, not_false_eq_true, and_true, true_and, and_false, false_and, c3lt, c3gt, c3eq, Bool.false_eq_true, isK_wr, inA_wr, inR_wr, hm.1, mC hm, ic, hn, ci, ga, c, w1]
    · have c' : 0 < WP g i := by omega
      refine ⟨l2, ?_⟩
      rw [fI, if_pos (show decide (WP g i ≠ 0) = true from decide_eq_true c), if_neg (show ¬ i = nc by omega), e309_12]
      simp only [e309_0, e309_1, e309_2, e309_5, e309_6, e309_7, e309_10, e309_11, e309_13, e309_14, e309_17, e309_18, e309_19, e309_22, e309_23, e309_24, e309_27, e309_28, e309_29, e309_32, e309_33, e309_34, e309_37, e309_38, e309_41, e309_45, e309_46, e309_47, e309_48, e309_51, e309_52, e309_55, e309_56, e309_57, e309_58, e309_59, e309_62, e309_63, e309_64, e309_65, e309_66, e309_69, e309_70, e309_71, e309_72, e309_73, e309_76, e309_77, e309_78, e309_79, e309_82, e309_85, e309_86, e309_87, e309_88, e309_89, e309_92, e309_95, e309_98, e309_101, e309_102, e309_103, e309_104, e309_105, e309_106, e309_107, e309_110, e309_111, e309_112, e309_115, e309_116, e309_119, e309_120, e309_121, e309_122, e309_125, e309_126, e309_127, e309_128, e309_131, e309_132, e309_133, e309_136, e309_137, e309_140, e309_143, e309_144, e309_145, e309_148, e309_149, e309_150, e309_153, e309_154, psh0, psh1, psh3, true_or, or_true, eq_self, Option.bind_some, List.length_nil, List.length_cons, Nat.reduceAdd, Nat.reduceLeDiff, Nat.zero_le, ↓reduceIte, Int.reduceLT, Int.reduceEq, Int.reduceLE, Int.reduceNeg, Int.reduceAdd, Int.reduceMul, Int.reduceSub, ne_eq, not_true_eq_false, not_false_eq_true, and_true, true_and, and_false, false_and, c3lt, c3gt, c3eq, Bool.false_eq_true, isK_wr, inA_wr, inR_wr, hm.1, mC hm, ic, hn, ci, ga, c', m_refuse]
end
set_option maxHeartbeats 1000000 in
theorem op_plans : Op_plans Inv := by
  intro d h hI
  obtain ⟨s, e8, hs, k0, kM, cs, ds⟩ := ctx hI
  have ds' := ds
  have ks := cs.1
  have r1 := cs.2.2.1
  have r2 := cs.2.2.2.1
  have r3 := cs.2.2.2.2.1
  have kl := cs.2.2.2.2.2.2.2.2.2.2.2.1
  have kc := cs.2.2.2.2.2.2.2.2.2.2.2.2
  obtain ⟨d5, d6, d7, d8, dl, dc⟩ := ds
  have hm : ∀ v, CM (mwr (mwr (mwr h 0 11 v) 235 1 0) 235 0 0) := fun v => CM_q (CM_of hI)
  obtain ⟨nc, hn⟩ := Int.eq_ofNat_of_zero_le d7.2.1
  have n4 : nc ≤ 4 := by omega
  have hT := hI.2.1.2.2.1
  obtain ⟨lx, gx⟩ := x_plans_loop (d := d + 57) hI e8 cs ds' hn nc 0 (3, 0) (by omega)
  have gx0 : EV (d + 60) 150 0 [(2, 0), (3, 0), (3, 0)] [] h = EV (d + 60) 150 2 [(2, 0), (0, 0), (3, 0)] [] h := by
    simp only [e150_0, e150_1]
  have gx : EV (d + 60) 150 2 [(2, 0), (0, 0), (3, 0)] [] h = _ := gx
  -- the reference, up to 12, from any memory like h
  have ref : ∀ h1 : AM, CM h1 → (∀ a i, a = 237 ∨ a = 238 ∨ a = 240 → mrd h1 a i = mrd h a i) → ∃ l2', EV (d + 60) 309 0 [(2, 235), (3, 0), (3, 0), (3, 0)] [] h1 = if fI (fun k => decide (WP h k ≠ 0)) 0 nc = nc then EV (d + 60) 309 44 [(2, 235), (0, (nc : Int)), l2', (3, 0)] [] (mwr (mwr h1 235 1 0) 235 0 0) else some ((0, -1), mwr (mwr (mwr h1 235 1 0) 235 0 0) 235 0 (WP h (fI (fun k => decide (WP h k ≠ 0)) 0 nc : Nat))) := by
    intro h1 cm e4
    have cm' : CM (mwr (mwr h1 235 1 0) 235 0 0) := CM_wr rn_m0 (CM_wr rn_m1 cm)
    have z : ∀ a i, a = 237 ∨ a = 238 ∨ a = 240 → mrd (mwr (mwr h1 235 1 0) 235 0 0) a i = mrd h a i := fun a i ha => by
      rw [rdn1 (by omega), rdn1 (by omega)]; exact e4 a i ha
    have z7 := fun i => z 237 i (by omega)
    have z8 := fun i => z 238 i (by omega)
    have z4 := fun i => z 240 i (by omega)
    obtain ⟨l2', g1⟩ := m_plans_loop (d := d + 57) (nc := nc) cm' (by rw [z4]; exact hn) n4 (by rw [z4]; omega) (by rw [z4]; omega) (fun k k0 k1 => by
      have q := RTry_pn (hT k k0 (by omega))
      have q2 := (dc k k0 (by omega)).2.2.2.1
      rw [z7, PN_eq z7, z4]
      exact ⟨q.1, q.2, q2.2⟩) (3, 0) nc 0 (3, 0) (by omega)
    refine ⟨l2', ?_⟩
    simp only [WP_eq z7 z8 z4] at g1
    rw [← g1]
    simp only [e309_0, e309_1, e309_2, e309_5, e309_6, e309_7, e309_10, e309_11, psh0, psh1, psh3, true_or, or_true, eq_self, Option.bind_some, List.length_nil, List.length_cons, Nat.reduceAdd, Nat.reduceLeDiff, Nat.zero_le, ↓reduceIte, Int.reduceLT, Int.reduceEq, Int.reduceLE, Int.reduceNeg, Int.reduceAdd, Int.reduceMul, Int.reduceSub, ne_eq, not_true_eq_false, not_false_eq_true, and_true, true_and, and_false, false_and, c3lt, c3gt, c3eq, Bool.false_eq_true, isK_wr, inA_wr, inR_wr, cm.1]
    rfl
  by_cases cf : fI (fun k => decide (WP h k ≠ 0)) 0 nc = nc
  · rw [if_pos cf] at gx
    have hz : ∀ k : Int, 0 ≤ k → k < nc → WP h k = 0 := fun k k0 k1 => by
      have := fI_all cf k.toNat (by omega)
      rw [decide_eq_false_iff_not, Int.toNat_of_nonneg k0] at this
      exact Classical.byContradiction this
    have hLO : ∀ k : Int, 0 ≤ k → k < nc → PN h k ≤ 12 ∧ ∀ p : Int, 0 ≤ p → p < PN h k → LOK h s (mrd h 238 (60 * k + p)) ∧ LOM h (mrd h 238 (60 * k + p)) := fun k k0 k1 => by
      obtain ⟨w1, w2⟩ := WP_z (hz k k0 k1)
      refine ⟨w2, fun p p0 p1 => ?_⟩
      have := WPa_all w1 p.toNat (by omega)
      rw [Int.toNat_of_nonneg p0] at this
      obtain ⟨p1, p2, p3, p4, p5, p6⟩ := dl _ this.1 this.2
      have b5 : mrd h 240 (40 + mrd h 238 (60 * k + p)) < 4 := by omega
      exact ⟨⟨⟨this.1, by omega⟩, ⟨p5.1, p5.2.1, b5⟩, p3⟩, ⟨this.1, by omega⟩, ⟨p5.2.1, b5⟩, p3.2⟩
    have hX : HX h s nc := by
      refine ⟨⟨hI.1, hI.2.1.1, hs, d7.1.trans hn, n4⟩, fun k k0 k1 => ⟨?_, (hLO k k0 k1).1, (dc k k0 (by omega)).1, fun p p0 p1 => ((hLO k k0 k1).2 p p0 p1).1⟩⟩
      unfold PN
      rcases hT k k0 (by omega) with ⟨e1, e2⟩ | ⟨e1, e2, e3, e4⟩
      · exact Or.inl ⟨e1, by show (mrd h 237 k).toNat = 0; rw [show mrd h 237 k = -1 from e2]; rfl⟩
      · have e3 : mrd h (2 + 2 * k) 3 = mrd h 237 k ∧ 0 ≤ mrd h 237 k ∧ mrd h 237 k ≤ 60 := e3
        refine Or.inr ⟨e1, by omega, fun p p0 p1 => e4 p p0 (by show p < mrd h 237 k; omega)⟩
    obtain ⟨N, N1, N2, N3⟩ := run_end (HX_PV hX) n4
    obtain ⟨h1, m1, m2, m3⟩ := x_make (d := d + 57) hX N1 N2 N3
    have hS1 := FPX_sh m3 ⟨hI.1, hI.2.1.1⟩
    have cm1 : CM h1 := ⟨(isK_eq m3.1).mpr kM, hS1.1, hS1.2⟩
    have kx1 : isK h1 0 10 := (isK_eq m3.1).mpr k0
    have f1 : ∀ a i, a < 152 ∨ 161 < a → mrd h1 a i = mrd h a i := m3.2.1
    have x0 : mrd h 0 0 = 1 := rf_0_0 hI.2.1.1
    have x7 : mrd h 0 7 = 152 := rf_0_7 hI.2.1.1
    obtain ⟨h2, hh2⟩ : ∃ h2, h2 = mwr h1 0 11 0 := ⟨_, rfl⟩
    have cm2 : CM h2 := by rw [hh2]; exact CM_wr rn_st cm1
    have f2 : ∀ a i, a = 237 ∨ a = 238 ∨ a = 240 → mrd h2 a i = mrd h a i := fun a i ha => by
      rw [hh2, rdn1 (by omega)]; exact f1 a i (by omega)
    obtain ⟨l2', r1⟩ := ref h2 cm2 f2
    rw [if_pos cf] at r1
    obtain ⟨g0, hg0⟩ : ∃ g0, g0 = mwr (mwr h2 235 1 0) 235 0 0 := ⟨_, rfl⟩
    rw [← hg0] at r1
    have cm0 : CM g0 := by rw [hg0]; exact CM_wr rn_m0 (CM_wr rn_m1 cm2)
    have f0 : ∀ a i, a = 237 ∨ a = 238 ∨ a = 240 → mrd g0 a i = mrd h a i := fun a i ha => by
      rw [hg0, rdn1 (by omega), rdn1 (by omega)]; exact f2 a i ha
    have z7 := fun i => f0 237 i (by omega)
    have z8 := fun i => f0 238 i (by omega)
    have z4 := fun i => f0 240 i (by omega)
    have eD : PDh g0 = PDh h := PDh_eq z7 z8 z4
    have hM : HM g0 nc := by
      refine ⟨⟨cm0, by rw [z4]; exact hn, n4⟩, fun k k0 k1 => ?_⟩
      rw [z7, PN_eq z7, z4]
      refine ⟨(RTry_pn (hT k k0 (by omega))).1, (hLO k k0 k1).1, (dc k k0 (by omega)).1.2, fun p p0 p1 => ?_⟩
      have := ((hLO k k0 k1).2 p p0 p1).2
      unfold LOM at this ⊢
      rw [z8, z4, z4]
      exact this
    obtain ⟨g1, a1, a2, a3⟩ := pl_z (d := d + 58) hM l2' (3, 0) 4 0 g0 (by omega) ⟨rfl, fun _ _ _ => rfl⟩ (fun k k0 k1 => by omega)
    -- the day on which all is begun, by the reference's count
    obtain ⟨N', n1, n2, n3, n5⟩ : ∃ N' : Nat, (1 ≤ N' ∧ N' ≤ 1411) ∧ su nc (lf (PDh g0) (pR (PDh g0) nc N')) = 0 ∧ (∀ i : Nat, 1 ≤ i → i < N' → 0 < su nc (lf (PDh g0) (pR (PDh g0) nc i))) ∧ pR (PDh g0) nc N' = pR (PDh h) nc N := by
      rw [eD]
      by_cases c : N = 0
      · subst c
        obtain ⟨y1, -, -⟩ := run_pr (HX_PV hX) 0 (by omega) (fun i i1 i2 => by omega)
        have e1 : pR (PDh h) nc 1 = pR (PDh h) nc 0 := by
          rw [pR]
          exact pD_0 (su_z nc (lf_nn y1) N2) nc (Nat.le_refl _)
        exact ⟨1, by omega, by rw [e1]; exact N2, fun i i1 i2 => by omega, e1⟩
      · exact ⟨N, by omega, N2, fun i _ i2 => N3 i i2, rfl⟩
    obtain ⟨g2, x, b1, b2, b3⟩ := pl_w (d := d + 57) hM n1.2 n2 n3 l2' (3, 0) (N' - 1) 0 g1 (by omega) a2 a3
    rw [n5] at b3
    have y1 := run_PI (HX_PV hX) (by omega) N3
    have yz := su_z nc (lf_nn y1) N2
    obtain ⟨S, hS⟩ : ∃ S, S = pR (PDh h) nc N := ⟨_, rfl⟩
    rw [← hS] at b3 m2 y1 yz
    obtain ⟨g3, c1, c2, c3, c4⟩ := pl_f (d := d + 58) (S := S) hM (fun k k0 k1 => by have := (y1 k k0 k1).1; omega) (0, x) nc 0 g2 (by omega) b2 b3 (fun k k0 k1 => by omega)
    have cm3 := FPM_cm c2 cm0
    have i3 := inC cm3 (j := 2) (by decide) (by decide)
    have e23 : mrd g3 240 2 = nc := (c2.2 _ _ (by omega)).trans ((z4 2).trans hn)
    have fin : ∀ a i, 0 < a → a < 235 → mrd (mwr g3 235 42 nc) a i = mrd h1 a i := fun a i a0 a1 => by
      rw [rdn1 (by omega), c2.2 _ _ (by omega), hg0, rdn1 (by omega), rdn1 (by omega), hh2, rdn1 (by omega)]
    have e22 : (mwr g3 235 42 (nc : Int)).2 = h.2 := by
      show g3.2 = h.2
      rw [c2.1, hg0]
      show h2.2 = h.2
      rw [hh2]
      exact m3.1
    have cm22 : isK h2 235 11 := cm2.1
    refine ⟨dn nc S.1, h2, mwr g3 235 42 nc, ?_, ?_, ?_⟩
    · have x7' : mrd h1 0 7 = 152 := (f1 _ _ (by omega)).trans x7
      rw [gx0, gx, e150_49, hh2]
      simp only [e150_0, e150_1, e150_3, e150_4, e150_7, e150_10, e150_13, e150_14, e150_15, e150_18, e150_21, e150_22, e150_23, e150_24, e150_27, e150_28, e150_29, e150_32, e150_33, e150_34, e150_37, e150_38, e150_39, e150_42, e150_43, e150_46, e150_50, e150_53, e150_54, e150_57, e150_58, e150_61, e150_64, e150_65, e150_66, e150_69, e150_72, e150_75, psh0, psh1, psh3, true_or, or_true, eq_self, Option.bind_some, List.length_nil, List.length_cons, Nat.reduceAdd, Nat.reduceLeDiff, Nat.zero_le, ↓reduceIte, Int.reduceLT, Int.reduceEq, Int.reduceLE, Int.reduceNeg, Int.reduceAdd, Int.reduceMul, Int.reduceSub, ne_eq, not_true_eq_false, not_false_eq_true, and_true, true_and, and_false, false_and, c3lt, c3gt, c3eq, Bool.false_eq_true, isK_wr, inA_wr, inR_wr, k0, kx1, x7, x7', x0, e8, kn_152 hI.1, kn_152 hS1.1, m1, m2.2.2.1, x_answer]
    · have a1 : EV (d + 60) 309 46 [(2, 235), (0, 0), l2', (3, 0)] [] g0 = _ := a1
      have b1 : EV (d + 60) 309 87 [(2, 235), (0, 0), l2', (3, 0)] [] g1 = _ := b1
      have c1 : EV (d + 60) 309 105 [(2, 235), (0, x), (0, 0), (0, 0)] [] g2 = _ := c1
      rw [r1, e309_44]
      simp only [e309_45]
      rw [a1, b1, e309_101]
      simp only [e309_102, e309_103, e309_104]
      rw [c1, e309_143]
      simp only [e309_144, e309_145, e309_148, e309_149, e309_150, e309_153, e309_154, psh0, psh1, psh3, true_or, or_true, eq_self, Option.bind_some, List.length_nil, List.length_cons, Nat.reduceAdd, Nat.reduceLeDiff, Nat.zero_le, ↓reduceIte, Int.reduceLT, Int.reduceEq, Int.reduceLE, Int.reduceNeg, Int.reduceAdd, Int.reduceMul, Int.reduceSub, ne_eq, not_true_eq_false, not_false_eq_true, and_true, true_and, and_false, false_and, c3lt, c3gt, c3eq, Bool.false_eq_true, isK_wr, inA_wr, inR_wr, cm3.1, mC cm3, i3, e23]
    · refine Inv_mk hI (Rel_pln ?_ hI.2.1 ⟨Or.inr ⟨?_, ?_, ?_⟩, fun k k0 k1 => ?_⟩) ?_ (Shp_eq e22 hI.1) (RSum_tr (h := h) e22 ?_ hI) (by rw [e22])
      · intro a i hn hx
        show mrd (mwr g3 235 42 nc) a i = mrd h a i
        have na : ∀ b, b ∈ scrL ∨ b ∈ plO → a ≠ b := fun b hb e => by
          rcases hb with z | z
          · exact hn (Or.inl (by rw [e]; exact z))
          · exact hx (Or.inl (by rw [e]; exact z))
        have nc' : ∀ b j, (b, j) ∈ plC → ¬ (a = b ∧ i = j) := fun b j hb e => hx (Or.inr (Or.inl (by rw [e.1, e.2]; exact hb)))
        have n1 := na 251 (Or.inl (by decide +kernel))
        have n2 := na 252 (Or.inl (by decide +kernel))
        have n3 := na 253 (Or.inr (by decide +kernel))
        have n4 := na 254 (Or.inr (by decide +kernel))
        have n5 := na 255 (Or.inr (by decide +kernel))
        have n6 := na 256 (Or.inl (by decide +kernel))
        have n7 := na 153 (Or.inr (by decide +kernel))
        have n8 := na 154 (Or.inr (by decide +kernel))
        have n9 := na 156 (Or.inr (by decide +kernel))
        have n10 := na 157 (Or.inr (by decide +kernel))
        have n11 := na 158 (Or.inr (by decide +kernel))
        have n12 := na 159 (Or.inr (by decide +kernel))
        have n13 := na 160 (Or.inl (by decide +kernel))
        have n14 := na 161 (Or.inl (by decide +kernel))
        rw [rd_wr, if_neg (nc' _ _ (by decide)), c2.2 _ _ (by omega), hg0, rd_wr, if_neg (fun z => hn (by rw [z.1, z.2]; exact Scr_m0)), rd_wr, if_neg (fun z => hn (by rw [z.1, z.2]; exact Scr_m1)), hh2, rd_wr, if_neg (fun z => hn (by rw [z.1, z.2]; exact Scr_st))]
        by_cases c5 : a = 155
        · rw [c5]; exact m3.2.2.1 i
        by_cases c6 : a = 152
        · have m4 := nc' 152 3 (by decide)
          have m5 := nc' 152 6 (by decide)
          rw [c6]
          exact m3.2.2.2 i (fun z => m4 ⟨c6, z⟩) (fun z => m5 ⟨c6, z⟩)
        · exact f1 a i (by omega)
      · show mrd (mwr g3 235 42 nc) 235 42 = mrd (mwr g3 235 42 nc) 152 6
        rw [rde, fin _ _ (by decide) (by decide), m2.2.2.2]
      · show 0 ≤ mrd (mwr g3 235 42 nc) 152 6
        rw [fin _ _ (by decide) (by decide), m2.2.2.2]; omega
      · show mrd (mwr g3 235 42 nc) 152 6 ≤ 4
        rw [fin _ _ (by decide) (by decide), m2.2.2.2]; omega
      · have k1 : k < mrd (mwr g3 235 42 nc) 152 6 := k1
        rw [fin _ _ (by decide) (by decide), m2.2.2.2] at k1
        obtain ⟨u1, u2, u3, u4⟩ := m2.1 k k0 k1
        obtain ⟨v1, v2, v3, v4⟩ := c3.1 k k0 k1
        have yk := yz k k0 k1
        have yk : (PN h k : Int) - S.2.1 k = 0 := yk
        have hb := (hLO k k0 k1).1
        show mrd (mwr g3 235 42 nc) 154 k = mrd (mwr g3 235 42 nc) 253 k ∧ (mrd (mwr g3 235 42 nc) 153 k = mrd (mwr g3 235 42 nc) 255 k ∧ 0 ≤ mrd (mwr g3 235 42 nc) 153 k ∧ mrd (mwr g3 235 42 nc) 153 k ≤ 12) ∧ ∀ j, 0 ≤ j → j < mrd (mwr g3 235 42 nc) 153 k → mrd (mwr g3 235 42 nc) (156 + k) j = mrd (mwr g3 235 42 nc) 254 (12 * k + j)
        rw [fin 154 _ (by decide) (by decide), fin 153 _ (by decide) (by decide), rdn1 (by decide), rdn1 (by decide), u2, u3, v3, c4 k k0 k1, PN_eq z7]
        refine ⟨rfl, ⟨by omega, by omega, by omega⟩, fun j j0 j1 => ?_⟩
        rw [fin _ _ (by omega) (by omega), rdn1 (by decide), u4 j j0 j1, v4 j j0 j1]
      · rw [rdn1 (by decide), c2.2 _ _ (by omega), hg0, rdn1 (by decide), rdn1 (by decide), hh2, rde, rdn2 (by decide), c2.2 _ _ (by omega), hg0, rde]
      · rw [fin _ _ (by decide) (by decide)]; exact f1 _ _ (by omega)
  · rw [if_neg cf] at gx
    refine opq hI (-1) (WP h (fI (fun k => decide (WP h k ≠ 0)) 0 nc : Nat)) (gx0.trans gx) ?_
    obtain ⟨l2', r1⟩ := ref (mwr h 0 11 (WP h (fI (fun k => decide (WP h k ≠ 0)) 0 nc : Nat))) (CM_wr rn_st (CM_of hI)) (fun a i ha => by rw [rdn1 (by omega)])
    rw [r1, if_neg cf, wrwr]

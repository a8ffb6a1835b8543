/-! odds: the call -/
def odO : List Int := (List.range 33).map (fun n : Nat => (n : Int) + 113)
theorem odO_in {b : Int} (h0 : 113 ≤ b) (h1 : b ≤ 145) : b ∈ odO := List.mem_map.mpr ⟨(b - 113).toNat, List.mem_range.mpr (by omega), by omega⟩
theorem Rel_odds {m m' : Int → Int → Int} (hf : FrE odO nuC 0 0 m m') (h : Rel m) (h1 : RRef m') (hn : RNum m') : Rel m' := by
  obtain ⟨-, h2, h3, h4, h5, h6, h7, h8, h9, h10⟩ := h
  exact Rel_mk h1 hn (RTrys_E hf (by decide +kernel) h3) (RTap_E hf (by decide +kernel) h4) (RPln_E hf (by decide +kernel) h5) (RLiv_E hf (by decide +kernel) h6) (RFst_E hf (by decide +kernel) h7) (RPtr_E hf (by decide +kernel) h8) (RCur_E hf (by decide +kernel) (by decide) (by decide) h8 h9) (RMrk_E hf (by decide +kernel) (by decide) (by decide) h10)
theorem OB_keep {g0 g' : AM} (hm0 : CM g0) (e2 : g'.2 = g0.2) (ef : ∀ x j, ¬ (x = 241 ∧ 0 ≤ j ∧ j < 128) → mrd g' x j = mrd g0 x j) (ek : ∀ j : Int, 0 ≤ j → j < 128 → mrd g' 241 j = mrd g0 240 j) : OB g0 g' := by
  refine ⟨e2, fun q hq => ?_, fun x j n1 n2 n3 n4 => ef x j (by omega), fun j => ef _ _ (by omega), ek⟩
  have hd : ∀ q ∈ refT, q.1 ≠ 241 := by decide +kernel
  rw [← hm0.2.2 q hq]
  exact ef _ _ (fun z => hd q hq z.1)
set_option maxHeartbeats 1000000 in
theorem op_odds : Op_odds Inv := by
  intro d h k seed many hI i0 i1 i2
  obtain ⟨s, e8, hs, k0, kM, cs, ds⟩ := ctx hI
  have ds' := ds
  have ks := cs.1
  have r1 := cs.2.2.1
  have r2 := cs.2.2.2.1
  have r3 := cs.2.2.2.2.1
  have kl := cs.2.2.2.2.2.2.2.2.2.2.2.1
  have kc := cs.2.2.2.2.2.2.2.2.2.2.2.2
  obtain ⟨d5, d6, d7, d8, dl, dc⟩ := ds
  have hm : ∀ v, CM (mwr (mwr (mwr h 0 11 v) 235 1 0) 235 0 0) := fun v => CM_q (CM_of hI)
  obtain ⟨ca, ca2, R9, R10⟩ := cur_a hI e8
  have kg : isK h (mrd h s 4) 0 := (a7_K hI.1 ca).1
  have gtm := fun v => inC (hm v) (j := 128) (by decide) (by decide)
  have hx := x_hasChild_q (d := d + 59) (k := k) ks d7.1
  have hl := fun v => m_isChildAt_q (d := d + 58) (k := k) hI v
  by_cases hc : 0 ≤ k ∧ k < mrd h 240 2
  · simp only [hc, and_self, if_true] at hl hx
    by_cases cm : 1 ≤ many ∧ many ≤ 20
    · have wm : w32 (10000 - many) = 10000 - many := w32_id (by omega) (by omega)
      have c2 : ¬ many < 1 := by omega
      have c3 : ¬ 20 < many := by omega
      by_cases cs : 0 ≤ seed ∧ seed ≤ 10000 - many
      · have c0 : ¬ seed < 0 := by omega
        have c1 : ¬ 9999 < seed := by omega
        have w1 : w32 (seed + many) = seed + many := w32_id (by omega) (by omega)
        have w2 : w32 (seed + many - 1) = seed + many - 1 := w32_id (by omega) (by omega)
        have c4 : ¬ 9999 < seed + many - 1 := by omega
        have e128 : mrd h (mrd h s 4) 6 = mrd h 240 128 := by
          have := R10.2.1
          rwa [show (0 : Int) + 128 = 128 from rfl] at this
        by_cases ct : mrd h (mrd h s 4) 6 = 0
        · refine opq hI 0 8 ?_ ?_
          · simp only [e155_0, e155_1, e155_4, e155_5, e155_8, e155_11, e155_12, e155_13, e155_16, e155_17, e155_18, e155_21, e155_22, e155_25, e155_28, e155_29, e155_30, e155_33, e155_34, e155_36, e155_39, e155_40, e155_41, e155_42, e155_43, e155_44, e155_47, e155_50, e155_51, e155_52, e155_55, e155_56, e155_57, e155_60, e155_63, e155_66, e155_69, e155_70, e155_72, e155_75, e155_76, e155_77, e155_79, e155_80, e155_84, e155_85, e155_88, e155_89, e155_92, e155_93, e155_96, e155_99, e155_100, e155_103, e155_104, e155_107, e155_108, e155_110, e155_111, e155_114, e155_115, e155_118, e155_119, e155_122, e155_125, e155_126, e155_127, e155_128, e155_131, e155_134, e155_137, e155_140, e155_143, e155_144, e155_146, e155_147, e155_148, e155_149, e155_152, e155_153, e155_156, psh0, psh1, psh3, true_or, or_true, eq_self, Option.bind_some, List.length_nil, List.length_cons, Nat.reduceAdd, Nat.reduceLeDiff, Nat.zero_le, ↓reduceIte, Int.reduceLT, Int.reduceEq, Int.reduceLE, Int.reduceNeg, Int.reduceAdd, Int.reduceMul, Int.reduceSub, ne_eq, not_true_eq_false, not_false_eq_true, and_true, true_and, and_false, false_and, c3lt, c3gt, c3eq, Bool.false_eq_true, isK_wr, inA_wr, inR_wr, k0, e8, ks, hx, c0, c1, c2, c3, w1, w2, c4, kg, ct, x_deny]
          · have ct' : mrd h 240 128 = 0 := e128.symm.trans ct
            simp only [e323_0, e323_1, e323_2, e323_5, e323_6, e323_7, e323_10, e323_11, e323_12, e323_15, e323_18, e323_19, e323_20, e323_23, e323_24, e323_25, e323_26, e323_27, e323_30, e323_33, e323_36, e323_37, e323_38, e323_39, e323_42, e323_43, e323_44, e323_45, e323_48, e323_51, e323_52, e323_53, e323_56, e323_57, e323_58, e323_61, e323_64, e323_65, e323_68, e323_69, e323_71, e323_74, e323_75, e323_76, e323_80, e323_83, e323_86, e323_87, e323_90, e323_92, e323_93, e323_96, e323_98, e323_99, e323_100, e323_103, e323_106, e323_107, e323_109, e323_110, e323_114, e323_115, e323_118, e323_119, e323_120, e323_122, e323_123, e323_126, e323_128, e323_129, e323_130, e323_131, e323_134, e323_137, e323_138, e323_141, e323_142, e323_143, e323_145, e323_146, e323_150, e323_153, e323_156, e323_157, e323_160, e323_162, e323_163, e323_166, e323_168, e323_169, e323_170, e323_173, e323_176, e323_179, e323_182, e323_183, e323_185, e323_186, e323_187, e323_188, e323_191, psh0, psh1, psh3, true_or, or_true, eq_self, Option.bind_some, List.length_nil, List.length_cons, Nat.reduceAdd, Nat.reduceLeDiff, Nat.zero_le, ↓reduceIte, Int.reduceLT, Int.reduceEq, Int.reduceLE, Int.reduceNeg, Int.reduceAdd, Int.reduceMul, Int.reduceSub, ne_eq, not_true_eq_false, not_false_eq_true, and_true, true_and, and_false, false_and, c3lt, c3gt, c3eq, Bool.false_eq_true, isK_wr, inA_wr, inR_wr, kM, hl, m_isIn, cm, wm, cs, mC (hm _), gtm, rdq, ct', m_no, wrwr]
        · have h6 : mrd h (mrd h s 4) 6 = 1 := R10.1.resolve_left ct
          obtain ⟨M, hM⟩ := Int.eq_ofNat_of_zero_le (show 0 ≤ many by omega)
          subst hM
          have kk1 : k < mrd h s 7 := by rw [d7.1]; exact hc.2
          have OX0 : OX h h := ⟨rfl, hI.2.1.1, fun _ _ _ => rfl⟩
          have xpre : EV (d + 60) 155 0 [(2, 0), (0, k), (0, seed), (0, (M : Int)), (3, 0), (3, 0)] [] h = EV (d + 60) 155 82 [(2, 0), (0, k), (0, seed), (0, (M : Int)), (0, 0), (0, 0)] [] h := by
            simp only [e155_0, e155_1, e155_4, e155_5, e155_8, e155_11, e155_12, e155_13, e155_16, e155_17, e155_18, e155_21, e155_22, e155_25, e155_28, e155_29, e155_30, e155_33, e155_34, e155_36, e155_39, e155_40, e155_41, e155_42, e155_43, e155_44, e155_47, e155_50, e155_51, e155_52, e155_55, e155_56, e155_57, e155_60, e155_63, e155_66, e155_69, e155_70, e155_72, e155_75, e155_76, e155_77, e155_79, e155_80, e155_84, e155_85, e155_88, e155_89, e155_92, e155_93, e155_96, e155_99, e155_100, e155_103, e155_104, e155_107, e155_108, e155_110, e155_111, e155_114, e155_115, e155_118, e155_119, e155_122, e155_125, e155_126, e155_127, e155_128, e155_131, e155_134, e155_137, e155_140, e155_143, e155_144, e155_146, e155_147, e155_148, e155_149, e155_152, e155_153, e155_156, psh0, psh1, psh3, true_or, or_true, eq_self, Option.bind_some, List.length_nil, List.length_cons, Nat.reduceAdd, Nat.reduceLeDiff, Nat.zero_le, ↓reduceIte, Int.reduceLT, Int.reduceEq, Int.reduceLE, Int.reduceNeg, Int.reduceAdd, Int.reduceMul, Int.reduceSub, ne_eq, not_true_eq_false, not_false_eq_true, and_true, true_and, and_false, false_and, c3lt, c3gt, c3eq, Bool.false_eq_true, isK_wr, inA_wr, inR_wr, k0, e8, ks, hx, c0, c1, c2, c3, w1, w2, c4, kg, ct]
          -- what the class answers, once all is counted
          have xend : ∀ (a' : AM) (c' : Nat), OX h a' → c' ≤ M → EV (d + 60) 155 143 [(2, 0), (0, k), (0, seed), (0, (M : Int)), (0, (c' : Int)), (0, (M : Int))] [] a' = some ((0, 1), mwr (mwr (mwr a' 0 12 ((c' / Nat.gcd c' M : Nat) : Int)) 0 13 ((M / Nat.gcd c' M : Nat) : Int)) 0 11 0) := by
            intro a' c' ho hcM
            have k0' : isK a' 0 10 := (isK_eq ho.1).mpr k0
            have gx := x_tellFraction (d := d + 59) (h := a') (a := c') (b := M) k0' (by omega) (by omega) (by omega)
            rw [e155_143]
            simp only [e155_0, e155_1, e155_4, e155_5, e155_8, e155_11, e155_12, e155_13, e155_16, e155_17, e155_18, e155_21, e155_22, e155_25, e155_28, e155_29, e155_30, e155_33, e155_34, e155_36, e155_39, e155_40, e155_41, e155_42, e155_43, e155_44, e155_47, e155_50, e155_51, e155_52, e155_55, e155_56, e155_57, e155_60, e155_63, e155_66, e155_69, e155_70, e155_72, e155_75, e155_76, e155_77, e155_79, e155_80, e155_84, e155_85, e155_88, e155_89, e155_92, e155_93, e155_96, e155_99, e155_100, e155_103, e155_104, e155_107, e155_108, e155_110, e155_111, e155_114, e155_115, e155_118, e155_119, e155_122, e155_125, e155_126, e155_127, e155_128, e155_131, e155_134, e155_137, e155_140, e155_144, e155_146, e155_147, e155_148, e155_149, e155_152, e155_153, e155_156, psh0, psh1, psh3, true_or, or_true, eq_self, Option.bind_some, List.length_nil, List.length_cons, Nat.reduceAdd, Nat.reduceLeDiff, Nat.zero_le, ↓reduceIte, Int.reduceLT, Int.reduceEq, Int.reduceLE, Int.reduceNeg, Int.reduceAdd, Int.reduceMul, Int.reduceSub, ne_eq, not_true_eq_false, not_false_eq_true, and_true, true_and, and_false, false_and, c3lt, c3gt, c3eq, Bool.false_eq_true, isK_wr, inA_wr, inR_wr, k0', gx, x_agree]
          obtain ⟨gk, -, u1, u2, u3⟩ := od_keep (d := 0) (l1 := (0, 0)) (l2 := (0, 0)) (l3 := (0, 0)) (l5 := (0, 0)) (l6 := (0, 0)) (g0 := h) (CM_of hI) 128 0 h (by omega) rfl (fun _ _ _ => rfl) (fun j j0 j1 => by omega)
          obtain ⟨a1, -, n1, -, y1, -, y3, y4, -⟩ := od_loop (d := d + 40) (g1 := h) (M := M) hI e8 hs h6 hc.1 kk1 cs.1 (by omega) (by omega) (CM_of hI) (fun _ _ _ => rfl) M 0 h gk 0 (3, 0) (by omega) (by omega) OX0 (OB_keep (CM_of hI) u1 u2 u3)
          have y1 : EV (d + 60) 155 82 [(2, 0), (0, k), (0, seed), (0, (M : Int)), (0, 0), (0, 0)] [] h = EV (d + 60) 155 143 [(2, 0), (0, k), (0, seed), (0, (M : Int)), (0, (n1 : Int)), (0, (M : Int))] [] a1 := y1
          have X1 := xend a1 n1 y4 y3
          obtain ⟨H1, hH1⟩ : ∃ H1, H1 = mwr (mwr (mwr a1 0 12 ((n1 / Nat.gcd n1 M : Nat) : Int)) 0 13 ((M / Nat.gcd n1 M : Nat) : Int)) 0 11 0 := ⟨_, rfl⟩
          rw [← hH1] at X1
          have rn12 : refT.all (fun q => !(q.1 == 0 && q.2.1 == 12)) = true := by decide +kernel
          have rn13 : refT.all (fun q => !(q.1 == 0 && q.2.1 == 13)) = true := by decide +kernel
          have cma : CM a1 := ⟨(isK_eq y4.1).mpr kM, Shp_eq y4.1 hI.1, y4.2.1⟩
          have cmH : CM H1 := by rw [hH1]; exact CM_wr rn_st (CM_wr rn13 (CM_wr rn12 cma))
          have fH : ∀ x i, x ≠ 0 → mrd H1 x i = mrd a1 x i := fun x i hx => by rw [hH1, rdn1 hx, rdn1 hx, rdn1 hx]
          obtain ⟨g0, hg0⟩ : ∃ g0, g0 = mwr (mwr H1 235 1 0) 235 0 0 := ⟨_, rfl⟩
          have cmg : CM g0 := by rw [hg0]; exact CM_wr rn_m0 (CM_wr rn_m1 cmH)
          have fg : ∀ x i, x ≠ 235 → mrd g0 x i = mrd H1 x i := fun x i hx => by rw [hg0, rdn1 hx, rdn1 hx]
          have f4 : ∀ x i, x = 240 ∨ x = 242 → mrd g0 x i = mrd h x i := fun x i hx => by
            rw [fg _ _ (by omega), fH _ _ (by omega)]
            exact y4.2.2 _ _ (by omega)
          have e2g : g0.2 = h.2 := by
            rw [hg0]
            show H1.2 = h.2
            rw [hH1]
            exact y4.1
          obtain ⟨g1, v0, v1, v2, v3⟩ := od_keep (d := d + 60) (l1 := (0, k)) (l2 := (0, seed)) (l3 := (0, (M : Int))) (l5 := (3, 0)) (l6 := (3, 0)) (g0 := g0) cmg 128 0 g0 (by omega) rfl (fun _ _ _ => rfl) (fun j j0 j1 => by omega)
          obtain ⟨a2, b', n2, l6', t1, t2, t3, t4, t5⟩ := od_loop (d := d + 40) (g1 := g0) (M := M) hI e8 hs h6 hc.1 kk1 cs.1 (by omega) (by omega) cmg f4 M 0 h g1 0 (3, 0) (by omega) (by omega) OX0 (OB_keep cmg v1 v2 v3)
          have t1 : EV (d + 60) 155 82 [(2, 0), (0, k), (0, seed), (0, (M : Int)), (0, 0), (0, 0)] [] h = EV (d + 60) 155 143 [(2, 0), (0, k), (0, seed), (0, (M : Int)), (0, (n2 : Int)), (0, (M : Int))] [] a2 := t1
          have X2 := xend a2 n2 t4 t3
          have eH : H1 = mwr (mwr (mwr a2 0 12 ((n2 / Nat.gcd n2 M : Nat) : Int)) 0 13 ((M / Nat.gcd n2 M : Nat) : Int)) 0 11 0 := by
            have q := (t1.symm.trans y1).trans X1
            rw [X2] at q
            exact ((Prod.mk.inj (Option.some.inj q)).2).symm
          obtain ⟨P, hP⟩ : ∃ P : Int, ((n2 / Nat.gcd n2 M : Nat) : Int) = P := ⟨_, rfl⟩
          obtain ⟨Q, hQ⟩ : ∃ Q : Int, ((M / Nat.gcd n2 M : Nat) : Int) = Q := ⟨_, rfl⟩
          rw [hP, hQ] at eH
          have cmb : CM b' := ⟨(isK_eq t5.1).mpr cmg.1, Shp_eq t5.1 cmg.2.1, t5.2.1⟩
          have gm := m_fraction (d := d + 58) (h := b') (a := n2) (b := M) cmb.1 (by omega) (by omega) (by omega)
          rw [hP, hQ] at gm
          obtain ⟨h2, hh2⟩ : ∃ h2, h2 = mwr (mwr b' 235 2 P) 235 3 Q := ⟨_, rfl⟩
          rw [← hh2] at gm
          refine ⟨1, H1, h2, xpre.trans (y1.trans X1), ?_, ?_⟩
          · have c28 := inC cmg (j := 128) (by decide) (by decide)
            have ct' : ¬ mrd g0 240 128 = 0 := by rw [f4 _ _ (Or.inl rfl), ← e128]; exact ct
            have gl : EV (d + 59) 240 0 [(2, 235), (0, k)] [] g0 = some ((0, 1), g0) := by
              rw [m_isChildAt cmg (by rw [f4 _ _ (Or.inl rfl)]; omega), f4 _ _ (Or.inl rfl), if_pos (by omega)]
            have kH := cmH.1
            have kg0 := cmg.1
            have m20 := mC cmg
            have e78 : EV (d + 60) 323 0 [(2, 235), (0, k), (0, seed), (0, (M : Int)), (3, 0), (3, 0), (3, 0)] [] H1 = EV (d + 60) 323 78 [(2, 235), (0, k), (0, seed), (0, (M : Int)), (0, 0), (3, 0), (3, 0)] [] g0 := by
              have e10 : EV (d + 60) 323 0 [(2, 235), (0, k), (0, seed), (0, (M : Int)), (3, 0), (3, 0), (3, 0)] [] H1 = EV (d + 60) 323 10 [(2, 235), (0, k), (0, seed), (0, (M : Int)), (3, 0), (3, 0), (3, 0)] [] g0 := by
                rw [hg0]
                simp only [e323_0, e323_1, e323_2, e323_5, e323_6, e323_7, psh0, psh1, psh3, true_or, or_true, eq_self, Option.bind_some, List.length_nil, List.length_cons, Nat.reduceAdd, Nat.reduceLeDiff, Nat.zero_le, ↓reduceIte, Int.reduceLT, Int.reduceEq, Int.reduceLE, Int.reduceNeg, Int.reduceAdd, Int.reduceMul, Int.reduceSub, ne_eq, not_true_eq_false, not_false_eq_true, and_true, true_and, and_false, false_and, c3lt, c3gt, c3eq, Bool.false_eq_true, isK_wr, inA_wr, inR_wr, kH]
              rw [e10, e323_10]
              simp only [e323_0, e323_1, e323_2, e323_5, e323_6, e323_7, e323_11, e323_12, e323_15, e323_18, e323_19, e323_20, e323_23, e323_24, e323_25, e323_26, e323_27, e323_30, e323_33, e323_36, e323_37, e323_38, e323_39, e323_42, e323_43, e323_44, e323_45, e323_48, e323_51, e323_52, e323_53, e323_56, e323_57, e323_58, e323_61, e323_64, e323_65, e323_68, e323_69, e323_71, e323_74, e323_75, e323_76, e323_80, e323_83, e323_86, e323_87, e323_90, e323_92, e323_93, e323_96, e323_98, e323_99, e323_100, e323_103, e323_106, e323_107, e323_109, e323_110, e323_114, e323_115, e323_118, e323_119, e323_120, e323_122, e323_123, e323_126, e323_128, e323_129, e323_130, e323_131, e323_134, e323_137, e323_138, e323_141, e323_142, e323_143, e323_145, e323_146, e323_150, e323_153, e323_156, e323_157, e323_160, e323_162, e323_163, e323_166, e323_168, e323_169, e323_170, e323_173, e323_176, e323_179, e323_182, e323_183, e323_185, e323_186, e323_187, e323_188, e323_191, psh0, psh1, psh3, true_or, or_true, eq_self, Option.bind_some, List.length_nil, List.length_cons, Nat.reduceAdd, Nat.reduceLeDiff, Nat.zero_le, ↓reduceIte, Int.reduceLT, Int.reduceEq, Int.reduceLE, Int.reduceNeg, Int.reduceAdd, Int.reduceMul, Int.reduceSub, ne_eq, not_true_eq_false, not_false_eq_true, and_true, true_and, and_false, false_and, c3lt, c3gt, c3eq, Bool.false_eq_true, isK_wr, inA_wr, inR_wr, kg0, gl, m_isIn, cm, wm, cs, m20, c28, ct']
            have v0 : EV (d + 60) 323 78 [(2, 235), (0, k), (0, seed), (0, (M : Int)), (0, 0), (3, 0), (3, 0)] [] g0 = _ := v0
            have t2 : EV (d + 60) 323 112 [(2, 235), (0, k), (0, seed), (0, (M : Int)), (0, 0), (0, 0), (3, 0)] [] g1 = _ := t2
            rw [e78, v0, e323_106]
            simp only [e323_107, e323_109, e323_110]
            rw [t2, e323_182]
            simp only [e323_0, e323_1, e323_2, e323_5, e323_6, e323_7, e323_10, e323_11, e323_12, e323_15, e323_18, e323_19, e323_20, e323_23, e323_24, e323_25, e323_26, e323_27, e323_30, e323_33, e323_36, e323_37, e323_38, e323_39, e323_42, e323_43, e323_44, e323_45, e323_48, e323_51, e323_52, e323_53, e323_56, e323_57, e323_58, e323_61, e323_64, e323_65, e323_68, e323_69, e323_71, e323_74, e323_75, e323_76, e323_80, e323_83, e323_86, e323_87, e323_90, e323_92, e323_93, e323_96, e323_98, e323_99, e323_100, e323_103, e323_106, e323_107, e323_109, e323_110, e323_114, e323_115, e323_118, e323_119, e323_120, e323_122, e323_123, e323_126, e323_128, e323_129, e323_130, e323_131, e323_134, e323_137, e323_138, e323_141, e323_142, e323_143, e323_145, e323_146, e323_150, e323_153, e323_156, e323_157, e323_160, e323_162, e323_163, e323_166, e323_168, e323_169, e323_170, e323_173, e323_176, e323_179, e323_183, e323_185, e323_186, e323_187, e323_188, e323_191, psh0, psh1, psh3, true_or, or_true, eq_self, Option.bind_some, List.length_nil, List.length_cons, Nat.reduceAdd, Nat.reduceLeDiff, Nat.zero_le, ↓reduceIte, Int.reduceLT, Int.reduceEq, Int.reduceLE, Int.reduceNeg, Int.reduceAdd, Int.reduceMul, Int.reduceSub, ne_eq, not_true_eq_false, not_false_eq_true, and_true, true_and, and_false, false_and, c3lt, c3gt, c3eq, Bool.false_eq_true, isK_wr, inA_wr, inR_wr, cmb.1, gm]
          · have e22 : h2.2 = h.2 := by
              rw [hh2]
              show b'.2 = h.2
              rw [t5.1, e2g]
            have hr : ∀ x i, x ≠ 241 → x ≠ 243 → ¬ (x = 235 ∧ (i = 27 ∨ (45 ≤ i ∧ i ≤ 51))) → mrd h2 x i = if x = 235 ∧ i = 3 then Q else if x = 235 ∧ i = 2 then P else if x = 235 ∧ i = 0 then 0 else if x = 235 ∧ i = 1 then 0 else if x = 0 ∧ i = 11 then 0 else if x = 0 ∧ i = 13 then Q else if x = 0 ∧ i = 12 then P else mrd a2 x i := fun x i q1 q2 q3 => by
              have eb : mrd b' x i = mrd g0 x i := by
                by_cases q : x = 240
                · rw [q]; exact t5.2.2.2.1 i
                · exact t5.2.2.1 x i q q1 q2 q3
              rw [hh2, rd_wr, rd_wr, eb, hg0, rd_wr, rd_wr, eH]
              simp only [rd_wr]
            refine Inv_mk hI (Rel_odds ?_ hI.2.1 ?_ ⟨?_, ?_, ?_, ?_⟩) ?_ (Shp_eq e22 hI.1) (RSum_tr (h := h) e22 ?_ hI) (by rw [e22])
            · intro x i hn hx
              show mrd h2 x i = mrd h x i
              have x1 : ∀ b j, (b, j) ∈ nuC → ¬ (x = b ∧ i = j) := fun b j hm z => hx (Or.inr (Or.inl (by rw [z.1, z.2]; exact hm)))
              have q9 : ¬ (x = 235 ∧ (i = 27 ∨ (45 ≤ i ∧ i ≤ 51))) := fun z => hn (by
                have hq : ∀ i ∈ ([27, 45, 46, 47, 48, 49, 50, 51] : List Int), (235, i) ∈ scrF := by decide +kernel
                rw [z.1]
                exact Or.inr (Or.inr (hq i (by
                  rcases (show i = 27 ∨ i = 45 ∨ i = 46 ∨ i = 47 ∨ i = 48 ∨ i = 49 ∨ i = 50 ∨ i = 51 by omega) with e | e | e | e | e | e | e | e <;> rw [e] <;> decide))))
              have q1 : x ≠ 241 := fun z => hn (by rw [z]; exact Or.inl (by decide +kernel))
              have q2 : x ≠ 243 := fun z => hn (by rw [z]; exact Or.inl (by decide +kernel))
              have q3 : x ≠ 147 := fun z => hn (by rw [z]; exact Or.inl (by decide +kernel))
              have q4 : ¬ (113 ≤ x ∧ x ≤ 145) := fun z => hx (Or.inl (odO_in z.1 z.2))
              rw [hr x i q1 q2 q9, if_neg (x1 _ _ (by decide)), if_neg (x1 _ _ (by decide)), if_neg (fun z => hn (by rw [z.1, z.2]; exact Scr_m0)), if_neg (fun z => hn (by rw [z.1, z.2]; exact Scr_m1)), if_neg (fun z => hn (by rw [z.1, z.2]; exact Scr_st)), if_neg (x1 _ _ (by decide)), if_neg (x1 _ _ (by decide))]
              exact t4.2.2 x i (by omega)
            · rw [hh2]
              exact RRef_wr (by decide +kernel) (RRef_wr (by decide +kernel) t5.2.1)
            · show mrd h2 0 14 = mrd h2 235 10
              rw [hr _ _ (by decide) (by decide) (by decide), hr _ _ (by decide) (by decide) (by decide)]
              simp
              rw [t4.2.2 _ _ (by decide), t4.2.2 _ _ (by decide)]
              exact hI.2.1.2.1.1
            · show mrd h2 0 15 = mrd h2 235 11
              rw [hr _ _ (by decide) (by decide) (by decide), hr _ _ (by decide) (by decide) (by decide)]
              simp
              rw [t4.2.2 _ _ (by decide), t4.2.2 _ _ (by decide)]
              exact hI.2.1.2.1.2.1
            · show mrd h2 0 12 = mrd h2 235 2
              rw [hr _ _ (by decide) (by decide) (by decide), hr _ _ (by decide) (by decide) (by decide)]
              simp
            · show mrd h2 0 13 = mrd h2 235 3
              rw [hr _ _ (by decide) (by decide) (by decide), hr _ _ (by decide) (by decide) (by decide)]
              simp
            · rw [hr _ _ (by decide) (by decide) (by decide), hr _ _ (by decide) (by decide) (by decide)]
              simp
            · rw [hr _ _ (by decide) (by decide) (by decide)]
              simp
              exact t4.2.2 _ _ (by decide)
      · refine opq hI 0 5 ?_ ?_
        · by_cases c0 : seed < 0
          · simp only [e155_0, e155_1, e155_4, e155_5, e155_8, e155_11, e155_12, e155_13, e155_16, e155_17, e155_18, e155_21, e155_22, e155_25, e155_28, e155_29, e155_30, e155_33, e155_34, e155_36, e155_39, e155_40, e155_41, e155_42, e155_43, e155_44, e155_47, e155_50, e155_51, e155_52, e155_55, e155_56, e155_57, e155_60, e155_63, e155_66, e155_69, e155_70, e155_72, e155_75, e155_76, e155_77, e155_79, e155_80, e155_84, e155_85, e155_88, e155_89, e155_92, e155_93, e155_96, e155_99, e155_100, e155_103, e155_104, e155_107, e155_108, e155_110, e155_111, e155_114, e155_115, e155_118, e155_119, e155_122, e155_125, e155_126, e155_127, e155_128, e155_131, e155_134, e155_137, e155_140, e155_143, e155_144, e155_146, e155_147, e155_148, e155_149, e155_152, e155_153, e155_156, psh0, psh1, psh3, true_or, or_true, eq_self, Option.bind_some, List.length_nil, List.length_cons, Nat.reduceAdd, Nat.reduceLeDiff, Nat.zero_le, ↓reduceIte, Int.reduceLT, Int.reduceEq, Int.reduceLE, Int.reduceNeg, Int.reduceAdd, Int.reduceMul, Int.reduceSub, ne_eq, not_true_eq_false, not_false_eq_true, and_true, true_and, and_false, false_and, c3lt, c3gt, c3eq, Bool.false_eq_true, isK_wr, inA_wr, inR_wr, k0, e8, ks, hx, c0, x_deny]
          · by_cases c1 : 9999 < seed
            · simp only [e155_0, e155_1, e155_4, e155_5, e155_8, e155_11, e155_12, e155_13, e155_16, e155_17, e155_18, e155_21, e155_22, e155_25, e155_28, e155_29, e155_30, e155_33, e155_34, e155_36, e155_39, e155_40, e155_41, e155_42, e155_43, e155_44, e155_47, e155_50, e155_51, e155_52, e155_55, e155_56, e155_57, e155_60, e155_63, e155_66, e155_69, e155_70, e155_72, e155_75, e155_76, e155_77, e155_79, e155_80, e155_84, e155_85, e155_88, e155_89, e155_92, e155_93, e155_96, e155_99, e155_100, e155_103, e155_104, e155_107, e155_108, e155_110, e155_111, e155_114, e155_115, e155_118, e155_119, e155_122, e155_125, e155_126, e155_127, e155_128, e155_131, e155_134, e155_137, e155_140, e155_143, e155_144, e155_146, e155_147, e155_148, e155_149, e155_152, e155_153, e155_156, psh0, psh1, psh3, true_or, or_true, eq_self, Option.bind_some, List.length_nil, List.length_cons, Nat.reduceAdd, Nat.reduceLeDiff, Nat.zero_le, ↓reduceIte, Int.reduceLT, Int.reduceEq, Int.reduceLE, Int.reduceNeg, Int.reduceAdd, Int.reduceMul, Int.reduceSub, ne_eq, not_true_eq_false, not_false_eq_true, and_true, true_and, and_false, false_and, c3lt, c3gt, c3eq, Bool.false_eq_true, isK_wr, inA_wr, inR_wr, k0, e8, ks, hx, c0, c1, x_deny]
            · have w1 : w32 (seed + many) = seed + many := w32_id (by omega) (by omega)
              have w2 : w32 (seed + many - 1) = seed + many - 1 := w32_id (by omega) (by omega)
              have c4 : 9999 < seed + many - 1 := by omega
              simp only [e155_0, e155_1, e155_4, e155_5, e155_8, e155_11, e155_12, e155_13, e155_16, e155_17, e155_18, e155_21, e155_22, e155_25, e155_28, e155_29, e155_30, e155_33, e155_34, e155_36, e155_39, e155_40, e155_41, e155_42, e155_43, e155_44, e155_47, e155_50, e155_51, e155_52, e155_55, e155_56, e155_57, e155_60, e155_63, e155_66, e155_69, e155_70, e155_72, e155_75, e155_76, e155_77, e155_79, e155_80, e155_84, e155_85, e155_88, e155_89, e155_92, e155_93, e155_96, e155_99, e155_100, e155_103, e155_104, e155_107, e155_108, e155_110, e155_111, e155_114, e155_115, e155_118, e155_119, e155_122, e155_125, e155_126, e155_127, e155_128, e155_131, e155_134, e155_137, e155_140, e155_143, e155_144, e155_146, e155_147, e155_148, e155_149, e155_152, e155_153, e155_156, psh0, psh1, psh3, true_or, or_true, eq_self, Option.bind_some, List.length_nil, List.length_cons, Nat.reduceAdd, Nat.reduceLeDiff, Nat.zero_le, ↓reduceIte, Int.reduceLT, Int.reduceEq, Int.reduceLE, Int.reduceNeg, Int.reduceAdd, Int.reduceMul, Int.reduceSub, ne_eq, not_true_eq_false, not_false_eq_true, and_true, true_and, and_false, false_and, c3lt, c3gt, c3eq, Bool.false_eq_true, isK_wr, inA_wr, inR_wr, k0, e8, ks, hx, c0, c1, c2, c3, w1, w2, c4, x_deny]
        · simp only [e323_0, e323_1, e323_2, e323_5, e323_6, e323_7, e323_10, e323_11, e323_12, e323_15, e323_18, e323_19, e323_20, e323_23, e323_24, e323_25, e323_26, e323_27, e323_30, e323_33, e323_36, e323_37, e323_38, e323_39, e323_42, e323_43, e323_44, e323_45, e323_48, e323_51, e323_52, e323_53, e323_56, e323_57, e323_58, e323_61, e323_64, e323_65, e323_68, e323_69, e323_71, e323_74, e323_75, e323_76, e323_80, e323_83, e323_86, e323_87, e323_90, e323_92, e323_93, e323_96, e323_98, e323_99, e323_100, e323_103, e323_106, e323_107, e323_109, e323_110, e323_114, e323_115, e323_118, e323_119, e323_120, e323_122, e323_123, e323_126, e323_128, e323_129, e323_130, e323_131, e323_134, e323_137, e323_138, e323_141, e323_142, e323_143, e323_145, e323_146, e323_150, e323_153, e323_156, e323_157, e323_160, e323_162, e323_163, e323_166, e323_168, e323_169, e323_170, e323_173, e323_176, e323_179, e323_182, e323_183, e323_185, e323_186, e323_187, e323_188, e323_191, psh0, psh1, psh3, true_or, or_true, eq_self, Option.bind_some, List.length_nil, List.length_cons, Nat.reduceAdd, Nat.reduceLeDiff, Nat.zero_le, ↓reduceIte, Int.reduceLT, Int.reduceEq, Int.reduceLE, Int.reduceNeg, Int.reduceAdd, Int.reduceMul, Int.reduceSub, ne_eq, not_true_eq_false, not_false_eq_true, and_true, true_and, and_false, false_and, c3lt, c3gt, c3eq, Bool.false_eq_true, isK_wr, inA_wr, inR_wr, kM, hl, m_isIn, cm, wm, cs, m_no, wrwr]
    · refine opq hI 0 5 ?_ ?_
      · by_cases c0 : seed < 0
        · simp only [e155_0, e155_1, e155_4, e155_5, e155_8, e155_11, e155_12, e155_13, e155_16, e155_17, e155_18, e155_21, e155_22, e155_25, e155_28, e155_29, e155_30, e155_33, e155_34, e155_36, e155_39, e155_40, e155_41, e155_42, e155_43, e155_44, e155_47, e155_50, e155_51, e155_52, e155_55, e155_56, e155_57, e155_60, e155_63, e155_66, e155_69, e155_70, e155_72, e155_75, e155_76, e155_77, e155_79, e155_80, e155_84, e155_85, e155_88, e155_89, e155_92, e155_93, e155_96, e155_99, e155_100, e155_103, e155_104, e155_107, e155_108, e155_110, e155_111, e155_114, e155_115, e155_118, e155_119, e155_122, e155_125, e155_126, e155_127, e155_128, e155_131, e155_134, e155_137, e155_140, e155_143, e155_144, e155_146, e155_147, e155_148, e155_149, e155_152, e155_153, e155_156, psh0, psh1, psh3, true_or, or_true, eq_self, Option.bind_some, List.length_nil, List.length_cons, Nat.reduceAdd, Nat.reduceLeDiff, Nat.zero_le, ↓reduceIte, Int.reduceLT, Int.reduceEq, Int.reduceLE, Int.reduceNeg, Int.reduceAdd, Int.reduceMul, Int.reduceSub, ne_eq, not_true_eq_false, not_false_eq_true, and_true, true_and, and_false, false_and, c3lt, c3gt, c3eq, Bool.false_eq_true, isK_wr, inA_wr, inR_wr, k0, e8, ks, hx, c0, x_deny]
        · by_cases c1 : 9999 < seed
          · simp only [e155_0, e155_1, e155_4, e155_5, e155_8, e155_11, e155_12, e155_13, e155_16, e155_17, e155_18, e155_21, e155_22, e155_25, e155_28, e155_29, e155_30, e155_33, e155_34, e155_36, e155_39, e155_40, e155_41, e155_42, e155_43, e155_44, e155_47, e155_50, e155_51, e155_52, e155_55, e155_56, e155_57, e155_60, e155_63, e155_66, e155_69, e155_70, e155_72, e155_75, e155_76, e155_77, e155_79, e155_80, e155_84, e155_85, e155_88, e155_89, e155_92, e155_93, e155_96, e155_99, e155_100, e155_103, e155_104, e155_107, e155_108, e155_110, e155_111, e155_114, e155_115, e155_118, e155_119, e155_122, e155_125, e155_126, e155_127, e155_128, e155_131, e155_134, e155_137, e155_140, e155_143, e155_144, e155_146, e155_147, e155_148, e155_149, e155_152, e155_153, e155_156, psh0, psh1, psh3, true_or, or_true, eq_self, Option.bind_some, List.length_nil, List.length_cons, Nat.reduceAdd, Nat.reduceLeDiff, Nat.zero_le, ↓reduceIte, Int.reduceLT, Int.reduceEq, Int.reduceLE, Int.reduceNeg, Int.reduceAdd, Int.reduceMul, Int.reduceSub, ne_eq, not_true_eq_false, not_false_eq_true, and_true, true_and, and_false, false_and, c3lt, c3gt, c3eq, Bool.false_eq_true, isK_wr, inA_wr, inR_wr, k0, e8, ks, hx, c0, c1, x_deny]
          · by_cases c2 : many < 1
            · simp only [e155_0, e155_1, e155_4, e155_5, e155_8, e155_11, e155_12, e155_13, e155_16, e155_17, e155_18, e155_21, e155_22, e155_25, e155_28, e155_29, e155_30, e155_33, e155_34, e155_36, e155_39, e155_40, e155_41, e155_42, e155_43, e155_44, e155_47, e155_50, e155_51, e155_52, e155_55, e155_56, e155_57, e155_60, e155_63, e155_66, e155_69, e155_70, e155_72, e155_75, e155_76, e155_77, e155_79, e155_80, e155_84, e155_85, e155_88, e155_89, e155_92, e155_93, e155_96, e155_99, e155_100, e155_103, e155_104, e155_107, e155_108, e155_110, e155_111, e155_114, e155_115, e155_118, e155_119, e155_122, e155_125, e155_126, e155_127, e155_128, e155_131, e155_134, e155_137, e155_140, e155_143, e155_144, e155_146, e155_147, e155_148, e155_149, e155_152, e155_153, e155_156, psh0, psh1, psh3, true_or, or_true, eq_self, Option.bind_some, List.length_nil, List.length_cons, Nat.reduceAdd, Nat.reduceLeDiff, Nat.zero_le, ↓reduceIte, Int.reduceLT, Int.reduceEq, Int.reduceLE, Int.reduceNeg, Int.reduceAdd, Int.reduceMul, Int.reduceSub, ne_eq, not_true_eq_false, not_false_eq_true, and_true, true_and, and_false, false_and, c3lt, c3gt, c3eq, Bool.false_eq_true, isK_wr, inA_wr, inR_wr, k0, e8, ks, hx, c0, c1, c2, x_deny]
            · have c3 : 20 < many := by omega
              simp only [e155_0, e155_1, e155_4, e155_5, e155_8, e155_11, e155_12, e155_13, e155_16, e155_17, e155_18, e155_21, e155_22, e155_25, e155_28, e155_29, e155_30, e155_33, e155_34, e155_36, e155_39, e155_40, e155_41, e155_42, e155_43, e155_44, e155_47, e155_50, e155_51, e155_52, e155_55, e155_56, e155_57, e155_60, e155_63, e155_66, e155_69, e155_70, e155_72, e155_75, e155_76, e155_77, e155_79, e155_80, e155_84, e155_85, e155_88, e155_89, e155_92, e155_93, e155_96, e155_99, e155_100, e155_103, e155_104, e155_107, e155_108, e155_110, e155_111, e155_114, e155_115, e155_118, e155_119, e155_122, e155_125, e155_126, e155_127, e155_128, e155_131, e155_134, e155_137, e155_140, e155_143, e155_144, e155_146, e155_147, e155_148, e155_149, e155_152, e155_153, e155_156, psh0, psh1, psh3, true_or, or_true, eq_self, Option.bind_some, List.length_nil, List.length_cons, Nat.reduceAdd, Nat.reduceLeDiff, Nat.zero_le, ↓reduceIte, Int.reduceLT, Int.reduceEq, Int.reduceLE, Int.reduceNeg, Int.reduceAdd, Int.reduceMul, Int.reduceSub, ne_eq, not_true_eq_false, not_false_eq_true, and_true, true_and, and_false, false_and, c3lt, c3gt, c3eq, Bool.false_eq_true, isK_wr, inA_wr, inR_wr, k0, e8, ks, hx, c0, c1, c2, c3, x_deny]
      · simp only [e323_0, e323_1, e323_2, e323_5, e323_6, e323_7, e323_10, e323_11, e323_12, e323_15, e323_18, e323_19, e323_20, e323_23, e323_24, e323_25, e323_26, e323_27, e323_30, e323_33, e323_36, e323_37, e323_38, e323_39, e323_42, e323_43, e323_44, e323_45, e323_48, e323_51, e323_52, e323_53, e323_56, e323_57, e323_58, e323_61, e323_64, e323_65, e323_68, e323_69, e323_71, e323_74, e323_75, e323_76, e323_80, e323_83, e323_86, e323_87, e323_90, e323_92, e323_93, e323_96, e323_98, e323_99, e323_100, e323_103, e323_106, e323_107, e323_109, e323_110, e323_114, e323_115, e323_118, e323_119, e323_120, e323_122, e323_123, e323_126, e323_128, e323_129, e323_130, e323_131, e323_134, e323_137, e323_138, e323_141, e323_142, e323_143, e323_145, e323_146, e323_150, e323_153, e323_156, e323_157, e323_160, e323_162, e323_163, e323_166, e323_168, e323_169, e323_170, e323_173, e323_176, e323_179, e323_182, e323_183, e323_185, e323_186, e323_187, e323_188, e323_191, psh0, psh1, psh3, true_or, or_true, eq_self, Option.bind_some, List.length_nil, List.length_cons, Nat.reduceAdd, Nat.reduceLeDiff, Nat.zero_le, ↓reduceIte, Int.reduceLT, Int.reduceEq, Int.reduceLE, Int.reduceNeg, Int.reduceAdd, Int.reduceMul, Int.reduceSub, ne_eq, not_true_eq_false, not_false_eq_true, and_true, true_and, and_false, false_and, c3lt, c3gt, c3eq, Bool.false_eq_true, isK_wr, inA_wr, inR_wr, kM, hl, m_isIn, cm, m_no, wrwr]
  · simp only [hc, if_false] at hl hx
    refine opq hI 0 2 ?_ ?_
    · simp only [e155_0, e155_1, e155_4, e155_5, e155_8, e155_11, e155_12, e155_13, e155_16, e155_17, e155_18, e155_21, e155_22, e155_25, e155_28, e155_29, e155_30, e155_33, e155_34, e155_36, e155_39, e155_40, e155_41, e155_42, e155_43, e155_44, e155_47, e155_50, e155_51, e155_52, e155_55, e155_56, e155_57, e155_60, e155_63, e155_66, e155_69, e155_70, e155_72, e155_75, e155_76, e155_77, e155_79, e155_80, e155_84, e155_85, e155_88, e155_89, e155_92, e155_93, e155_96, e155_99, e155_100, e155_103, e155_104, e155_107, e155_108, e155_110, e155_111, e155_114, e155_115, e155_118, e155_119, e155_122, e155_125, e155_126, e155_127, e155_128, e155_131, e155_134, e155_137, e155_140, e155_143, e155_144, e155_146, e155_147, e155_148, e155_149, e155_152, e155_153, e155_156, psh0, psh1, psh3, true_or, or_true, eq_self, Option.bind_some, List.length_nil, List.length_cons, Nat.reduceAdd, Nat.reduceLeDiff, Nat.zero_le, ↓reduceIte, Int.reduceLT, Int.reduceEq, Int.reduceLE, Int.reduceNeg, Int.reduceAdd, Int.reduceMul, Int.reduceSub, ne_eq, not_true_eq_false, not_false_eq_true, and_true, true_and, and_false, false_and, c3lt, c3gt, c3eq, Bool.false_eq_true, isK_wr, inA_wr, inR_wr, k0, e8, ks, hx, x_deny]
    · simp only [e323_0, e323_1, e323_2, e323_5, e323_6, e323_7, e323_10, e323_11, e323_12, e323_15, e323_18, e323_19, e323_20, e323_23, e323_24, e323_25, e323_26, e323_27, e323_30, e323_33, e323_36, e323_37, e323_38, e323_39, e323_42, e323_43, e323_44, e323_45, e323_48, e323_51, e323_52, e323_53, e323_56, e323_57, e323_58, e323_61, e323_64, e323_65, e323_68, e323_69, e323_71, e323_74, e323_75, e323_76, e323_80, e323_83, e323_86, e323_87, e323_90, e323_92, e323_93, e323_96, e323_98, e323_99, e323_100, e323_103, e323_106, e323_107, e323_109, e323_110, e323_114, e323_115, e323_118, e323_119, e323_120, e323_122, e323_123, e323_126, e323_128, e323_129, e323_130, e323_131, e323_134, e323_137, e323_138, e323_141, e323_142, e323_143, e323_145, e323_146, e323_150, e323_153, e323_156, e323_157, e323_160, e323_162, e323_163, e323_166, e323_168, e323_169, e323_170, e323_173, e323_176, e323_179, e323_182, e323_183, e323_185, e323_186, e323_187, e323_188, e323_191, psh0, psh1, psh3, true_or, or_true, eq_self, Option.bind_some, List.length_nil, List.length_cons, Nat.reduceAdd, Nat.reduceLeDiff, Nat.zero_le, ↓reduceIte, Int.reduceLT, Int.reduceEq, Int.reduceLE, Int.reduceNeg, Int.reduceAdd, Int.reduceMul, Int.reduceSub, ne_eq, not_true_eq_false, not_false_eq_true, and_true, true_and, and_false, false_and, c3lt, c3gt, c3eq, Bool.false_eq_true, isK_wr, inA_wr, inR_wr, kM, hl, m_no, wrwr]

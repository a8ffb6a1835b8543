theorem KF_f2 {a h : AM} {G v : Int} (hG : HG G) (fa : a.2 = h.2 ∧ ∀ x i, ¬ ZX2 G x i → mrd a x i = mrd h x i) : ∀ x i, 235 ≤ x → mrd (KF a v) x i = mrd h x i := fun x i hx => by
  have bG := hG.b
  unfold KF
  rw [rdn1 (by omega), rdn1 (by omega), rdn1 (by omega)]
  refine fa.2 x i ?_
  unfold ZX2
  omega
theorem op_age : Op_age Inv2 := by
  intro d h n hI2 hn
  obtain ⟨hI, hB⟩ := hI2
  suffices S : ∃ r h1 h2, EV (d + 60) 113 0 [(2, 0), (0, n), (3, 0)] [] h = some ((0, r), h1) ∧ EV (d + 60) 238 0 [(2, 235), (0, n), (3, 0)] [] h1 = some ((0, r), h2) ∧ Inv h2 by
    obtain ⟨r, h1, h2, y1, y2, y3⟩ := S
    exact ⟨r, h1, h2, y1, y2, y3, Byt_EV y2 (Byt_EV y1 hB)⟩
  obtain ⟨s, e8, hs0, k0, kM, -, -⟩ := ctx hI
  have hs : HD s := hs0
  have hR := hI.2.1.1
  obtain ⟨⟨t1, t2, t3⟩, t4⟩ := hI.2.1.2.2.2.1
  have t1 : mrd h 110 2 = mrd h 235 8 := t1
  have t2 : 0 ≤ mrd h 110 2 := t2
  have t3 : mrd h 110 2 ≤ 900 := t3
  have t4 : ∀ i, 0 ≤ i → i < mrd h 110 2 → mrd h 111 i = mrd h 239 i := t4
  have kk := kn_110 hI.1
  have r1 : mrd h 0 1 = 110 := rf_0_1 hR
  by_cases c : 0 ≤ n ∧ n ≤ mrd h 110 2 ∧ n ≤ 300
  · obtain ⟨N, hN⟩ := Int.eq_ofNat_of_zero_le c.1
    subst hN
    have hp : RPtr h.1 := hI.2.1.2.2.2.2.2.2.2.1
    obtain ⟨G, hG0⟩ : ∃ G, G = mrd h 0 10 := ⟨_, rfl⟩
    have hG : HG G := by
      rw [hG0]
      exact hp.2.2.2.1
    obtain ⟨g, hg0⟩ : ∃ g, g = mrd h s 4 := ⟨_, rfl⟩
    have bs := hs.b
    have bG := hG.b
    have ns : G ≠ s := fun z => by
      rcases hs with rfl | rfl <;> rcases hG with y | y | y <;> omega
    have hT : ∀ i : Int, 0 ≤ i → i < N → mrd h 111 i = mrd h 239 i := fun i i0 i1 => t4 i i0 (by omega)
    have hBy : ∀ i : Int, 0 ≤ i → i < N → -128 ≤ mrd h 239 i ∧ mrd h 239 i ≤ 127 := fun i _ _ => hB 239 i (by have := hI.1.1; omega) (kn_239 hI.1).2.2
    have rs : RSch (mrd h) s 0 0 := by
      have := hI.2.1.2.2.2.2.2.2.2.2.1.1
      rwa [show h.1 0 8 = s from e8] at this
    have sn : ∀ b : AM, (∀ x i, 235 ≤ x → mrd b x i = mrd h x i) → SN s h b := fun b hb => by
      obtain ⟨-, p6, p7, -, pl, pc⟩ := rs
      unfold SN
      rw [hb 240 1 (by decide), hb 240 2 (by decide)]
      refine ⟨p6, p7, fun j j0 j1 => ?_, fun j j0 j1 => ?_⟩
      · rw [hb _ _ (by decide)]
        have := (pl j j0 j1).1
        rwa [show (0 : Int) + 4 + j = 4 + j by omega] at this
      · rw [hb _ _ (by decide)]
        have := (pc j j0 j1).1
        rwa [show (0 : Int) + 16 + j = 16 + j by omega] at this
    have kid : KD G h := fun p p0 p1 => by
      have hk := hp.2.2.2.2.2.2.2
      refine hk (G + 2) ?_ p p0 p1
      rcases hG with rfl | rfl | rfl <;> decide
    have X55 : ∀ a2 : AM, (a2.2 = h.2 ∧ ∀ x i, ¬ ZX2 G x i → mrd a2 x i = mrd h x i) → mrd a2 110 9 = 0 → EV (d + 54 + 6) 113 55 [(2, 0), (0, (N : Int)), (3, 0)] [] (KF a2 (-1)) = some ((0, mrd a2 G 7), mwr (mwr (mwr (KF a2 (-1)) s 4 G) 0 10 g) 0 11 0) := fun a2 fa h9 =>
      x_agS (d := d + 59) ((isK_eq fa.1).mpr k0) h9 (by rw [fa.2 _ _ (ZX2_0 hG)]; exact e8) (by rw [fa.2 _ _ (ZX2_s hs hG (by omega)).1]; exact hg0.symm) (by rw [fa.2 _ _ (ZX2_0 hG)]; exact hG0.symm) ((isK_eq fa.1).mpr (CS_of hI.1 hR (S6_cur hs)).1) ((isK_eq fa.1).mpr (a7_K hI.1 hG.a7).1) (by omega) (by omega) (by omega) (by omega) ns
    obtain ⟨a1, -, fa1, -, -, -, -, -, -, X1, -⟩ := ag_core (d := d + 54) (d' := 0) (b := h) (nc := mrd h s 7) (nl := mrd h s 6) hI.1 hR hG0.symm hG e8 hs (sn h (fun _ _ _ => rfl)) ⟨rfl, rfl⟩ kid (CM_of hI) c.2.1 (by omega) (by omega) hBy hT
    have P1 : ∃ r1 H1, EV (d + 54 + 6) 113 0 [(2, 0), (0, (N : Int)), (3, 0)] [] h = some ((0, r1), H1) ∧ H1.2 = h.2 ∧ RRef H1.1 ∧ ∀ x i, 235 ≤ x → mrd H1 x i = mrd h x i := by
      have ra : RRef a1.1 := fun q hq => (fa1.2 _ _ (ZX2_rf hG q hq)).trans (hR q hq)
      have rk : ∀ v, RRef (KF a1 v).1 := fun v => RRef_wr (by decide +kernel) (RRef_wr (by decide +kernel) (RRef_wr (by decide +kernel) ra))
      have r4 : refT.all (fun q => !(q.1 == s && q.2.1 == 4)) = true := by
        rcases hs with rfl | rfl <;> decide +kernel
      by_cases f : mrd a1 110 9 = 0
      · rw [if_pos f] at X1
        refine ⟨_, _, X1.trans (X55 a1 fa1 f), fa1.1, RRef_wr rn_st (RRef_wr (by decide +kernel) (RRef_wr r4 (rk _))), fun x i hx => ?_⟩
        rw [rdn1 (by omega), rdn1 (by omega), rdn1 (by omega)]
        exact KF_f2 hG fa1 x i hx
      · rw [if_neg f] at X1
        refine ⟨_, _, X1.trans (x_agF (d := d + 59) ((isK_eq fa1.1).mpr k0) f), fa1.1, RRef_wr rn_st (rk _), fun x i hx => ?_⟩
        rw [rdn1 (by omega)]
        exact KF_f2 hG fa1 x i hx
    obtain ⟨rv, H1, Y1, Y2, Y4, Y3⟩ := P1
    have hmH : CM H1 := ⟨(isK_eq Y2).mpr kM, Shp_eq Y2 hI.1, Y4⟩
    obtain ⟨a2, b2, fa, fb, qq, ⟨z8, z0⟩, zg, kd, sg, X2, M2⟩ := ag_core (d := d + 54) (d' := d + 48) (b := H1) (nc := mrd h s 7) (nl := mrd h s 6) hI.1 hR hG0.symm hG e8 hs (sn H1 Y3) ⟨rfl, rfl⟩ kid hmH c.2.1 (by rw [Y3 _ _ (by decide)]; omega) (by omega) (fun i i0 i1 => by rw [Y3 _ _ (by decide)]; exact hBy i i0 i1) (fun i i0 i1 => by rw [Y3 _ _ (by decide)]; exact hT i i0 i1)
    have e12 := qq.e12
    have cb := qq.2.1.1
    by_cases f : mrd a2 110 9 = 0
    · rw [if_pos f] at X2
      have X3 := X2.trans (X55 a2 fa f)
      rw [Y1] at X3
      obtain ⟨er, eH⟩ := Prod.mk.inj (Option.some.inj X3)
      have er := (Prod.mk.inj er).2
      obtain ⟨S, eS, sg⟩ := sg f
      refine ⟨rv, H1, _, Y1, ?_, rd_AS hI e8 hs hG hG0.symm hg0.symm eH fa fb z8 z0 zg f kd eS sg rfl cb.2.2⟩
      rw [er, eS.1]
      exact M2.trans (m_agE (d := d + 58) cb (by omega) eS.2.1 eS.2.2)
    · rw [if_neg f] at X2
      have X3 := X2.trans (x_agF (d := d + 59) ((isK_eq fa.1).mpr k0) f)
      rw [Y1] at X3
      obtain ⟨er, eH⟩ := Prod.mk.inj (Option.some.inj X3)
      have er := (Prod.mk.inj er).2
      have e13 := qq.2.2.2.2.2.2 f
      refine ⟨rv, H1, _, Y1, ?_, rd_AF hI e8 hs hG hG0.symm eH fa fb z8 (w := mrd a2 110 9) rfl kd rfl cb.2.2⟩
      rw [er, ← e12, ← e13]
      exact M2.trans (m_agF (d := d + 58) cb.1 (by omega))
  · refine opq hI (-1) 5 ?_ ?_
    · by_cases c0 : n < 0
      · simp only [e113_0, e113_1, e113_4, e113_5, e113_6, e113_9, e113_12, e113_15, e113_16, e113_19, e113_22, e113_23, e113_24, e113_27, e113_28, e113_29, e113_32, e113_33, e113_36, e113_37, e113_40, e113_41, e113_44, e113_45, e113_48, e113_51, e113_52, e113_56, e113_59, e113_62, e113_63, e113_65, e113_68, e113_69, e113_70, e113_73, e113_76, e113_77, e113_78, e113_81, e113_82, e113_85, e113_88, e113_89, e113_90, e113_93, e113_94, e113_95, e113_98, e113_101, e113_104, e113_107, psh0, psh1, psh3, true_or, or_true, eq_self, Option.bind_some, List.length_nil, List.length_cons, Nat.reduceAdd, Nat.reduceLeDiff, Nat.zero_le, ↓reduceIte, Int.reduceLT, Int.reduceEq, Int.reduceLE, Int.reduceNeg, Int.reduceAdd, Int.reduceMul, Int.reduceSub, ne_eq, not_true_eq_false, not_false_eq_true, and_true, true_and, and_false, false_and, c3lt, c3gt, c3eq, Bool.false_eq_true, isK_wr, inA_wr, inR_wr, k0, c0, x_refuse]
      · by_cases c1 : mrd h 110 2 < n
        · simp only [e113_0, e113_1, e113_4, e113_5, e113_6, e113_9, e113_12, e113_15, e113_16, e113_19, e113_22, e113_23, e113_24, e113_27, e113_28, e113_29, e113_32, e113_33, e113_36, e113_37, e113_40, e113_41, e113_44, e113_45, e113_48, e113_51, e113_52, e113_56, e113_59, e113_62, e113_63, e113_65, e113_68, e113_69, e113_70, e113_73, e113_76, e113_77, e113_78, e113_81, e113_82, e113_85, e113_88, e113_89, e113_90, e113_93, e113_94, e113_95, e113_98, e113_101, e113_104, e113_107, psh0, psh1, psh3, true_or, or_true, eq_self, Option.bind_some, List.length_nil, List.length_cons, Nat.reduceAdd, Nat.reduceLeDiff, Nat.zero_le, ↓reduceIte, Int.reduceLT, Int.reduceEq, Int.reduceLE, Int.reduceNeg, Int.reduceAdd, Int.reduceMul, Int.reduceSub, ne_eq, not_true_eq_false, not_false_eq_true, and_true, true_and, and_false, false_and, c3lt, c3gt, c3eq, Bool.false_eq_true, isK_wr, inA_wr, inR_wr, k0, c0, r1, kk, c1, x_refuse]
        · have c3 : 300 < n := by omega
          simp only [e113_0, e113_1, e113_4, e113_5, e113_6, e113_9, e113_12, e113_15, e113_16, e113_19, e113_22, e113_23, e113_24, e113_27, e113_28, e113_29, e113_32, e113_33, e113_36, e113_37, e113_40, e113_41, e113_44, e113_45, e113_48, e113_51, e113_52, e113_56, e113_59, e113_62, e113_63, e113_65, e113_68, e113_69, e113_70, e113_73, e113_76, e113_77, e113_78, e113_81, e113_82, e113_85, e113_88, e113_89, e113_90, e113_93, e113_94, e113_95, e113_98, e113_101, e113_104, e113_107, psh0, psh1, psh3, true_or, or_true, eq_self, Option.bind_some, List.length_nil, List.length_cons, Nat.reduceAdd, Nat.reduceLeDiff, Nat.zero_le, ↓reduceIte, Int.reduceLT, Int.reduceEq, Int.reduceLE, Int.reduceNeg, Int.reduceAdd, Int.reduceMul, Int.reduceSub, ne_eq, not_true_eq_false, not_false_eq_true, and_true, true_and, and_false, false_and, c3lt, c3gt, c3eq, Bool.false_eq_true, isK_wr, inA_wr, inR_wr, k0, c0, r1, kk, c1, c3, x_refuse]
    · have g0 := m_st0 (d := d + 58) (b := mwr (mwr (mwr h 0 11 5) 235 1 0) 235 0 0) (n := n) (m := 300) kM (by rw [rdq5 (by decide) (by decide)]; omega)
      simp only [e238_0, e238_1, e238_2, e238_5, e238_6, e238_7, e238_10, e238_11, e238_12, e238_15, e238_18, e238_21, e238_22, e238_23, e238_24, e238_25, e238_29, e238_32, e238_35, e238_36, e238_39, e238_42, e238_43, e238_44, e238_47, e238_51, e238_54, e238_57, e238_58, e238_59, e238_60, e238_63, e238_66, e238_67, e238_68, e238_69, e238_72, e238_75, e238_76, e238_79, e238_80, e238_81, e238_83, e238_85, e238_86, e238_89, e238_90, e238_93, e238_94, e238_97, e238_100, e238_101, e238_102, e238_103, e238_106, e238_109, e238_110, e238_111, e238_112, e238_113, e238_116, e238_119, e238_120, e238_123, psh0, psh1, psh3, true_or, or_true, eq_self, Option.bind_some, List.length_nil, List.length_cons, Nat.reduceAdd, Nat.reduceLeDiff, Nat.zero_le, ↓reduceIte, Int.reduceLT, Int.reduceEq, Int.reduceLE, Int.reduceNeg, Int.reduceAdd, Int.reduceMul, Int.reduceSub, ne_eq, not_true_eq_false, not_false_eq_true, and_true, true_and, and_false, false_and, c3lt, c3gt, c3eq, Bool.false_eq_true, isK_wr, inA_wr, inR_wr, kM, g0, wrwr]

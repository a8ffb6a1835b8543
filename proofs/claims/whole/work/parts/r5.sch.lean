/-- a school read well -/
theorem rd_S {h H1 h2 a2 b2 : AM} {D g s : Int} (hI : Inv h) (hs : HS s D) (e9 : mrd h 0 9 = D) (hg : HG g) (e4 : mrd h D 4 = g) (hH : H1 = mwr (mwr (mwr (KF a2 (-1)) 0 8 D) 0 9 s) 0 11 0) (fa : a2.2 = h.2 ∧ ∀ x i, ¬ ZX D g x i → mrd a2 x i = mrd h x i) (fb : b2.2 = H1.2 ∧ ∀ x i, ¬ ZN x i → mrd b2 x i = mrd H1 x i) (z8 : mrd b2 235 8 = 0) (z0 : mrd b2 235 0 = 0) (zg : mrd a2 g 6 = 0) (w9 : mrd a2 110 9 = 0) (dr : DR D a2 b2) (hh : h2 = mcy (mwr (mwr b2 235 10 0) 235 11 (-1)) 4 0) (cb : RRef b2.1) : Inv h2 := by
  have hD : HD D := hs.d
  have bD := hD.b
  have bg := hg.b
  have hr : ∀ x i, mrd h2 x i = if x = 242 ∧ 0 ≤ i ∧ i < 20 then mrd b2 242 (80 + i) else if x = 240 ∧ 0 ≤ i ∧ i < 410 then mrd b2 240 (1640 + i) else if x = 235 ∧ i = 11 then -1 else if x = 235 ∧ i = 10 then 0 else mrd b2 x i := fun x i => by
    rw [hh, rd_cy, rdn1 (by decide), rdn1 (by decide), rdn1 (by decide), rdn1 (by decide), rd_wr, rd_wr]
    simp only [Int.mul_zero, Int.sub_zero, Int.zero_add, Int.reduceMul]
  have hq : ∀ x i, mrd H1 x i = if x = 0 ∧ i = 11 then 0 else if x = 0 ∧ i = 9 then s else if x = 0 ∧ i = 8 then D else if x = 0 ∧ i = 15 then -1 else if x = 0 ∧ i = 14 then 0 else if x = 110 ∧ i = 2 then 0 else mrd a2 x i := fun x i => by
    rw [hH]; unfold KF; rw [rd_wr, rd_wr, rd_wr, rd_wr, rd_wr, rd_wr, w9]
  have lo : ∀ x i, x < 235 → mrd h2 x i = mrd H1 x i := fun x i hx => by
    rw [hr, if_neg (by omega), if_neg (by omega), if_neg (by omega), if_neg (by omega)]
    exact fb.2 x i (by unfold ZN; omega)
  have lo2 : ∀ x i, x < 235 → x ≠ 0 → x ≠ 110 → mrd h2 x i = mrd a2 x i := fun x i hx h0 h1 => by
    rw [lo x i hx, hq, if_neg (by omega), if_neg (by omega), if_neg (by omega), if_neg (by omega), if_neg (by omega), if_neg (by omega)]
  have hi4 : ∀ x i, (x = 240 ∧ 410 ≤ i) ∨ (x = 242 ∧ 20 ≤ i) → ¬ ZN x i → mrd h2 x i = mrd h x i := fun x i hx hz => by
    rw [hr, if_neg (by omega), if_neg (by omega), if_neg (by omega), if_neg (by omega), fb.2 x i hz, hq, if_neg (by omega), if_neg (by omega), if_neg (by omega), if_neg (by omega), if_neg (by omega), if_neg (by omega)]
    refine fa.2 x i ?_
    unfold ZX ZD
    omega
  have hp : RPtr h.1 := hI.2.1.2.2.2.2.2.2.2.1
  have k1 : ∀ x i, ¬ ZX D g x i → x < 235 → x ≠ 0 → x ≠ 110 → mrd h2 x i = mrd h x i := fun x i q1 q2 q3 q4 => by
    rw [lo2 x i q2 q3 q4]; exact fa.2 x i q1
  have e8' : mrd h2 0 8 = D := by rw [lo _ _ (by decide), hq, if_neg (by decide), if_neg (by decide), if_pos (by decide)]
  have e9' : mrd h2 0 9 = s := by rw [lo _ _ (by decide), hq, if_neg (by decide), if_pos (by decide)]
  have e10' : mrd h2 0 10 = mrd h 0 10 := by
    rw [lo _ _ (by decide), hq, if_neg (by decide), if_neg (by decide), if_neg (by decide), if_neg (by decide), if_neg (by decide), if_neg (by decide)]
    exact fa.2 _ _ (ZX_0 hD hg)
  have e1' : mrd h2 162 4 = mrd h 162 4 := k1 _ _ (ZX_4 hD hg).1 (by decide) (by decide) (by decide)
  have e2' : mrd h2 195 4 = mrd h 195 4 := k1 _ _ (ZX_4 hD hg).2 (by decide) (by decide) (by decide)
  have e4' : mrd h2 D 4 = g := by
    rcases hD with rfl | rfl
    · exact e1'.trans e4
    · exact e2'.trans e4
  have rs := dr.rs (by omega)
  have b6 : (mx a2 b2).1 D 6 ≤ 12 := rs.2.1.2.2
  have b7 : (mx a2 b2).1 D 7 ≤ 4 := rs.2.2.1.2.2
  have ja : ∀ x i, x < 235 → x ≠ 0 → x ≠ 110 → mrd h2 x i = (mx a2 b2).1 x i := fun x i y1 y2 y3 => by
    rw [lo2 x i y1 y2 y3, J_a y1]; rfl
  refine Inv_rd hI (fun x i hz => ?_) ?_ ?_ ?_ ?_ ?_ ?_ ?_ ⟨?_, ?_, ?_, ?_, ?_, ?_, ?_, RKid_pt (fun x hx p => k1 x p (ZX_k hD hg hx).1 (ZX_k hD hg hx (i := 0)).2.1 (ZX_k hD hg hx (i := 0)).2.2.1 (ZX_k hD hg hx (i := 0)).2.2.2) hp.2.2.2.2.2.2.2⟩ ?_ (fun i i0 hi => hi4 _ _ (Or.inl ⟨rfl, i0⟩) (by unfold ZN; omega)) (fun i i0 hi => hi4 _ _ (Or.inr ⟨rfl, i0⟩) (by unfold ZN; omega))
  · have n1 : ¬ ZX D g x i := fun z => hz (ZX_ZR hD hg z)
    have n2 : ¬ ZN x i := fun z => hz (ZN_ZR z)
    have w : ∀ b j, ZR b j → ¬ (x = b ∧ i = j) := fun b j hb z => hz (by rw [z.1, z.2]; exact hb)
    have y0 : x ≠ 240 := fun z => hz (Or.inr (Or.inr (Or.inr (Or.inr (Or.inr (Or.inr (Or.inl z)))))))
    have y2 : x ≠ 242 := fun z => hz (Or.inr (Or.inr (Or.inr (Or.inr (Or.inr (Or.inr (Or.inr z)))))))
    rw [hr, if_neg (fun z => y2 z.1), if_neg (fun z => y0 z.1), if_neg (w _ _ (by decide)), if_neg (w _ _ (by decide)), fb.2 x i n2, hq, if_neg (w _ _ (by decide)), if_neg (w _ _ (by decide)), if_neg (w _ _ (by decide)), if_neg (w _ _ (by decide)), if_neg (w _ _ (by decide)), if_neg (w _ _ (by decide))]
    exact fa.2 x i n1
  · rw [hh]
    show b2.2 = h.2
    rw [fb.1, hH]
    exact fa.1
  · rw [lo _ _ (by decide), hq, if_pos (by decide), hr, if_neg (by decide), if_neg (by decide), if_neg (by decide), if_neg (by decide), z0]
  · rw [hh]
    exact RRef_ffA (by decide +kernel) (RRef_ffA (by decide +kernel) (RRef_wr (by decide +kernel) (RRef_wr (by decide +kernel) cb)))
  · rw [lo _ _ (by decide), hq, if_neg (by decide), if_neg (by decide), if_neg (by decide), if_neg (by decide), if_pos (by decide), hr, if_neg (by decide), if_neg (by decide), if_neg (by decide), if_pos (by decide)]
  · rw [lo _ _ (by decide), hq, if_neg (by decide), if_neg (by decide), if_neg (by decide), if_pos (by decide), hr, if_neg (by decide), if_neg (by decide), if_pos (by decide)]
  · rw [lo _ _ (by decide), hq, if_neg (by decide), if_neg (by decide), if_neg (by decide), if_neg (by decide), if_neg (by decide), if_pos (by decide)]
  · rw [hr, if_neg (by decide), if_neg (by decide), if_neg (by decide), if_neg (by decide)]; exact z8
  · show (mrd h2 0 8 = 162 ∧ mrd h2 0 9 = 195) ∨ (mrd h2 0 8 = 195 ∧ mrd h2 0 9 = 162)
    rw [e8', e9']
    rcases hs with ⟨rfl, rfl⟩ | ⟨rfl, rfl⟩
    · exact Or.inr ⟨rfl, rfl⟩
    · exact Or.inl ⟨rfl, rfl⟩
  · show mrd h2 162 4 = 168 ∨ mrd h2 162 4 = 201 ∨ mrd h2 162 4 = 228
    rw [e1']; exact hp.2.1
  · show mrd h2 195 4 = 168 ∨ mrd h2 195 4 = 201 ∨ mrd h2 195 4 = 228
    rw [e2']; exact hp.2.2.1
  · show mrd h2 0 10 = 168 ∨ mrd h2 0 10 = 201 ∨ mrd h2 0 10 = 228
    rw [e10']; exact hp.2.2.2.1
  · show mrd h2 162 4 ≠ mrd h2 195 4
    rw [e1', e2']; exact hp.2.2.2.2.1
  · show mrd h2 162 4 ≠ mrd h2 0 10
    rw [e1', e10']; exact hp.2.2.2.2.2.1
  · show mrd h2 195 4 ≠ mrd h2 0 10
    rw [e2', e10']; exact hp.2.2.2.2.2.2.1
  · show RSch (mrd h2) (mrd h2 0 8) 0 0 ∧ RAge (mrd h2) (mrd h2 (mrd h2 0 8) 4) 0 (mrd h2 (mrd h2 0 8) 7) (mrd h2 (mrd h2 0 8) 6)
    rw [e8', e4']
    refine ⟨RSch_cp (m := (mx a2 b2).1) (s1 := D) (B1 := 1640) (w1 := 80) (fun q q0 q1 => ja _ _ (by omega) (by omega) (by omega)) (fun l l0 l1 q q0 q1 => ja _ _ (by omega) (by omega) (by omega)) (fun k k0 k1 => ⟨fun q q0 q1 => ja _ _ (by omega) (by omega) (by omega), fun q q0 q1 => ja _ _ (by omega) (by omega) (by omega)⟩) (fun i i0 i1 => ?_) (fun i i0 i1 => ?_) rs, ?_, ?_, fun z => ?_⟩
    · rw [J_b (by decide) (by decide), hr, if_neg (by omega), if_pos ⟨rfl, by omega, by omega⟩, Int.zero_add]; rfl
    · rw [J_b (by decide) (by decide), hr, if_pos ⟨rfl, by omega, by omega⟩, Int.zero_add]; rfl
    · left
      rw [lo2 _ _ (by omega) (by omega) (by omega)]; exact zg
    · rw [lo2 _ _ (by omega) (by omega) (by omega), zg, hr, if_neg (by decide), if_pos (by decide)]
      exact dr.2.2.2.2.2.2.2.2.symm
    · rw [lo2 _ _ (by omega) (by omega) (by omega), zg] at z
      cases z
theorem KF_f {a h : AM} {D g v w : Int} (hD : HD D) (hg : HG g) (fa : a.2 = h.2 ∧ ∀ x i, ¬ ZX D g x i → mrd a x i = mrd h x i) : ∀ x i, 235 ≤ x → mrd (mwr (KF a v) 0 11 w) x i = mrd h x i := fun x i hx => by
  have bD := hD.b
  have bg := hg.b
  unfold KF
  rw [rdn1 (by omega), rdn1 (by omega), rdn1 (by omega), rdn1 (by omega)]
  refine fa.2 x i ?_
  unfold ZX ZD
  omega
theorem op_school : Op_school Inv2 := by
  intro d h n hI2 hn
  obtain ⟨hI, hB⟩ := hI2
  suffices S : ∃ r h1 h2, EV (d + 60) 112 0 [(2, 0), (0, n), (3, 0)] [] h = some ((0, r), h1) ∧ EV (d + 60) 234 0 [(2, 235), (0, n), (3, 0)] [] h1 = some ((0, r), h2) ∧ Inv h2 by
    obtain ⟨r, h1, h2, y1, y2, y3⟩ := S
    exact ⟨r, h1, h2, y1, y2, y3, Byt_EV y2 (Byt_EV y1 hB)⟩
  obtain ⟨s, e8, hs0, k0, kM, -, -⟩ := ctx hI
  have hR := hI.2.1.1
  obtain ⟨⟨t1, t2, t3⟩, t4⟩ := hI.2.1.2.2.2.1
  have t1 : mrd h 110 2 = mrd h 235 8 := t1
  have t2 : 0 ≤ mrd h 110 2 := t2
  have t3 : mrd h 110 2 ≤ 900 := t3
  have t4 : ∀ i, 0 ≤ i → i < mrd h 110 2 → mrd h 111 i = mrd h 239 i := t4
  have kk := kn_110 hI.1
  have r1 : mrd h 0 1 = 110 := rf_0_1 hR
  by_cases c : 0 ≤ n ∧ n ≤ mrd h 110 2
  · obtain ⟨N, hN⟩ := Int.eq_ofNat_of_zero_le c.1
    subst hN
    have hp : RPtr h.1 := hI.2.1.2.2.2.2.2.2.2.1
    obtain ⟨D, hD0⟩ : ∃ D, D = mrd h 0 9 := ⟨_, rfl⟩
    have hs : HS s D := by
      rw [hD0, ← e8]
      exact hp.1
    have hD := hs.d
    obtain ⟨g, hg0⟩ : ∃ g, g = mrd h D 4 := ⟨_, rfl⟩
    have hg : HG g := by
      rw [hg0]
      rcases hD with rfl | rfl
      · exact hp.2.1
      · exact hp.2.2.1
    have bD := hD.b
    have hT : ∀ i : Int, 0 ≤ i → i < N → mrd h 111 i = mrd h 239 i := fun i i0 i1 => t4 i i0 (by omega)
    have hBy : ∀ i : Int, 0 ≤ i → i < N → -128 ≤ mrd h 239 i ∧ mrd h 239 i ≤ 127 := fun i _ _ => hB 239 i (by have := hI.1.1; omega) (kn_239 hI.1).2.2
    have cs : ∀ a2 : AM, a2.2 = h.2 → isK a2 D 6 := fun a2 e => (isK_eq e).mpr (CS_of hI.1 hR (S6_cur hD)).1
    have X44 : ∀ a2 : AM, (a2.2 = h.2 ∧ ∀ x i, ¬ ZX D g x i → mrd a2 x i = mrd h x i) → mrd a2 110 9 = 0 → EV (d + 54 + 6) 112 44 [(2, 0), (0, (N : Int)), (3, 0)] [] (KF a2 (-1)) = some ((0, mrd a2 D 6), mwr (mwr (mwr (KF a2 (-1)) 0 8 D) 0 9 s) 0 11 0) := fun a2 fa h9 =>
      x_scS (d := d + 59) ((isK_eq fa.1).mpr k0) h9 (by rw [fa.2 _ _ (ZX_0 hD hg)]; exact e8) (by rw [fa.2 _ _ (ZX_0 hD hg)]; exact hD0.symm) (cs a2 fa.1) (by omega) (by omega)
    obtain ⟨a1, -, fa1, -, -, -, -, -, X1, -⟩ := sc_core (d := d + 54) (d' := 0) (b := h) hI.1 hR hD0.symm hD hg0.symm hg (CM_of hI) c.2 (by omega) (by omega) hBy hT
    have P1 : ∃ r1 H1, EV (d + 54 + 6) 112 0 [(2, 0), (0, (N : Int)), (3, 0)] [] h = some ((0, r1), H1) ∧ H1.2 = h.2 ∧ RRef H1.1 ∧ ∀ x i, 235 ≤ x → mrd H1 x i = mrd h x i := by
      have ra : RRef a1.1 := fun q hq => (fa1.2 _ _ (ZX_rf hD hg q hq)).trans (hR q hq)
      have rk : ∀ v, RRef (KF a1 v).1 := fun v => RRef_wr (by decide +kernel) (RRef_wr (by decide +kernel) (RRef_wr (by decide +kernel) ra))
      by_cases f : mrd a1 110 9 = 0
      · rw [if_pos f] at X1
        refine ⟨_, _, X1.trans (X44 a1 fa1 f), fa1.1, RRef_wr rn_st (RRef_wr (by decide +kernel) (RRef_wr (by decide +kernel) (rk _))), fun x i hx => ?_⟩
        rw [rdn1 (by omega), rdn1 (by omega), rdn1 (by omega), ← rdn1 (h := KF a1 (-1)) (a := 0) (i := 11) (v := 0) (show x ≠ 0 by omega)]
        exact KF_f hD hg fa1 x i hx
      · rw [if_neg f] at X1
        exact ⟨_, _, X1.trans (x_scF (d := d + 59) ((isK_eq fa1.1).mpr k0) f), fa1.1, RRef_wr rn_st (rk _), KF_f hD hg fa1⟩
    obtain ⟨rv, H1, Y1, Y2, Y4, Y3⟩ := P1
    have hmH : CM H1 := ⟨(isK_eq Y2).mpr kM, Shp_eq Y2 hI.1, Y4⟩
    obtain ⟨a2, b2, fa, fb, qq, ⟨z8, z0⟩, zg, dr, X2, M2⟩ := sc_core (d := d + 54) (d' := d + 53) (b := H1) hI.1 hR hD0.symm hD hg0.symm hg hmH c.2 (by rw [Y3 _ _ (by decide)]; omega) (by omega) (fun i i0 i1 => by rw [Y3 _ _ (by decide)]; exact hBy i i0 i1) (fun i i0 i1 => by rw [Y3 _ _ (by decide)]; exact hT i i0 i1)
    have e12 := qq.e12
    have cb := qq.2.1.1
    by_cases f : mrd a2 110 9 = 0
    · rw [if_pos f] at X2
      have X3 := X2.trans (X44 a2 fa f)
      rw [Y1] at X3
      obtain ⟨er, eH⟩ := Prod.mk.inj (Option.some.inj X3)
      have er := (Prod.mk.inj er).2
      have dr := dr f
      refine ⟨rv, H1, _, Y1, ?_, rd_S hI hs hD0.symm hg hg0.symm eH fa fb z8 z0 zg f dr rfl cb.2.2⟩
      rw [er, dr.1.2.1.1]
      exact M2.trans (m_scE (d := d + 58) cb (by omega))
    · rw [if_neg f] at X2
      have X3 := X2.trans (x_scF (d := d + 59) ((isK_eq fa.1).mpr k0) f)
      rw [Y1] at X3
      obtain ⟨er, eH⟩ := Prod.mk.inj (Option.some.inj X3)
      have er := (Prod.mk.inj er).2
      have e13 := qq.2.2.2.2.2.2 f
      refine ⟨rv, H1, _, Y1, ?_, rd_F hI e8 hs hg hg0.symm eH fa fb z8 (w := mrd a2 110 9) rfl rfl cb.2.2⟩
      rw [er, ← e12, ← e13]
      exact M2.trans (m_scF (d := d + 58) cb.1 (by omega))
  · refine opq hI (-1) 5 ?_ ?_
    · by_cases c0 : n < 0
      · simp only [e112_0, e112_1, e112_4, e112_5, e112_6, e112_9, e112_12, e112_15, e112_16, e112_17, e112_20, e112_21, e112_22, e112_25, e112_26, e112_29, e112_30, e112_33, e112_34, e112_37, e112_40, e112_41, e112_45, e112_48, e112_51, e112_52, e112_54, e112_57, e112_58, e112_59, e112_62, e112_63, e112_64, e112_65, e112_68, e112_71, e112_72, e112_73, e112_76, e112_77, e112_78, e112_81, e112_84, e112_87, psh0, psh1, psh3, true_or, or_true, eq_self, Option.bind_some, List.length_nil, List.length_cons, Nat.reduceAdd, Nat.reduceLeDiff, Nat.zero_le, ↓reduceIte, Int.reduceLT, Int.reduceEq, Int.reduceLE, Int.reduceNeg, Int.reduceAdd, Int.reduceMul, Int.reduceSub, ne_eq, not_true_eq_false, not_false_eq_true, and_true, true_and, and_false, false_and, c3lt, c3gt, c3eq, Bool.false_eq_true, isK_wr, inA_wr, inR_wr, k0, c0, x_refuse]
      · have c1 : mrd h 110 2 < n := by omega
        simp only [e112_0, e112_1, e112_4, e112_5, e112_6, e112_9, e112_12, e112_15, e112_16, e112_17, e112_20, e112_21, e112_22, e112_25, e112_26, e112_29, e112_30, e112_33, e112_34, e112_37, e112_40, e112_41, e112_45, e112_48, e112_51, e112_52, e112_54, e112_57, e112_58, e112_59, e112_62, e112_63, e112_64, e112_65, e112_68, e112_71, e112_72, e112_73, e112_76, e112_77, e112_78, e112_81, e112_84, e112_87, psh0, psh1, psh3, true_or, or_true, eq_self, Option.bind_some, List.length_nil, List.length_cons, Nat.reduceAdd, Nat.reduceLeDiff, Nat.zero_le, ↓reduceIte, Int.reduceLT, Int.reduceEq, Int.reduceLE, Int.reduceNeg, Int.reduceAdd, Int.reduceMul, Int.reduceSub, ne_eq, not_true_eq_false, not_false_eq_true, and_true, true_and, and_false, false_and, c3lt, c3gt, c3eq, Bool.false_eq_true, isK_wr, inA_wr, inR_wr, k0, c0, r1, kk, c1, x_refuse]
    · have g0 := m_st0 (d := d + 58) (b := mwr (mwr (mwr h 0 11 5) 235 1 0) 235 0 0) (n := n) (m := 900) kM (by rw [rdq5 (by decide) (by decide)]; omega)
      simp only [e234_0, e234_1, e234_2, e234_5, e234_6, e234_7, e234_10, e234_11, e234_12, e234_15, e234_18, e234_21, e234_22, e234_23, e234_24, e234_26, e234_29, e234_32, e234_33, e234_36, e234_39, e234_40, e234_41, e234_42, e234_43, e234_46, e234_50, e234_53, e234_56, e234_57, e234_58, e234_59, e234_60, e234_64, e234_67, e234_70, e234_71, e234_74, e234_77, e234_78, e234_81, e234_84, e234_85, e234_88, e234_91, e234_92, e234_95, e234_98, e234_99, e234_102, e234_105, e234_106, e234_109, e234_112, e234_113, e234_116, e234_119, e234_120, e234_123, e234_126, e234_127, e234_130, e234_133, e234_134, e234_137, e234_138, e234_139, e234_141, e234_144, e234_147, e234_151, e234_154, e234_157, e234_158, e234_159, e234_160, e234_161, e234_162, e234_165, e234_166, e234_169, e234_170, e234_171, psh0, psh1, psh3, true_or, or_true, eq_self, Option.bind_some, List.length_nil, List.length_cons, Nat.reduceAdd, Nat.reduceLeDiff, Nat.zero_le, ↓reduceIte, Int.reduceLT, Int.reduceEq, Int.reduceLE, Int.reduceNeg, Int.reduceAdd, Int.reduceMul, Int.reduceSub, ne_eq, not_true_eq_false, not_false_eq_true, and_true, true_and, and_false, false_and, c3lt, c3gt, c3eq, Bool.false_eq_true, isK_wr, inA_wr, inR_wr, kM, g0, wrwr]

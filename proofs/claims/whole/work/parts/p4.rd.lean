/-! sounds; perhaps a number -/
section
variable {d d' N : Nat} {a a' a1 a2 b b' b1 b2 : AM} {D v v' k hi c : Int}
theorem x_rS1 (ks : isK a D 6) (kk : isK a 110 5) (h : ¬ mrd a D 9 = 0) : EV (d + 1) 57 0 [(2, D), (2, 110)] [] a = some ((3, 0), blm a 5) := by
  simp only [e57_0, e57_1, e57_4, e57_7, e57_8, e57_9, e57_12, e57_13, e57_14, e57_17, e57_18, e57_19, e57_20, e57_22, e57_25, e57_28, e57_29, e57_30, e57_33, psh0, psh1, psh3, true_or, or_true, eq_self, Option.bind_some, List.length_nil, List.length_cons, Nat.reduceAdd, Nat.reduceLeDiff, Nat.zero_le, ↓reduceIte, Int.reduceLT, Int.reduceEq, Int.reduceLE, Int.reduceNeg, Int.reduceAdd, Int.reduceMul, Int.reduceSub, ne_eq, not_true_eq_false, not_false_eq_true, and_true, true_and, and_false, false_and, c3lt, c3gt, c3eq, Bool.false_eq_true, isK_wr, inA_wr, inR_wr, ks, kk, h, x_blame kk]
theorem x_rS0 (ks : isK a D 6) (kk : isK a 110 5) (h : mrd a D 9 = 0) (g1 : EV d 35 0 [(2, 110)] [] a = some ((3, 0), a1)) (kk1 : isK a1 110 5) (g2 : EV d 45 0 [(2, 110), (0, 1), (0, 9), (3, 0)] [] a1 = some ((0, v), a2)) (ks2 : isK a2 D 6) : EV (d + 1) 57 0 [(2, D), (2, 110)] [] a = some ((3, 0), mwr (mwr a2 D 8 v) D 9 1) := by
  simp only [e57_0, e57_1, e57_4, e57_7, e57_8, e57_9, e57_12, e57_13, e57_14, e57_17, e57_18, e57_19, e57_20, e57_22, e57_25, e57_28, e57_29, e57_30, e57_33, psh0, psh1, psh3, true_or, or_true, eq_self, Option.bind_some, List.length_nil, List.length_cons, Nat.reduceAdd, Nat.reduceLeDiff, Nat.zero_le, ↓reduceIte, Int.reduceLT, Int.reduceEq, Int.reduceLE, Int.reduceNeg, Int.reduceAdd, Int.reduceMul, Int.reduceSub, ne_eq, not_true_eq_false, not_false_eq_true, and_true, true_and, and_false, false_and, c3lt, c3gt, c3eq, Bool.false_eq_true, isK_wr, inA_wr, inR_wr, ks, kk, h, g1, kk1, g2, ks2]
theorem m_rS1 (kM : isK b 235 11) (h : ¬ mrd b 235 24 = 0) (k' : isK (flm b 5 (mrd b 235 15)) 235 11) (h' : 0 < mrd (flm b 5 (mrd b 235 15)) 235 12) : EV (d + 1) 233 0 [(2, 235)] [] b = some ((3, 0), flm b 5 (mrd b 235 15)) := by
  simp only [e233_0, e233_1, e233_4, e233_7, e233_8, e233_9, e233_10, e233_13, e233_16, e233_17, e233_20, e233_23, e233_24, e233_25, e233_26, e233_29, e233_30, e233_33, e233_34, e233_37, e233_40, e233_41, e233_42, e233_44, e233_47, e233_48, psh0, psh1, psh3, true_or, or_true, eq_self, Option.bind_some, List.length_nil, List.length_cons, Nat.reduceAdd, Nat.reduceLeDiff, Nat.zero_le, ↓reduceIte, Int.reduceLT, Int.reduceEq, Int.reduceLE, Int.reduceNeg, Int.reduceAdd, Int.reduceMul, Int.reduceSub, ne_eq, not_true_eq_false, not_false_eq_true, and_true, true_and, and_false, false_and, c3lt, c3gt, c3eq, Bool.false_eq_true, isK_wr, inA_wr, inR_wr, kM, h, m_fail kM, k', h']
theorem m_rS0 (kM : isK b 235 11) (h : mrd b 235 24 = 0) (h12 : mrd b 235 12 = 0) (g1 : EV d 193 0 [(2, 235), (3, 0)] [] (mwr b 235 24 1) = some ((3, 0), b1)) (hm1 : CM b1) (g2 : EV d 216 0 [(2, 235), (0, 1), (0, 9), (3, 0)] [] b1 = some ((0, v'), b2)) (hm2 : CM b2) : EV (d + 1) 233 0 [(2, 235)] [] b = some ((3, 0), mwr b2 240 1643 v') := by
  have k1 := hm1.1
  have r1 := mC hm1
  have hA : inA b2 240 16 1643 := ⟨kn_240 hm2.2.1, by omega, by rw [ln_240 hm2.2.1]; omega⟩
  simp only [e233_0, e233_1, e233_4, e233_7, e233_8, e233_9, e233_10, e233_13, e233_16, e233_17, e233_20, e233_23, e233_24, e233_25, e233_26, e233_29, e233_30, e233_33, e233_34, e233_37, e233_40, e233_41, e233_42, e233_44, e233_47, e233_48, psh0, psh1, psh3, true_or, or_true, eq_self, Option.bind_some, List.length_nil, List.length_cons, Nat.reduceAdd, Nat.reduceLeDiff, Nat.zero_le, ↓reduceIte, Int.reduceLT, Int.reduceEq, Int.reduceLE, Int.reduceNeg, Int.reduceAdd, Int.reduceMul, Int.reduceSub, ne_eq, not_true_eq_false, not_false_eq_true, and_true, true_and, and_false, false_and, c3lt, c3gt, c3eq, Bool.false_eq_true, isK_wr, inA_wr, inR_wr, kM, h, h12, g1, k1, r1, g2, hA]
/-- sounds, both sides -/
theorem sd_both (q : QQ N a b) (h9 : mrd a 110 9 = 0) (h14 : mrd b 235 14 = 1) (hD : D = 162 ∨ D = 195) (dr : DR D a b) : ∃ a' b', EV (d + 3) 57 0 [(2, D), (2, 110)] [] a = some ((3, 0), a') ∧ EV (d' + 3) 233 0 [(2, 235)] [] b = some ((3, 0), b') ∧ PO N D a b a' b' := by
  have cs : CS a D := CS_of q.1.1 q.1.2.1 (S6_cur hD)
  have e12 := q.e12
  have nD : D ≠ 110 := by omega
  obtain ⟨s1, s2⟩ := dr.2.2.1
  by_cases c : mrd a D 9 = 0
  · have zM : ZM 235 24 := Or.inl ⟨rfl, Or.inr rfl⟩
    have dB0 : DM b (mwr b 235 24 1) := DM.wr ⟨rfl, fun _ _ _ => rfl⟩ zM
    have q0 : QQ N a (mwr b 235 24 1) := q.xm hD (a' := a) ⟨rfl, fun _ _ _ => rfl⟩ (fun _ => rfl) dB0 (fun i hi => by rw [rdn2 (by omega)])
    obtain ⟨a1, b1, y1, y2, y3, y4, y5, y6, y7⟩ := adv2 (d := d + 1) (d' := d' + 1) q0 h9 (by rw [rdn2 (by decide)]; omega)
    rw [rdn2 (by decide)] at y7
    have t3 := (q.tg h9).2.2.1 (by omega)
    have t4 := t3.2.2.2 (by omega)
    obtain ⟨v, v', a2, b2, p1, p2, ⟨p3, p4, p5, p6, p7⟩, p8, p9, p10⟩ := pn_both (d := d) (d' := d') (lo := 1) (hi := 9) y5 (by decide) (by decide)
    have cs2 : CS a2 D := CS_of p5.1.1 p5.1.2.1 (S6_cur hD)
    have z1 : ZD D D 8 := Or.inr (Or.inl ⟨rfl, by decide, by decide⟩)
    have z2 : ZD D D 9 := Or.inr (Or.inl ⟨rfl, by decide, by decide⟩)
    have dA : DX D a2 (mwr (mwr a2 D 8 v) D 9 1) := (DX.wr ⟨rfl, fun _ _ _ => rfl⟩ z1).wr z2
    have r110 : ∀ i, mrd (mwr (mwr a2 D 8 v) D 9 1) 110 i = mrd a2 110 i := fun i => by rw [rdn1 (by omega), rdn1 (by omega)]
    have zM2 : ZM 240 1643 := Or.inr (Or.inl ⟨rfl, by decide⟩)
    have dB : DM b2 (mwr b2 240 1643 v') := DM.wr ⟨rfl, fun _ _ _ => rfl⟩ zM2
    refine ⟨_, _, x_rS0 cs.1 q.k c y1 y5.k p1 cs2.1, m_rS0 q.km (by omega) (by omega) y2 y5.2.1.1 p2 p5.2.1.1, ((y3.tr p3).dx).tr dA, (dB0.tr (y4.tr p4).dm).tr dB, p5.xm hD dA r110 dB (fun i _ => by rw [rdn1 (by decide)]), fun z => ?_⟩
    rw [r110] at z
    have w1 := p10 z
    have w2 := p6 z
    refine ⟨?_, by rw [rdn1 (by decide)]; omega⟩
    have ea : ∀ x i, x ≠ 110 → ¬ (x = D ∧ i = 8) → ¬ (x = D ∧ i = 9) → mrd (mwr (mwr a2 D 8 v) D 9 1) x i = mrd a x i := fun x i h0 h1 h2 => by
      rw [rd_wr, if_neg h2, rd_wr, if_neg h1, p3.2 x i (by omega)]; exact y3.2 x i (by omega)
    have eb : ∀ x i, x ≠ 235 → ¬ (x = 240 ∧ i = 1643) → mrd (mwr b2 240 1643 v') x i = mrd b x i := fun x i h0 h2 => by
      rw [rd_wr, if_neg h2, p4.2 x i (by omega), y4.2 x i (by omega), rdn1 (by omega)]
    have b24 : mrd (mwr b2 240 1643 v') 235 24 = 1 := by rw [rdn1 (by decide), p4.2 _ _ (by omega), y4.2 _ _ (by omega), rde]
    obtain ⟨n5, nL, nC, nm4, nm5, nm6⟩ := dr.1
    have E5 := ea D 5 nD (by omega) (by omega)
    have E6 := ea D 6 nD (by omega) (by omega)
    have E7 := ea D 7 nD (by omega) (by omega)
    have E8 : mrd (mwr (mwr a2 D 8 v) D 9 1) D 8 = v := by rw [rdn2 (by decide), rde]
    have E9 : mrd (mwr (mwr a2 D 8 v) D 9 1) D 9 = 1 := rde
    have F8 : mrd (mwr b2 240 1643 v') 240 1643 = v' := rde
    refine dr.up hD ?_ ?_ ?_ (by omega) (by omega) (by omega) (fun l i l0 l1 => ea _ _ (by omega) (by omega) (by omega)) (fun k i k0 k1 => ⟨ea _ _ (by omega) (by omega) (by omega), ea _ _ (by omega) (by omega) (by omega)⟩) (fun l l0 l1 => ⟨eb _ _ (by decide) (by omega), eb _ _ (by decide) (by omega), eb _ _ (by decide) (by omega), eb _ _ (by decide) (by omega), eb _ _ (by decide) (by omega), eb _ _ (by decide) (by omega)⟩) (fun k k0 k1 => ⟨eb _ _ (by decide) (by omega), eb _ _ (by decide) (by omega), eb _ _ (by decide) (by omega)⟩) (fun i _ => eb _ _ (by decide) (by omega)) (fun l l0 l1 => by omega) (fun k k0 k1 => by omega) (fun l l0 l1 => eb _ _ (by decide) (by omega)) (fun k k0 k1 => ⟨eb _ _ (by decide) (by omega), eb _ _ (by decide) (by omega)⟩)
    · unfold NmR
      rw [E5, E6, E7, eb 240 1640 (by decide) (by omega), eb 240 1641 (by decide) (by omega), eb 240 1642 (by decide) (by omega)]
      refine ⟨n5, nL, nC, fun j j0 j1 => ?_, fun j j0 j1 => ?_, fun j j0 j1 => ?_⟩
      · rw [ea _ _ (by omega) (by omega) (by omega), eb _ _ (by decide) (by omega)]; exact nm4 j j0 j1
      · rw [ea _ _ (by omega) (by omega) (by omega), eb _ _ (by decide) (by omega)]; exact nm5 j j0 j1
      · rw [ea _ _ (by omega) (by omega) (by omega), eb _ _ (by decide) (by omega)]; exact nm6 j j0 j1
    · rw [E8, F8]; exact ⟨w1.symm, by omega, by omega⟩
    · rw [E9, b24]; exact ⟨rfl, Or.inr rfl⟩
  · have r := PO.bl (D := D) q (w := 5) (by decide)
    have r1 := r.2.2.1.e12
    have r2 := r.2.2.1.ge
    have r3 := (blm_both q (w := 5) (by decide)).2.1
    exact ⟨_, _, x_rS1 cs.1 q.k c, m_rS1 q.km (by omega) r.2.2.1.km (by omega), r⟩
/-- the reference's frame with one number -/
def NC (b b' : AM) (c : Int) : Prop := b'.2 = b.2 ∧ ∀ x i, ¬ (x = 235 ∧ 12 ≤ i ∧ i ≤ 19) → ¬ (x = 240 ∧ i = c) → mrd b' x i = mrd b x i
theorem NC.dm (h : NC b b' c) (h0 : 1640 ≤ c) : DM b b' := ⟨h.1, fun x i hx => h.2 x i (fun z => hx (Or.inl ⟨z.1, Or.inl z.2⟩)) (fun z => hx (Or.inr (Or.inl ⟨z.1, by omega⟩)))⟩
theorem x_per0 (g : EV d 41 0 [(2, 110), (0, k)] [] a = some ((0, 0), a)) (kk : isK a 110 5) : EV (d + 1) 58 0 [(2, 110), (0, k), (0, hi)] [] a = some ((0, 0), a) := by
  simp only [e58_0, e58_1, e58_2, e58_5, e58_8, e58_9, e58_10, e58_11, e58_14, e58_15, e58_16, e58_17, e58_20, psh0, psh1, psh3, true_or, or_true, eq_self, Option.bind_some, List.length_nil, List.length_cons, Nat.reduceAdd, Nat.reduceLeDiff, Nat.zero_le, ↓reduceIte, Int.reduceLT, Int.reduceEq, Int.reduceLE, Int.reduceNeg, Int.reduceAdd, Int.reduceMul, Int.reduceSub, ne_eq, not_true_eq_false, not_false_eq_true, and_true, true_and, and_false, false_and, c3lt, c3gt, c3eq, Bool.false_eq_true, isK_wr, inA_wr, inR_wr, kk, g]
theorem x_per1 (g : EV d 41 0 [(2, 110), (0, k)] [] a = some ((0, 1), a)) (kk : isK a 110 5) (g1 : EV d 35 0 [(2, 110)] [] a = some ((3, 0), a1)) (kk1 : isK a1 110 5) (g2 : EV d 45 0 [(2, 110), (0, 0), (0, hi), (3, 0)] [] a1 = some ((0, v), a2)) : EV (d + 1) 58 0 [(2, 110), (0, k), (0, hi)] [] a = some ((0, v), a2) := by
  simp only [e58_0, e58_1, e58_2, e58_5, e58_8, e58_9, e58_10, e58_11, e58_14, e58_15, e58_16, e58_17, e58_20, psh0, psh1, psh3, true_or, or_true, eq_self, Option.bind_some, List.length_nil, List.length_cons, Nat.reduceAdd, Nat.reduceLeDiff, Nat.zero_le, ↓reduceIte, Int.reduceLT, Int.reduceEq, Int.reduceLE, Int.reduceNeg, Int.reduceAdd, Int.reduceMul, Int.reduceSub, ne_eq, not_true_eq_false, not_false_eq_true, and_true, true_and, and_false, false_and, c3lt, c3gt, c3eq, Bool.false_eq_true, isK_wr, inA_wr, inR_wr, kk, g, g1, kk1, g2]
/-- perhaps a word and a number, kept at c by the reference -/
theorem per_both (q : QQ N a b) (k0 : 0 ≤ k) (hi0 : 0 ≤ hi) (c0 : 1640 ≤ c) : ∃ v a' b', EV (d + 3) 58 0 [(2, 110), (0, k), (0, hi)] [] a = some ((0, v), a') ∧ AX a a' ∧ NC b b' c ∧ QQ N a' b' ∧ (0 ≤ v ∧ v ≤ hi) ∧ (mrd a' 110 9 = 0 → mrd a 110 9 = 0 ∧ mrd b 235 15 ≤ mrd b' 235 15 ∧ (mrd b 240 c = 0 → mrd b' 240 c = v)) ∧
    ((mrd b 235 12 = 0 ∧ wx b = k ∧ ∃ b1 v' b2, EV (d' + 2) 193 0 [(2, 235), (3, 0)] [] b = some ((3, 0), b1) ∧ CM b1 ∧ EV (d' + 2) 216 0 [(2, 235), (0, 0), (0, hi), (3, 0)] [] b1 = some ((0, v'), b2) ∧ CM b2 ∧ b' = mwr b2 240 c v') ∨ (¬ (mrd b 235 12 = 0 ∧ wx b = k) ∧ b' = b)) := by
  have e12 := q.e12
  have g := x_isWord (d := d + 2) q k0
  by_cases cw : mrd a 110 9 = 0 ∧ wx b = k
  · rw [if_pos cw] at g
    obtain ⟨h9, hw⟩ := cw
    have h14 : mrd b 235 14 = 1 := by
      unfold wx at hw
      by_cases z : mrd b 235 14 = 1
      · exact z
      · rw [if_neg z] at hw; omega
    obtain ⟨a1, b1, y1, y2, y3, y4, y5, y6, y7⟩ := adv2 (d := d + 1) (d' := d' + 1) q h9 (by omega)
    have t3 := (q.tg h9).2.2.1 (by omega)
    have t4 := t3.2.2.2 (by omega)
    obtain ⟨v, v', a2, b2, p1, p2, ⟨p3, p4, p5, p6, p7⟩, p8, p9, p10⟩ := pn_both (d := d) (d' := d') (lo := 0) (hi := hi) y5 (by decide) hi0
    have zM2 : ZM 240 c := Or.inr (Or.inl ⟨rfl, c0⟩)
    have dB : DM b2 (mwr b2 240 c v') := DM.wr ⟨rfl, fun _ _ _ => rfl⟩ zM2
    have dA : DX 162 a2 a2 := ⟨rfl, fun _ _ _ => rfl⟩
    refine ⟨v, a2, mwr b2 240 c v', x_per1 g q.k y1 y5.k p1, y3.tr p3, ⟨p4.1.trans y4.1, fun x i hx hc => ?_⟩, p5.xm (Or.inl rfl) dA (fun _ => rfl) dB (fun i _ => by rw [rdn1 (by decide)]), p8, fun z => ⟨h9, ?_, fun _ => ?_⟩, Or.inl ⟨by omega, hw, b1, v', b2, y2, y5.2.1.1, p2, p5.2.1.1, rfl⟩⟩
    · rw [rd_wr, if_neg hc, p4.2 x i hx]; exact y4.2 x i hx
    · have := p6 z
      rw [rdn1 (by decide)]; omega
    · rw [rde]; exact p10 z
  · rw [if_neg cw] at g
    refine ⟨0, a, b, x_per0 g q.k, AX.rf, ⟨rfl, fun _ _ _ _ => rfl⟩, q, by omega, fun z => ⟨z, by omega, fun y => y⟩, Or.inr ⟨fun z => cw ⟨by omega, z.2⟩, rfl⟩⟩
end

/-! master, sounds: both sides -/
section
variable {d d' N : Nat} {a a' a1 a2 b b' b1 : AM} {D v m : Int}
theorem QQ.xm (q : QQ N a b) (hD : D = 162 ∨ D = 195) (hA : DX D a a') (hA0 : ∀ i, mrd a' 110 i = mrd a 110 i) (hB : DM b b') (hB0 : ∀ i, i ≤ 19 → mrd b' 235 i = mrd b 235 i) : QQ N a' b' := by
  refine q.fr (fun x i hx => ?_) (fun x i hx => ?_) (q.1.dx hD hA) (q.2.1.dm hB)
  · rcases hx with rfl | rfl
    · exact hA0 i
    · refine hA.2 _ _ ?_
      rcases hD with rfl | rfl
      · unfold ZD; omega
      · unfold ZD; omega
  · rcases hx with ⟨rfl, h0, h1⟩ | rfl
    · exact hB0 i h1
    · exact hB.2 _ _ (by unfold ZM; omega)
/-- the outcome of a part of a school's text -/
def PO (N : Nat) (D : Int) (a b a' b' : AM) : Prop := DX D a a' ∧ DM b b' ∧ QQ N a' b' ∧ (mrd a' 110 9 = 0 → DR D a' b' ∧ mrd b 235 15 < mrd b' 235 15)
theorem PO.bl {w : Int} (q : QQ N a b) (h1 : 1 ≤ w) : PO N D a b (blm a w) (flm b w (mrd b 235 15)) := by
  obtain ⟨r1, r2, r3, r4⟩ := blm_both q h1
  exact ⟨r3.dx, r4.dm, r1, fun z => absurd z r2⟩
theorem x_rM4 (ks : isK a D 6) (kk : isK a 110 5) (h : ¬ mrd a D 5 < 4) : EV (d + 1) 53 0 [(2, D), (2, 110)] [] a = some ((3, 0), blm a 6) := by
  simp only [e53_0, e53_1, e53_4, e53_5, e53_8, e53_9, e53_11, e53_14, e53_15, e53_16, e53_19, e53_20, e53_23, e53_24, e53_27, e53_28, e53_29, e53_32, e53_33, e53_34, e53_34i, e53_35, e53_38, e53_39, e53_40, e53_43, psh0, psh1, psh3, true_or, or_true, eq_self, Option.bind_some, List.length_nil, List.length_cons, Nat.reduceAdd, Nat.reduceLeDiff, Nat.zero_le, ↓reduceIte, Int.reduceLT, Int.reduceEq, Int.reduceLE, Int.reduceNeg, Int.reduceAdd, Int.reduceMul, Int.reduceSub, ne_eq, not_true_eq_false, not_false_eq_true, and_true, true_and, and_false, false_and, c3lt, c3gt, c3eq, Bool.false_eq_true, isK_wr, inA_wr, inR_wr, ks, kk, h, x_blame kk]
theorem x_rMs (ks : isK a D 6) (kk : isK a 110 5) (hm : mrd a D 5 = m) (m0 : 0 ≤ m) (m4 : m < 4) (g1 : EV d 35 0 [(2, 110)] [] a = some ((3, 0), a1)) (ks1 : isK a1 D 6) (r0 : mrd a1 D 0 = D + 1) (hm1 : mrd a1 D 5 = m) (kk1 : isK a1 110 5) (g2 : EV d 59 0 [(2, D), (2, 110), (3, 0), (3, 0)] [] a1 = some ((1, v), a2)) (hA : inA a2 (D + 1) 19 m) (ks2 : isK a2 D 6) (hm2 : mrd a2 D 5 = m) : EV (d + 1) 53 0 [(2, D), (2, 110)] [] a = some ((3, 0), mwr (mwr a2 (D + 1) m v) D 5 (m + 1)) := by
  have e : mrd (mwr a2 (D + 1) m v) D 5 = m := by rw [rdn1 (by omega)]; exact hm2
  have w : w32 (m + 1) = m + 1 := w32_id (by omega) (by omega)
  simp only [e53_0, e53_1, e53_4, e53_5, e53_8, e53_9, e53_11, e53_14, e53_15, e53_16, e53_19, e53_20, e53_23, e53_24, e53_27, e53_28, e53_29, e53_32, e53_33, e53_34, e53_34i, e53_35, e53_38, e53_39, e53_40, e53_43, psh0, psh1, psh3, true_or, or_true, eq_self, Option.bind_some, List.length_nil, List.length_cons, Nat.reduceAdd, Nat.reduceLeDiff, Nat.zero_le, ↓reduceIte, Int.reduceLT, Int.reduceEq, Int.reduceLE, Int.reduceNeg, Int.reduceAdd, Int.reduceMul, Int.reduceSub, ne_eq, not_true_eq_false, not_false_eq_true, and_true, true_and, and_false, false_and, c3lt, c3gt, c3eq, Bool.false_eq_true, isK_wr, inA_wr, inR_wr, ks, kk, hm, m4, g1, ks1, r0, hm1, kk1, g2, hA, ks2, e, w]
theorem m_rM4 (hm : CM b) (h4 : mrd b 240 1640 = 4) (k' : isK (flm b 6 (mrd b 235 15)) 235 11) (h' : 0 < mrd (flm b 6 (mrd b 235 15)) 235 12) : EV (d + 1) 229 0 [(2, 235), (3, 0)] [] b = some ((3, 0), flm b 6 (mrd b 235 15)) := by
  have kM := hm.1
  have r0 := mC hm
  have hA : inA b 240 16 1640 := ⟨kn_240 hm.2.1, by omega, by rw [ln_240 hm.2.1]; omega⟩
  simp only [e229_0, e229_1, e229_4, e229_7, e229_8, e229_9, e229_10, e229_11, e229_14, e229_15, e229_17, e229_18, e229_21, e229_24, e229_25, e229_28, e229_31, e229_32, e229_33, e229_34, e229_37, e229_38, e229_41, e229_44, e229_45, e229_48, e229_51, e229_52, e229_53, e229_54, e229_55, e229_56, psh0, psh1, psh3, true_or, or_true, eq_self, Option.bind_some, List.length_nil, List.length_cons, Nat.reduceAdd, Nat.reduceLeDiff, Nat.zero_le, ↓reduceIte, Int.reduceLT, Int.reduceEq, Int.reduceLE, Int.reduceNeg, Int.reduceAdd, Int.reduceMul, Int.reduceSub, ne_eq, not_true_eq_false, not_false_eq_true, and_true, true_and, and_false, false_and, c3lt, c3gt, c3eq, Bool.false_eq_true, isK_wr, inA_wr, inR_wr, kM, r0, hA, h4, m_fail kM, k', h']
theorem m_rMs (hm : CM b) (h12 : mrd b 235 12 = 0) (he : mrd b 240 1640 = m) (m0 : 0 ≤ m) (m4 : m < 4) (g : EV d 226 0 [(2, 235), (0, m)] [] b = some ((3, 0), b1)) (hm1 : CM b1) (he1 : mrd b1 240 1640 = m) : EV (d + 1) 229 0 [(2, 235), (3, 0)] [] b = some ((3, 0), if mrd b1 235 12 = 0 then mwr b1 240 1640 (m + 1) else b1) := by
  have kM := hm.1
  have r0 := mC hm
  have hA : inA b 240 16 1640 := ⟨kn_240 hm.2.1, by omega, by rw [ln_240 hm.2.1]; omega⟩
  have k1 := hm1.1
  have r1 := mC hm1
  have hA1 : inA b1 240 16 1640 := ⟨kn_240 hm1.2.1, by omega, by rw [ln_240 hm1.2.1]; omega⟩
  have n4 : ¬ m = 4 := by omega
  have w : w32 (m + 1) = m + 1 := w32_id (by omega) (by omega)
  by_cases c : mrd b1 235 12 = 0
  · rw [if_pos c]
    simp only [e229_0, e229_1, e229_4, e229_7, e229_8, e229_9, e229_10, e229_11, e229_14, e229_15, e229_17, e229_18, e229_21, e229_24, e229_25, e229_28, e229_31, e229_32, e229_33, e229_34, e229_37, e229_38, e229_41, e229_44, e229_45, e229_48, e229_51, e229_52, e229_53, e229_54, e229_55, e229_56, psh0, psh1, psh3, true_or, or_true, eq_self, Option.bind_some, List.length_nil, List.length_cons, Nat.reduceAdd, Nat.reduceLeDiff, Nat.zero_le, ↓reduceIte, Int.reduceLT, Int.reduceEq, Int.reduceLE, Int.reduceNeg, Int.reduceAdd, Int.reduceMul, Int.reduceSub, ne_eq, not_true_eq_false, not_false_eq_true, and_true, true_and, and_false, false_and, c3lt, c3gt, c3eq, Bool.false_eq_true, isK_wr, inA_wr, inR_wr, kM, r0, hA, he, n4, h12, g, k1, r1, hA1, c, he1, w]
  · rw [if_neg c]
    simp only [e229_0, e229_1, e229_4, e229_7, e229_8, e229_9, e229_10, e229_11, e229_14, e229_15, e229_17, e229_18, e229_21, e229_24, e229_25, e229_28, e229_31, e229_32, e229_33, e229_34, e229_37, e229_38, e229_41, e229_44, e229_45, e229_48, e229_51, e229_52, e229_53, e229_54, e229_55, e229_56, psh0, psh1, psh3, true_or, or_true, eq_self, Option.bind_some, List.length_nil, List.length_cons, Nat.reduceAdd, Nat.reduceLeDiff, Nat.zero_le, ↓reduceIte, Int.reduceLT, Int.reduceEq, Int.reduceLE, Int.reduceNeg, Int.reduceAdd, Int.reduceMul, Int.reduceSub, ne_eq, not_true_eq_false, not_false_eq_true, and_true, true_and, and_false, false_and, c3lt, c3gt, c3eq, Bool.false_eq_true, isK_wr, inA_wr, inR_wr, kM, r0, hA, he, n4, h12, g, k1, c]
/-- a master, both sides -/
theorem sm_both (q : QQ N a b) (h9 : mrd a 110 9 = 0) (h14 : mrd b 235 14 = 1) (hD : D = 162 ∨ D = 195) (dr : DR D a b) : ∃ a' b', EV (d + 4) 53 0 [(2, D), (2, 110)] [] a = some ((3, 0), a') ∧ EV (d' + 5) 229 0 [(2, 235), (3, 0)] [] b = some ((3, 0), b') ∧ PO N D a b a' b' := by
  have cs : CS a D := CS_of q.1.1 q.1.2.1 (S6_cur hD)
  have e12 := q.e12
  obtain ⟨⟨n1, n2, n3⟩, nL, nC, nm4, nm5, nm6⟩ := dr.1
  obtain ⟨m, hm⟩ : ∃ m, m = mrd a D 5 := ⟨_, rfl⟩
  rw [← hm] at n1 n2 n3 nm4
  by_cases c : m < 4
  · obtain ⟨a1, v, a2, b1, y1, y2, y3, y4, y5, y6, y7, y8⟩ := nn_both (d := d) (d' := d') (s := D) q h9 h14 hD dr.1 (p := m) n2 (by omega)
    have cs1 : CS a1 D := CS_of (q.1.ax y2).1 (q.1.ax y2).2.1 (S6_cur hD)
    have cs2 : CS a2 D := CS_of y7.1.1 y7.1.2.1 (S6_cur hD)
    have nD : D ≠ 110 := by omega
    have hm1 : mrd a1 D 5 = m := by rw [y2.2 _ _ (by omega)]; exact hm.symm
    have hm2 : mrd a2 D 5 = m := by rw [y4.2 _ _ (by omega)]; exact hm.symm
    have e2 : mrd b1 240 1640 = m := by rw [y6.2 _ _ (by omega) (by omega)]; exact n1.symm
    have f12 := y7.e12
    have hA : inA a2 (D + 1) 19 m := ⟨cs2.2.2.2.2.2.2.1, by omega, by rw [cs2.2.2.2.2.2.2.2.1]; omega⟩
    have z1 : ZD D (D + 1) m := Or.inr (Or.inr (Or.inl rfl))
    have z2 : ZD D D 5 := Or.inr (Or.inl ⟨rfl, by decide, by decide⟩)
    have dA : DX D a2 (mwr (mwr a2 (D + 1) m v) D 5 (m + 1)) := (DX.wr ⟨rfl, fun _ _ _ => rfl⟩ z1).wr z2
    have r110 : ∀ i, mrd (mwr (mwr a2 (D + 1) m v) D 5 (m + 1)) 110 i = mrd a2 110 i := fun i => by rw [rdn1 (by omega), rdn1 (by omega)]
    refine ⟨_, _, x_rMs cs.1 q.k hm.symm n2 c y1 cs1.1 cs1.2.1 hm1 (kn_110 (q.1.ax y2).1) y3 hA cs2.1 hm2, m_rMs q.2.1.1 (by omega) n1.symm n2 c y5 y7.2.1.1 e2, ?_⟩
    by_cases cg : mrd a2 110 9 = 0
    · rw [if_pos (by omega)]
      have zM : ZM 240 1640 := Or.inr (Or.inl ⟨rfl, by decide⟩)
      have dB : DM b1 (mwr b1 240 1640 (m + 1)) := DM.wr ⟨rfl, fun _ _ _ => rfl⟩ zM
      refine ⟨(y4.dx).tr dA, (y6.dm (by omega)).tr dB, y7.xm hD dA r110 dB (fun i _ => by rw [rdn1 (by decide)]), fun _ => ?_⟩
      obtain ⟨w1, w2⟩ := y8 cg
      refine ⟨?_, by rw [rdn1 (by decide)]; exact w2⟩
      have ea : ∀ x i, x ≠ 110 → ¬ (x = D + 1 ∧ i = m) → ¬ (x = D ∧ i = 5) → mrd (mwr (mwr a2 (D + 1) m v) D 5 (m + 1)) x i = mrd a x i := fun x i h0 h1 h2 => by
        rw [rd_wr, if_neg h2, rd_wr, if_neg h1]; exact y4.2 x i (by omega)
      have eb : ∀ x i, x ≠ 235 → ¬ (x = 242 ∧ i = 80 + m) → ¬ (x = 240 ∧ i = 1640) → mrd (mwr b1 240 1640 (m + 1)) x i = mrd b x i := fun x i h0 h1 h2 => by
        rw [rd_wr, if_neg h2]; exact y6.2 x i (by omega) h1
      have b24 : mrd (mwr b1 240 1640 (m + 1)) 235 24 = mrd b 235 24 := by rw [rdn1 (by decide)]; exact y6.2 _ _ (by omega) (by omega)
      have E5 : mrd (mwr (mwr a2 (D + 1) m v) D 5 (m + 1)) D 5 = m + 1 := rde
      have E6 := ea D 6 nD (by omega) (by omega)
      have E7 := ea D 7 nD (by omega) (by omega)
      have F5 : mrd (mwr b1 240 1640 (m + 1)) 240 1640 = m + 1 := rde
      have F6 := eb 240 1641 (by decide) (by omega) (by omega)
      have F7 := eb 240 1642 (by decide) (by omega) (by omega)
      refine dr.up hD ?_ ?_ ?_ (by omega) (by omega) (by omega) (fun l i l0 l1 => ea _ _ (by omega) (by omega) (by omega)) (fun k i k0 k1 => ⟨ea _ _ (by omega) (by omega) (by omega), ea _ _ (by omega) (by omega) (by omega)⟩) (fun l l0 l1 => ⟨eb _ _ (by decide) (by omega) (by omega), eb _ _ (by decide) (by omega) (by omega), eb _ _ (by decide) (by omega) (by omega), eb _ _ (by decide) (by omega) (by omega), eb _ _ (by decide) (by omega) (by omega), eb _ _ (by decide) (by omega) (by omega)⟩) (fun k k0 k1 => ⟨eb _ _ (by decide) (by omega) (by omega), eb _ _ (by decide) (by omega) (by omega), eb _ _ (by decide) (by omega) (by omega)⟩) (fun i _ => eb _ _ (by decide) (by omega) (by omega)) (fun l l0 l1 => by omega) (fun k k0 k1 => by omega) (fun l l0 l1 => eb _ _ (by decide) (by omega) (by omega)) (fun k k0 k1 => ⟨eb _ _ (by decide) (by omega) (by omega), eb _ _ (by decide) (by omega) (by omega)⟩)
      · unfold NmR
        rw [E5, E6, E7, F5, F6, F7]
        refine ⟨⟨rfl, by omega, by omega⟩, nL, nC, fun j j0 j1 => ?_, fun j j0 j1 => ?_, fun j j0 j1 => ?_⟩
        · by_cases cj : j = m
          · rw [cj, rdn1 (by omega), rde, rdn1 (by decide)]; exact w1.symm
          · rw [ea _ _ (by omega) (by omega) (by omega), eb _ _ (by decide) (by omega) (by omega)]; exact nm4 j j0 (by omega)
        · rw [ea _ _ (by omega) (by omega) (by omega), eb _ _ (by decide) (by omega) (by omega)]; exact nm5 j j0 j1
        · rw [ea _ _ (by omega) (by omega) (by omega), eb _ _ (by decide) (by omega) (by omega)]; exact nm6 j j0 j1
      · rw [ea D 8 nD (by omega) (by omega), eb _ _ (by decide) (by omega) (by omega)]; exact dr.2.1
      · rw [ea D 9 nD (by omega) (by omega), b24]; exact dr.2.2.1
    · rw [if_neg (by omega)]
      have dB : DM b1 b1 := ⟨rfl, fun _ _ _ => rfl⟩
      exact ⟨(y4.dx).tr dA, y6.dm (by omega), y7.xm hD dA r110 dB (fun i _ => rfl), fun z => absurd ((r110 9).symm.trans z) cg⟩
  · have r := PO.bl (D := D) q (w := 6) (by decide)
    have r1 := r.2.2.1.e12
    have r2 := r.2.2.1.ge
    have r3 := (blm_both q (w := 6) (by decide)).2.1
    exact ⟨_, _, x_rM4 cs.1 q.k (by omega), m_rM4 q.2.1.1 (by omega) r.2.2.1.km (by omega), r⟩
end

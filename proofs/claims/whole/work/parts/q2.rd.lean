/-! a lesson, both sides -/
def PP (N : Nat) (D : Int) (a b a' b' : AM) : Prop := DX D a a' ∧ DM b b' ∧ ((QQ N a' b' ∧ (mrd a' 110 9 = 0 → DR D a' b' ∧ mrd b 235 15 < mrd b' 235 15)) ∨ Lt2 N a' b')
theorem lk_n {k l : Int} (k0 : 0 ≤ k) (k1 : k < 12) (l0 : 0 ≤ l) (l1 : l < 12) (hl : l ≠ k) : ¬ LK k (1640 + 4 + l) ∧ ¬ LK k (1640 + 16 + l) ∧ ¬ LK k (1640 + 28 + l) ∧ ¬ LK k (1640 + 40 + l) ∧ ¬ LK k (1640 + 52 + l) ∧ ¬ LK k (1668 + l) := by
  unfold LK; omega
theorem lk_hi {k i : Int} (k0 : 0 ≤ k) (k1 : k < 12) (h : i < 1644 ∨ 1704 ≤ i) : ¬ LK k i := by
  unfold LK; omega
section
variable {d d' N : Nat} {a a' b b' : AM} {D k o v : Int}
theorem NmR.nw (h : NmR D a b) (hD : HD D) (k0 : 0 ≤ k) (k1 : k < 12) (hk : mrd a D 6 = k) (ho : o = D + 13 + k) (ea : ∀ x i, x ≠ 110 → x ≠ o → mrd a' x i = mrd a x i) (eb : ∀ x i, x ≠ 235 → ¬ (x = 242 ∧ i = 84 + k) → mrd b' x i = mrd b x i) : NmR D a' b' := by
  have s1 : 162 ≤ D := by unfold HD at hD; omega
  have s2 : D < 200 := by unfold HD at hD; omega
  clear hD
  obtain ⟨h1, h2, h3, h4, h5, h6⟩ := h
  unfold NmR
  rw [ea D 5 (by omega) (by omega), ea D 6 (by omega) (by omega), ea D 7 (by omega) (by omega), eb 240 1640 (by decide) (by omega), eb 240 1641 (by decide) (by omega), eb 240 1642 (by decide) (by omega)]
  refine ⟨h1, h2, h3, fun j j0 j1 => ?_, fun j j0 j1 => ?_, fun j j0 j1 => ?_⟩
  · rw [ea _ _ (by omega) (by omega), eb _ _ (by decide) (by omega)]; exact h4 j j0 j1
  · rw [ea _ _ (by omega) (by omega), eb _ _ (by decide) (by omega)]; exact h5 j j0 j1
  · rw [ea _ _ (by omega) (by omega), eb _ _ (by decide) (by omega)]; exact h6 j j0 j1
set_option maxHeartbeats 2000000 in
theorem sl_both (q : QQ N a b) (h9 : mrd a 110 9 = 0) (h14 : mrd b 235 14 = 1) (hD : HD D) (dr : DR D a b) : ∃ a' b', EV (d + 4) 54 0 [(2, D), (2, 110), (3, 0)] [] a = some ((3, 0), a') ∧ EV (d' + 6) 231 0 [(2, 235), (3, 0)] [] b = some ((3, 0), b') ∧ PP N D a b a' b' := by
  have D1 : 162 ≤ D := by unfold HD at hD; omega
  have D2 : D < 200 := by unfold HD at hD; omega
  have cs : CS a D := CS_of q.1.1 q.1.2.1 (S6_cur hD)
  have e12 := q.e12
  obtain ⟨n5, ⟨n1, n2, n3⟩, nC, nm4, nm5, nm6⟩ := dr.1
  obtain ⟨k, hk⟩ : ∃ k, k = mrd a D 6 := ⟨_, rfl⟩
  rw [← hk] at n1 n2 n3 nm5
  by_cases c : k < 12
  · obtain ⟨o, ho⟩ : ∃ o, o = D + 13 + k := ⟨_, rfl⟩
    have o0 : D + 13 ≤ o := by omega
    have o1 : o ≤ D + 24 := by omega
    have on : o ≠ 110 := by omega
    have no : (110 : Int) ≠ o := fun z => on z.symm
    have oD : D ≠ o := by omega
    have nD : D ≠ 110 := by omega
    obtain ⟨a1, v, a2, b1, y1, y2, y3, y4, y5, y6, y7, y8⟩ := nn_both (d := d) (d' := d' + 1) (s := D) q h9 h14 hD dr.1 (p := 4 + k) (by omega) (by omega)
    have cs1 : CS a1 D := CS_of (q.1.ax y2).1 (q.1.ax y2).2.1 (S6_cur hD)
    have cs2 : CS a2 D := CS_of y7.1.1 y7.1.2.1 (S6_cur hD)
    obtain ⟨l1, l2, l3⟩ := cs1.2.2.2.2.2.2.2.2.2.2.2.1 k n2 c
    have ko2 := (cs2.2.2.2.2.2.2.2.2.2.2.2.1 k n2 c).2.2
    rw [← ho] at l2 ko2
    have hk1 : mrd a1 D 6 = k := by rw [y2.2 _ _ (fun z => nD z.1)]; exact hk.symm
    have X1 := x_rLa (d := d + 3) cs.1 q.k hk.symm c y1 cs1.1 cs1.2.2.1 hk1 l1 l2 (kn_110 (q.1.ax y2).1) y3 ko2
    have M1 := m_rLa (d := d' + 5) q.2.1.1 (by omega) n1.symm n2 c y5
    obtain ⟨a3, h3⟩ : ∃ a3, a3 = mwr a2 o 0 v := ⟨_, rfl⟩
    rw [← h3] at X1
    have q3 : QQ N a3 b1 := by rw [h3]; exact y7.wo hD o0 o1 on
    obtain ⟨a4, b2, r1, r2, ⟨r3, r4, r5, r6, r7⟩⟩ := pw_both (d := d + 1) (d' := d' + 3) (k := 2) q3 (by decide)
    have X2 := x_rLb (d := d + 3) (D := D) (o := o) q3.k r1
    have M2 := m_rLb (d := d' + 4) (k := k) q3.km r2
    have ob4 : Ob o a a4 := by
      have e : Ob o a a3 := by rw [h3]; exact (y4.ox).wr
      exact e.tr r3.ox
    have ea4 : ∀ x i, x ≠ 110 → x ≠ o → mrd a4 x i = mrd a x i := fun x i h0 h1 => ob4.2 x i (fun z => h0 z.1) h1
    have eb2 : ∀ x i, x ≠ 235 → ¬ (x = 242 ∧ i = 84 + k) → mrd b2 x i = mrd b x i := fun x i h0 h1 => by
      rw [r4.2 x i (fun z => h0 z.1)]; exact y6.2 x i (fun z => h0 z.1) (fun z => h1 ⟨z.1, by omega⟩)
    have hk4 : mrd a4 D 6 = k := by rw [ea4 _ _ nD oD]; exact hk.symm
    have dx4 : DX D a a4 := ob4.dx o0 o1
    have dm2 : DM b b2 := (y6.dm (by omega)).tr r4.dm
    have f12 := r5.e12
    have fge := r5.ge
    by_cases cg : mrd a4 110 9 = 0
    · have g6 := r6 cg
      have g2 : mrd a2 110 9 = 0 := by rw [← g6.1, h3, rdn1 no]
      obtain ⟨w1, w2⟩ := y8 g2
      have M3 := m_rLbT (d := d' + 6) (k := k) r5.km (by omega)
      have nm2 : NmR D a4 b2 := dr.1.nw hD n2 c hk.symm ho ea4 eb2
      obtain ⟨a5, b3, X3, M4, ob5, om3, q5, u0, u5, v5, v6, uG⟩ := sl_1 (d := d) (d' := d' + 2) r5 cg hD n2 c ho
      have nm3 : NmR D a5 b3 := nm2.ob hD n2 c hk4 ho ob5 om3
      have hk5 : mrd a5 D 6 = k := by rw [ob5.2 _ _ (fun z => nD z.1) oD]; exact hk4
      obtain ⟨a6, b4, X4, M5, ob6, om4, s6, t4, q6, sG⟩ := sl_2a (d := d) (d' := d') q5 hD n2 c ho (fun _ => nm3) nm3.1.2.1 nm3.1.2.2 u5 v5
      have nm4' : NmR D a6 b4 := nm3.ob hD n2 c hk5 ho ob6 om4
      have hk6 : mrd a6 D 6 = k := by rw [ob6.2 _ _ (fun z => nD z.1) oD]; exact hk5
      obtain ⟨a7, b5, X5, M6, ob7, om5, s7, t5, tail⟩ := sl_2b (d := d) (d' := d') q6 hD n2 c ho hk6 (fun _ => nm4') (by rw [t4 _ (by omega)]; exact v6)
      have hk7 : mrd a7 D 6 = k := by rw [ob7.2 _ _ (fun z => nD z.1) oD]; exact hk6
      have rdx7 : RDX a7 N := q6.1.dx hD (ob7.dx o0 o1)
      have rdm5 : RDM b5 N := q6.2.1.dm (om5.dm n2)
      have cs7 : CS a7 D := CS_of rdx7.1 rdx7.2.1 (S6_cur hD)
      have OBB : Ob o a a7 := ((ob4.tr ob5).tr ob6).tr ob7
      have OMM : OM k b2 b5 := (om3.tr om4).tr om5
      have ea7 : ∀ x i, x ≠ 110 → x ≠ o → mrd a7 x i = mrd a x i := fun x i h0 h1 => OBB.2 x i (fun z => h0 z.1) h1
      have eb5 : ∀ x i, x ≠ 235 → ¬ (x = 242 ∧ i = 84 + k) → ¬ (x = 240 ∧ LK k i) → mrd b5 x i = mrd b x i := fun x i h0 h1 h2 => by
        rw [OMM.2 x i (fun z => h0 z.1) h2]; exact eb2 x i h0 h1
      have he5 : mrd b5 240 1641 = k := by rw [eb5 _ _ (by decide) (by omega) (fun z => lk_hi n2 c (Or.inl (by decide)) z.2)]; exact n1.symm
      have X6 := x_rLi (d := d + 4) (o := o) cs7.1 hk7 n2 c
      have M7 := m_rLi (d := d' + 6) rdm5.1 he5 n2 c
      have z6 : ZD D D 6 := Or.inr (Or.inl ⟨rfl, by decide, by decide⟩)
      have zM : ZM 240 1641 := Or.inr (Or.inl ⟨rfl, by decide⟩)
      have d7 : DX D a7 (mwr a7 D 6 (k + 1)) := DX.wr ⟨rfl, fun _ _ _ => rfl⟩ z6
      have r110 : ∀ i, mrd (mwr a7 D 6 (k + 1)) 110 i = mrd a7 110 i := fun i => rdn1 (fun z => nD z.symm)
      have dB : DM b5 (mwr b5 240 1641 (k + 1)) := DM.wr ⟨rfl, fun _ _ _ => rfl⟩ zM
      have dxA : DX D a (mwr a7 D 6 (k + 1)) := (OBB.dx o0 o1).tr d7
      have dmB : DM b b5 := dm2.tr (OMM.dm n2)
      refine ⟨_, _, X1.trans (X2.trans (X3.trans (X4.trans (X5.trans X6)))), M1.trans (M2.trans (M3.trans (M4.trans (M5.trans (M6.trans M7))))), ?_⟩
      rcases tail with ⟨q7, tG⟩ | lt
      · have h12 := q7.e12
        by_cases cz : mrd a7 110 9 = 0
        · rw [if_pos (by omega)]
          refine ⟨dxA, dmB.tr dB, Or.inl ⟨q7.xm hD d7 r110 dB (fun i _ => rdn1 (by decide)), fun _ => ?_⟩⟩
          obtain ⟨tg1, tg2, tg3⟩ := tG cz
          obtain ⟨sg1, sg2, sg3⟩ := sG tg1
          obtain ⟨ug1, ug2, ug3, ug4, ug5⟩ := uG sg1
          have pos : mrd b 235 15 < mrd (mwr b5 240 1641 (k + 1)) 235 15 := by
            rw [rdn1 (by decide)]
            have := g6.2
            omega
          refine ⟨?_, pos⟩
          have zc := dr.2.2.2.2.2.1 k (by omega) c
          have z2 : mrd b2 240 (1668 + k) = 0 := by rw [eb2 _ _ (by decide) (by omega)]; exact zc
          obtain ⟨A, hA⟩ : ∃ A, A = mwr a7 D 6 (k + 1) := ⟨_, rfl⟩
          obtain ⟨B, hB⟩ : ∃ B, B = mwr b5 240 1641 (k + 1) := ⟨_, rfl⟩
          rw [← hA, ← hB]
          have ea : ∀ x i, x ≠ 110 → x ≠ o → ¬ (x = D ∧ i = 6) → mrd A x i = mrd a x i := fun x i h0 h1 h2 => by
            rw [hA, rd_wr, if_neg h2]; exact ea7 x i h0 h1
          have eb : ∀ x i, x ≠ 235 → ¬ (x = 242 ∧ i = 84 + k) → ¬ (x = 240 ∧ LK k i) → ¬ (x = 240 ∧ i = 1641) → mrd B x i = mrd b x i := fun x i h0 h1 h2 h3 => by
            rw [hB, rd_wr, if_neg h3]; exact eb5 x i h0 h1 h2
          have ebl : ∀ i, ¬ LK k i → i ≠ 1641 → mrd B 240 i = mrd b 240 i := fun i h1 h2 => eb 240 i (by decide) (fun z => absurd z.1 (by decide)) (fun z => h1 z.2) (fun z => h2 z.2)
          have ebw : ∀ i, i ≠ 84 + k → mrd B 242 i = mrd b 242 i := fun i h1 => eb 242 i (by decide) (fun z => h1 z.2) (fun z => absurd z.1 (by decide)) (fun z => absurd z.1 (by decide))
          have OA : ∀ i, mrd A o i = mrd a7 o i := fun i => by rw [hA, rdn1 (fun z => oD z.symm)]
          have CB : ∀ i, i ≠ 1641 → mrd B 240 i = mrd b5 240 i := fun i hi => by rw [hB, rdn2 hi]
          have O56 : ∀ i, i ≠ 5 → i ≠ 6 → mrd A o i = mrd a5 o i := fun i h0 h1 => by rw [OA, s7 _ h1, s6 _ h0]
          have C56 : ∀ i, i ≠ 1641 → i ≠ 1680 + k → i ≠ 1692 + k → mrd B 240 i = mrd b3 240 i := fun i h0 h1 h2 => by rw [CB _ h0, t5 _ h2, t4 _ h1]
          have b24 : mrd B 235 24 = mrd b 235 24 := by
            rw [hB, rdn1 (by decide), OMM.2 _ _ (by omega) (fun z => absurd z.1 (by decide)), r4.2 _ _ (by omega)]
            exact y6.2 _ _ (by omega) (fun z => absurd z.1 (by decide))
          have A0 : mrd A o 0 = v := by rw [O56 _ (by decide) (by decide), u0, r3.2 _ _ (fun z => on z.1), h3, rde]
          have W0 : mrd B 242 (84 + k) = v := by
            rw [hB, rdn1 (by decide), OMM.2 _ _ (by omega) (fun z => absurd z.1 (by decide)), r4.2 _ _ (by omega), show (84 : Int) + k = 80 + (4 + k) by omega]; exact w1
          have E5 := ea D 5 nD oD (by omega)
          have E6 : mrd A D 6 = k + 1 := by rw [hA, rde]
          have E7 := ea D 7 nD oD (by omega)
          have F6 : mrd B 240 1641 = k + 1 := by rw [hB, rde]
          have g5 : mrd a5 D 5 = mrd a D 5 := by rw [ob5.2 _ _ (fun z => nD z.1) oD]; exact ea4 _ _ nD oD
          refine dr.up hD ?_ ?_ ?_ (by omega) (by omega) (by omega) (fun l i l0 l1 => ea _ _ (by omega) (by omega) (by omega)) (fun j i j0 j1 => ⟨ea _ _ (by omega) (by omega) (by omega), ea _ _ (by omega) (by omega) (by omega)⟩) (fun l l0 l1 => ?_) (fun j j0 j1 => ⟨ebl _ (lk_hi n2 c (Or.inr (by omega))) (by omega), ebl _ (lk_hi n2 c (Or.inr (by omega))) (by omega), ebw _ (by omega)⟩) (fun i hi => ebl _ (lk_hi n2 c (Or.inr (by omega))) (by omega)) (fun l l0 l1 => ?_) (fun j j0 j1 => by omega) (fun l l0 l1 => ebl _ (lk_n n2 c (by omega) l1 (by omega)).2.2.2.2.2 (by omega)) (fun j j0 j1 => ⟨ebl _ (lk_hi n2 c (Or.inr (by omega))) (by omega), ebl _ (lk_hi n2 c (Or.inr (by omega))) (by omega)⟩)
          · unfold NmR
            rw [E5, E6, E7, F6, ebl 1640 (lk_hi n2 c (Or.inl (by decide))) (by decide), ebl 1642 (lk_hi n2 c (Or.inl (by decide))) (by decide)]
            refine ⟨n5, ⟨rfl, by omega, by omega⟩, nC, fun j j0 j1 => ?_, fun j j0 j1 => ?_, fun j j0 j1 => ?_⟩
            · rw [ea _ _ (by omega) (by omega) (by omega), ebw _ (by omega)]; exact nm4 j j0 j1
            · by_cases cj : j = k
              · rw [cj, ← ho, A0, W0]
              · rw [ea _ _ (by omega) (by omega) (by omega), ebw _ (by omega)]; exact nm5 j j0 (by omega)
            · rw [ea _ _ (by omega) (by omega) (by omega), ebw _ (by omega)]; exact nm6 j j0 j1
          · rw [ea D 8 nD oD (by omega), ebl 1643 (lk_hi n2 c (Or.inl (by decide))) (by decide)]; exact dr.2.1
          · rw [ea D 9 nD oD (by omega), b24]; exact dr.2.2.1
          · obtain ⟨i1, i2, i3, i4, i5, -⟩ := lk_n n2 c l0 (by omega : l < 12) (by omega : l ≠ k)
            exact ⟨ebl _ i1 (by omega), ebl _ i2 (by omega), ebl _ i3 (by omega), ebl _ i4 (by omega), ebl _ i5 (by omega), ebw _ (by omega)⟩
          · have lk : l = k := by omega
            subst lk
            unfold RLes
            rw [← ho, J_a (x := o) (by omega), J_a (x := D) (by omega), J_b (x := 240) (by decide) (by decide), J_b (x := 242) (by decide) (by decide)]
            show mrd A o 0 = mrd B 242 (84 + l) ∧ (mrd A o 1 = mrd B 240 (1644 + l) ∧ 1 ≤ mrd A o 1 ∧ mrd A o 1 ≤ 26) ∧ mrd A o 2 = vow (mrd A o 1) ∧ (mrd A o 3 = mrd B 240 (1656 + l) ∧ 1 ≤ mrd A o 3 ∧ mrd A o 3 ≤ 30) ∧ (mrd A o 4 = mrd B 240 (1668 + l) ∧ 0 ≤ mrd A o 4 ∧ mrd A o 4 ≤ 99) ∧ (mrd A o 5 = mrd B 240 (1680 + l) ∧ -1 ≤ mrd A o 5 ∧ mrd A o 5 < mrd A D 5) ∧ (mrd A o 6 = mrd B 240 (1692 + l) ∧ 0 ≤ mrd A o 6 ∧ mrd A o 6 < 2 ^ l.toNat)
            rw [A0, W0, O56 1 (by decide) (by decide), O56 2 (by decide) (by decide), O56 3 (by decide) (by decide), O56 4 (by decide) (by decide), C56 (1644 + l) (by omega) (by omega) (by omega), C56 (1656 + l) (by omega) (by omega) (by omega), C56 (1668 + l) (by omega) (by omega) (by omega), OA 5, OA 6, CB (1680 + l) (by omega), CB (1692 + l) (by omega), s7 5 (by decide), t5 (1680 + l) (by omega), E5, ← g5]
            exact ⟨rfl, ug2, ug3, ug4, ⟨ug5.1 z2, ug5.2⟩, sg3, tg3⟩
        · rw [if_neg (by omega)]
          exact ⟨dxA, dmB, Or.inl ⟨q7.xm hD d7 r110 (⟨rfl, fun _ _ _ => rfl⟩ : DM b5 b5) (fun i _ => rfl), fun z => absurd ((r110 9).symm.trans z) cz⟩⟩
      · rw [if_pos lt.2.2.2.2.2.1]
        exact ⟨dxA, dmB.tr dB, Or.inr (lt.xm hD d7 r110 dB (fun i _ => rdn1 (by decide)))⟩
    · obtain ⟨a', XF, dxF, rF⟩ := sl_F (d := d) r5 cg hD n2 c ho hk4
      refine ⟨a', b2, X1.trans (X2.trans XF), M1.trans (M2.trans (m_rLbF r5.km (by omega))), dx4.tr dxF, dm2, Or.inl ⟨r5.xm hD dxF rF (⟨rfl, fun _ _ _ => rfl⟩ : DM b2 b2) (fun _ _ => rfl), fun z => absurd ((rF 9).symm.trans z) cg⟩⟩
  · have r := PO.bl (D := D) q (w := 6) (by decide)
    have r1 := r.2.2.1.e12
    have r2 := r.2.2.1.ge
    have r3 := (blm_both q (w := 6) (by decide)).2.1
    exact ⟨_, _, x_rL4 cs.1 q.k (by omega), m_rL4 q.2.1.1 (by omega) r.2.2.1.km (by omega), r.1, r.2.1, Or.inl r.2.2⟩
end

section
variable {d d' N : Nat} {a a' a1 a2 b b' b1 b2 : AM} {s G S v u k t w : Int}
theorem SD5 {nc nl t : Int} (h2 : 0 ≤ mrd a (G + 2) S ∧ mrd a (G + 2) S < 4) (h2' : mrd a (G + 2) S = mrd b 240 (1771 + 9 * S) ∧ mrd a (G + 2) S < nc) (ht : mrd b 240 (1776 + 9 * S) = t) (t0 : 0 ≤ t) (t2 : t ≤ 2) (h1 : mrd a (G + 1) S = 17 + t) (e0 : t = 0 → mrd a (G + 3) S = mrd b 240 (1772 + 9 * S) ∧ mrd a (G + 4) S = mrd b 240 (1777 + 9 * S) ∧ 0 ≤ mrd a (G + 3) S ∧ mrd a (G + 3) S ≤ 12) (e2 : t = 2 → mrd a (G + 3) S = mrd b 240 (1772 + 9 * S) ∧ 0 ≤ mrd a (G + 3) S ∧ mrd a (G + 3) S < nl) : SD G nc nl S 5 a b := by
  unfold SD
  rw [ht]
  exact ⟨h2, fun _ => h2', fun z => absurd z (by decide), fun z => absurd z (by decide), fun z => absurd z (by decide), fun z => absurd z (by decide), fun _ => ⟨h1, t0, t2, e0, e2⟩, fun z => absurd z (by decide), fun z => absurd z (by decide)⟩
set_option maxHeartbeats 1000000 in
theorem tt_both (q : QQ N a b) (h9 : mrd a 110 9 = 0) (hs : HD s) (hG : HG G) (sn : SN s a b) (S0 : 0 ≤ S) (S1 : S < 30) (kid : 0 ≤ mrd a (G + 2) S ∧ mrd a (G + 2) S < 4) : ∃ a' b', EV (d + 3) 7 0 [(2, G), (2, 110), (2, s), (0, S)] [] a = some ((3, 0), a') ∧ EV (d' + 6) 235 0 [(2, 235), (0, 1770 + 9 * S), (3, 0)] [] b = some ((3, 0), b') ∧ RO N G s S 5 a b a' b' := by
  have bG := hG.b
  have bs := hs.b
  have c := q.1.ac hG hs
  have hm := q.2.1.1
  have e12 := q.e12
  have nG : G + 4 ≠ G := by omega
  obtain ⟨t, ht⟩ : ∃ t, t = wx b := ⟨_, rfl⟩
  have gW := fun (y : Int) (y0 : 0 ≤ y) => x_isWord (d := d + 2) (k := y) q y0
  by_cases ct : 17 ≤ t ∧ t ≤ 19
  · have h14 : mrd b 235 14 = 1 := by
      by_cases z : mrd b 235 14 = 1
      · exact z
      · unfold wx at ht; rw [if_neg z] at ht; omega
    have h8 : mrd a 110 8 = t := by rw [ht]; exact (q.tg h9).w8
    have q1 : QQ N (mwr a (G + 1) S t) b := q.wg hG (by decide) (by decide)
    obtain ⟨a1, b1, y1, y2, y3, y4, y5, y6, y7⟩ := adv2 (d := d + 1) (d' := d' + 3) q1 (by rw [rdn1 (by omega)]; exact h9) (by omega)
    have tw : twF (wx b) = t - 17 := by rw [← ht]; unfold twF; rw [if_pos ct]
    have X1 := x_tA (d := d + 2) (t := t) c (fun y y0 => by have := gW y y0; simp only [h9, ← ht, true_and] at this; exact this) (by omega) h8 y1 S0 S1
    have M1 := m_tA (d := d' + 4) hm tw (by rw [if_neg (by omega)]; exact m_must1 q.km (by omega) y2) y5.2.1.1 S0 S1
    obtain ⟨b2, hb2⟩ : ∃ b2, b2 = mwr b1 240 (1776 + 9 * S) (t - 17) := ⟨_, rfl⟩
    rw [← hb2] at M1
    have q2 : QQ N a1 b2 := by rw [hb2]; exact y5.w4
    have fx1 : RX G S a a1 := RX.tr (RX.wr ⟨rfl, fun _ _ _ => rfl⟩ (by decide) (by decide)) (y3.rx)
    have fm1 : RM S b b2 := by rw [hb2]; exact (y4.rm).wr (by omega) (by omega)
    have sn2 : SN s a1 b2 := sn.fr hs hG fx1.zg (fm1.zh S0)
    have e7 : mrd a1 s 7 = mrd a s 7 := fx1.zg _ _ (ZG_s hs hG (by omega))
    have k1 : mrd a1 (G + 1) S = t := by rw [y3.2 _ _ (by omega), rde]
    have k2 : mrd b2 240 (1776 + 9 * S) = t - 17 := by rw [hb2, rde]
    have p2 : mrd b2 235 15 = mrd b1 235 15 := by rw [hb2, rdn1 (by decide)]
    have t3 := (q.tg h9).2.2.1 (by omega)
    obtain ⟨v, a2, f, u, a3, u', b3, x1, x2, x3, x4, x5, x6, x7, x8, x9, x10, x11, x12, x13, x14⟩ := kc_both (d := d) (d' := d') (S := S) q2 hs hG sn2 S0 S1
    have X2 := X1.trans (x_tC (d := d + 2) (q2.1.ac hG hs) x1 x2 x3 x4 x6 S0 S1)
    have M2 := M1.trans (m_tC (d := d' + 5) q2.2.1.1 x5 x7 S0 S1)
    obtain ⟨a4, ha4⟩ : ∃ a4, a4 = mwr a3 (G + 2) S u := ⟨_, rfl⟩
    obtain ⟨b4, hb4⟩ : ∃ b4, b4 = mwr b3 240 (1771 + 9 * S) u' := ⟨_, rfl⟩
    rw [← ha4] at X2 x10 x11
    rw [← hb4] at M2 x10 x11
    have fx : RX G S a a4 := by rw [ha4]; exact (fx1.tr x8.rx).wr (by decide) (by decide)
    have fm : RM S b b4 := by rw [hb4]; exact (fm1.tr x9.rm).wr (by omega) (by omega)
    have c4 := x10.1.ac hG hs
    have hm4 := x10.2.1.1
    have f9 : mrd a4 110 9 = mrd a3 110 9 := by rw [ha4, rdn1 (by omega)]
    have e6 : mrd a4 s 6 = mrd a s 6 := fx.zg _ _ (ZG_s hs hG (by omega))
    have g1 : mrd a4 (G + 1) S = t := by rw [ha4, rdn1 (by omega), x8.2 _ _ (by omega)]; exact k1
    have g2 : mrd a4 (G + 2) S = u := by rw [ha4, rde]
    have g4 : mrd b4 240 (1771 + 9 * S) = u' := by rw [hb4, rde]
    have g6 : mrd b4 240 (1776 + 9 * S) = t - 17 := by rw [hb4, rdn2 (by omega), x9.2 _ _ (by omega)]; exact k2
    have g15 : mrd b4 235 15 = mrd b3 235 15 := by rw [hb4, rdn1 (by decide)]
    have e124 := x10.e12
    have ge4 := x10.ge
    have tc : t = 18 ∨ t = 19 ∨ t = 17 := by omega
    rcases tc with tc | tc | tc
    · refine ⟨a4, b4, X2.trans (x_tS (d := d + 2) c4 (by rw [g1]; exact tc) S0 S1), M2.trans (m_tR (d := d' + 5) hm4 (by omega) (Or.inr (by omega))), fx, fm, x10, by rw [g2]; exact x12, fun z => ?_⟩
      obtain ⟨r1, r2, r3, r4⟩ := x13 (by omega)
      exact ⟨h9, by omega, SD5 (by rw [g2]; exact x12) (by rw [g2, g4]; exact ⟨r1.symm, by omega⟩) g6 (by omega) (by omega) (by omega) (fun z => by omega) (fun z => by omega)⟩
    · obtain ⟨v', a5, f', w1, a6, w1', b6, z1, z2, z3, z4, z5, z6, z7, z8, z9, z10, z11⟩ := ls_both (d := d) (d' := d') (S := S) x10 hs hG x11 S0 S1
      have t2 : t - 17 = 2 := by omega
      rw [t2] at M2
      refine ⟨_, _, X2.trans (x_tK (d := d + 2) c4 (by rw [g1]; exact tc) z1 z2 z3 z4 z6 S0 S1), M2.trans (m_tK (d := d' + 5) hm4 z5 z7 S0 S1), fx.tr ((z8.rx).wr (by decide) (by decide)), fm.tr ((z9.rm).wr (by omega) (by omega)), z10, by rw [rdn1 (by omega), z8.2 _ _ (by omega), g2]; exact x12, fun z => ?_⟩
      rw [rdn1 (by omega)] at z
      obtain ⟨p1, p3, p4, p5, p6⟩ := z11 z
      obtain ⟨r1, r2, r3, r4⟩ := x13 (by omega)
      have i1 : mrd (mwr a6 (G + 3) S w1) (G + 2) S = u := by rw [rdn1 (by omega), z8.2 _ _ (by omega)]; exact g2
      have i2 : mrd (mwr b6 240 (1772 + 9 * S) w1') 240 (1771 + 9 * S) = u' := by rw [rdn2 (by omega), z9.2 _ _ (by omega)]; exact g4
      have i3 : mrd (mwr a6 (G + 3) S w1) (G + 1) S = t := by rw [rdn1 (by omega), z8.2 _ _ (by omega)]; exact g1
      have i4 : mrd (mwr b6 240 (1772 + 9 * S) w1') 240 (1776 + 9 * S) = t - 17 := by rw [rdn2 (by omega), z9.2 _ _ (by omega)]; exact g6
      refine ⟨h9, by rw [rdn1 (by decide)]; omega, SD5 (by rw [i1]; exact x12) (by rw [i1, i2]; exact ⟨r1.symm, by omega⟩) i4 (by omega) (by omega) (by omega) (fun z => by omega) (fun _ => ?_)⟩
      rw [rde, rde]
      exact ⟨p1.symm, p3, by omega⟩
    · have t0 : t - 17 = 0 := by omega
      rw [t0] at M2
      by_cases f4 : mrd a4 110 9 = 0
      · obtain ⟨x, hx⟩ : ∃ x, x = if mrd b4 235 14 = 3 then mrd b4 235 17 else 0 := ⟨_, rfl⟩
        obtain ⟨b5, hb5⟩ : ∃ b5, b5 = mwr b4 240 (1777 + 9 * S) x := ⟨_, rfl⟩
        have q5 : QQ N a4 b5 := by rw [hb5]; exact x10.w4
        have ec : cq b5 = cq b4 := by unfold cq; rw [hb5, rdn1 (by decide), rdn1 (by decide)]
        have m14 : mrd b5 235 14 = mrd b4 235 14 := by rw [hb5, rdn1 (by decide)]
        have m17 : mrd b5 235 17 = mrd b4 235 17 := by rw [hb5, rdn1 (by decide)]
        have m15 : mrd b5 235 15 = mrd b4 235 15 := by rw [hb5, rdn1 (by decide)]
        have n7 : mrd b5 240 (1777 + 9 * S) = x := by rw [hb5, rde]
        have n1 : mrd b5 240 (1771 + 9 * S) = u' := by rw [hb5, rdn2 (by omega)]; exact g4
        have n6 : mrd b5 240 (1776 + 9 * S) = t - 17 := by rw [hb5, rdn2 (by omega)]; exact g6
        have fm5 : RM S b b5 := by rw [hb5]; exact fm.wr (by omega) (by omega)
        obtain ⟨v', a6, b6, z1, z2, ⟨s1, s2, s3, s4, s5⟩, z4⟩ := pc_both (d := d) (d' := d' + 3) q5
        have q7 : QQ N (mwr a6 (G + 4) S v') b6 := s3.wg hG (by decide) (by decide)
        obtain ⟨w1, a8, w1', b8, z5, z6, z7, z8, z9, z10, z11, z12, -⟩ := nu_both (d := d) (d' := d' + 3) (s := s) (G := G) (lo := 0) (hi := 12) q7 hs hG (by decide) (by decide)
        rw [ec, hb5] at z2
        refine ⟨_, _, X2.trans (x_tL (d := d + 2) c4 (by rw [g1]; exact tc) z1 (s3.1.ac hG hs) z5 z7 nG S0 S1), M2.trans (m_tL (d := d' + 4) hm4 (by omega) hx z2 s3.2.1.1 z6 z8 S0 S1), (fx.tr (s1.rx.wr (by decide) (by decide))).tr (z9.rx.wr (by decide) (by decide)), (fm5.tr s2.rm).tr (z10.rm.wr (by omega) (by omega)), (z11.wg hG (by decide) (by decide)).w4, by rw [rdn1 (by omega), z9.2 _ _ (by omega), rdn1 (by omega), s1.2 _ _ (by omega), g2]; exact x12, fun z => ?_⟩
        rw [rdn1 (by omega)] at z
        obtain ⟨p1, p3, p4, p5, p6⟩ := z12 z
        rw [rdn1 (by omega)] at p5
        obtain ⟨o1, o2⟩ := z4 p5
        obtain ⟨o3, o4⟩ := s4 p5
        obtain ⟨r1, r2, r3, r4⟩ := x13 (by omega)
        have i1 : mrd (mwr a8 (G + 3) S w1) (G + 2) S = u := by rw [rdn1 (by omega), z9.2 _ _ (by omega), rdn1 (by omega), s1.2 _ _ (by omega)]; exact g2
        have i2 : mrd (mwr b8 240 (1772 + 9 * S) w1') 240 (1771 + 9 * S) = u' := by rw [rdn2 (by omega), z10.2 _ _ (by omega), s2.2 _ _ (by omega)]; exact n1
        have i3 : mrd (mwr a8 (G + 3) S w1) (G + 1) S = t := by rw [rdn1 (by omega), z9.2 _ _ (by omega), rdn1 (by omega), s1.2 _ _ (by omega)]; exact g1
        have i4 : mrd (mwr b8 240 (1772 + 9 * S) w1') 240 (1776 + 9 * S) = t - 17 := by rw [rdn2 (by omega), z10.2 _ _ (by omega), s2.2 _ _ (by omega)]; exact n6
        have i5 : mrd (mwr a8 (G + 3) S w1) (G + 4) S = v' := by rw [rdn1 (by omega), z9.2 _ _ (by omega), rde]
        have i6 : mrd (mwr b8 240 (1772 + 9 * S) w1') 240 (1777 + 9 * S) = x := by rw [rdn2 (by omega), z10.2 _ _ (by omega), s2.2 _ _ (by omega)]; exact n7
        have ex : x = v' := by rw [hx, if_pos (by omega), ← m17, o2]
        refine ⟨h9, by rw [rdn1 (by decide)]; omega, SD5 (by rw [i1]; exact x12) (by rw [i1, i2]; exact ⟨r1.symm, by omega⟩) i4 (by omega) (by omega) (by omega) (fun _ => ?_) (fun z => by omega)⟩
        rw [rde, rde, i5, i6]
        exact ⟨p1.symm, ex.symm, p3, p4⟩
      · obtain ⟨v', a6, b6, z1, z2, ⟨s1, s2, s3, s4, s5⟩, z4⟩ := pc_both (d := d) (d' := 0) x10
        obtain ⟨rfl, rfl⟩ := s5 f4
        have q7 : QQ N (mwr a6 (G + 4) S v') b6 := s3.wg hG (by decide) (by decide)
        have f7 : mrd (mwr a6 (G + 4) S v') 110 9 ≠ 0 := by rw [rdn1 (by omega)]; exact f4
        obtain ⟨w1, a8, w1', b8, z5, z6, z7, z8, z9, z10, z11, z12, z13⟩ := nu_both (d := d) (d' := 0) (s := s) (G := G) (lo := 0) (hi := 12) q7 hs hG (by decide) (by decide)
        obtain ⟨e8, -⟩ := z13 f7
        refine ⟨_, b6, X2.trans (x_tL (d := d + 2) c4 (by rw [g1]; exact tc) z1 c4 z5 z7 nG S0 S1), M2.trans (m_tR (d := d' + 5) hm4 (by decide) (Or.inl (by omega))), ?_, fm, ?_, by rw [e8, rdn1 (by omega), rdn1 (by omega), g2]; exact x12, fun z => ?_⟩
        · rw [e8]
          exact (fx.wr (by decide) (by decide)).wr (by decide) (by decide)
        · rw [e8]
          exact q7.wg hG (by decide) (by decide)
        · rw [e8, rdn1 (by omega)] at z
          exact absurd z f7
  · have tw : twF (wx b) = -1 := by rw [← ht]; unfold twF; rw [if_neg ct]
    obtain ⟨a1, b1, y1, y2, y3, y4, y5, y6, y7⟩ := mis_both (d := d + 1) (d' := d' + 3) q
    have n : ∀ y : Int, 17 ≤ y → y ≤ 19 → EV (d + 2) 41 0 [(2, 110), (0, y)] [] a = some ((0, 0), a) := fun y y0 y1 => by
      have := gW y (by omega)
      rw [if_neg (fun z => ct (by omega))] at this
      exact this
    have M1 := m_tA (d := d' + 4) hm tw (by rw [if_pos (by decide)]; exact m_mustF q.km (by omega) y2) y5.2.1.1 S0 S1
    have q2 : QQ N a1 (mwr b1 240 (1776 + 9 * S) (-1)) := y5.w4
    have fm1 : RM S b (mwr b1 240 (1776 + 9 * S) (-1)) := (y4.rm).wr (by omega) (by omega)
    have fx1 : RX G S a a1 := y3.rx
    obtain ⟨v, a2, f, u, a3, u', b3, x1, x2, x3, x4, x5, x6, x7, x8, x9, x10, x11, x12, x13, x14⟩ := kc_both (d := 0) (d' := d') (S := S) q2 hs hG (sn.fr hs hG fx1.zg (fm1.zh S0)) S0 S1
    obtain ⟨-, e3⟩ := x14 y6
    have e12' := q2.e12
    have ge' := q2.ge
    rw [e3] at x5 x7
    have q3 : QQ N a1 (mwr (mwr b1 240 (1776 + 9 * S) (-1)) 240 (1771 + 9 * S) u') := q2.w4
    have e12'' := q3.e12
    refine ⟨a1, _, x_tB (d := d + 2) q.k (n 17 (by decide) (by decide)) (n 18 (by decide) (by decide)) (n 19 (by decide) (by decide)) y1, (M1.trans (m_tC (d := d' + 5) q2.2.1.1 x5 x7 S0 S1)).trans (m_tR (d := d' + 5) q3.2.1.1 (by decide) (Or.inr (by decide))), fx1, fm1.wr (by omega) (by omega), q3, by rw [y3.2 _ _ (by omega)]; exact kid, fun z => absurd z y6⟩
end

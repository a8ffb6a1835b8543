/-! age: a step with all that it holds -/
section
variable {d d' N : Nat} {a a' a1 b b' b1 : AM} {s G nc nl k W : Int} {S i S' K : Nat}
theorem m_fin (hm : CM b) (h : 0 < mrd b 235 12) (S1 : S < 30) : EV (d' + 8) 237 169 [(2, 235), (0, W), (0, k), (0, 1), (0, 1770 + 9 * (S : Int))] [] b = some ((3, 0), mwr b 240 (1778 + 9 * (S : Int)) (mrd b 235 25)) :=
  (m_aC (d := d' + 6) hm (m_must0 hm.1 h) hm (m_must0 hm.1 h)).trans (m_aW hm (by omega) (by omega))
set_option maxHeartbeats 1000000 in
theorem st_step (hs : HD s) (hG : HG G) (hN : N ≤ 300) (hP : K = 0 ∨ ∃ K', K = K' + 1 ∧ PStep N d G s nc nl K') : PStep N d G s nc nl K := by
  intro W S i e a b hWK he h hW0 hWe
  have bG := hG.b
  obtain ⟨d', rfl⟩ : ∃ d', e = d' + 8 := ⟨e - 8, by omega⟩
  rcases pre_both (d := d) (d' := d') hs hG hN (by omega) h hW0 hWe with ⟨a', b', X, M, y3, y4, y5, y6⟩ | ⟨k, a1, b1, X, M, k0, S1, bW, fx, fm, q1, kd1, ⟨e7, e25⟩, e8, e5, e6, ek, hg⟩
  · exact ⟨a', b', M, y3.gx, y4.gm, y5, (h.2.2.2.2.1).ax hG y3, Or.inl ⟨y6, X⟩⟩
  have hm1 := q1.2.1.1
  have e12 := q1.e12
  have ge := q1.ge
  have kG1 := (q1.1.ac hG hs).1
  by_cases f : mrd a1 110 9 = 0
  · obtain ⟨p1, sd⟩ := hg f
    have pos0 := h.2.2.2.2.2.2.2
    rcases bk_r k with z0 | z1
    · rw [z0] at M e8
      have g25 : mrd (mwr b1 240 (1778 + 9 * (S : Int)) (mrd b1 235 25)) 235 25 = S + 1 := by rw [rdn1 (by decide)]; exact e25
      have g15 : mrd (mwr b1 240 (1778 + 9 * (S : Int)) (mrd b1 235 25)) 235 15 = mrd b1 235 15 := by rw [rdn1 (by decide)]
      refine ⟨a1, _, M.trans (m_a0.trans (m_aW hm1 (by omega) (by omega))), fx, fm.wr (Or.inr ⟨rfl, by omega⟩), q1.w4, kd1, Or.inr ⟨f, i + 1, S + 1, ?_, by omega, ⟨by rw [e7]; omega, by rw [g25]; omega, by omega⟩, by omega, ?_, by rw [g15]; omega, by rw [g15]; omega⟩⟩
      · rw [show ((i + 1 : Nat) : Int) = (i : Int) + 1 by omega]; exact X
      · refine SG.one (k := k) (by omega) (sd.mv (fun j _ _ => rfl) (fun j j0 j1 => by rw [rdn2 (by omega)])) (by rw [rdn2 (by omega)]; exact ek) k0.1 k0.2 e5 (by rw [rde]; exact e25) e7
    · obtain ⟨K', rfl, P⟩ : ∃ K', K = K' + 1 ∧ PStep N d G s nc nl K' := by
        rcases hP with z | z
        · have := bW z1; omega
        · exact z
      have W3 := bW z1
      have eo := e6 z1
      rw [z1] at M e8
      have h1 : AI N G s nc nl (W + 1) (S + 1) (i + 1) a1 b1 := h.go hs hG fx fm q1 f kd1 ⟨by rw [e7]; omega, by rw [e25]; omega, by omega⟩ (by rw [e8]; omega) (by omega)
      obtain ⟨a2, b2, M2, f2, g2, q2, kd2, z5⟩ := bl_loop (S0 := S) (W := W) (e := d' + 8) (k := k) (w := 1770 + 9 * (S : Int)) hs hG P (by omega) (by omega) (901) (S + 1) (i + 1) a1 b1 h1 (by have := (q1.tg f).2.1.2.1; omega) (by omega) SG.nil
      have hm2 := q2.2.1.1
      have e12' := q2.e12
      have ge' := q2.ge
      have fx2 : GX G S W a a2 := fx.tr (f2.up (by omega) (by omega))
      have fm2 : GM S b b2 := fm.tr (g2.up (by omega))
      rw [show ((i + 1 : Nat) : Int) = (i : Int) + 1 by omega] at z5
      rcases z5 with ⟨f', X'⟩ | ⟨f', c', i2, S3, X', w1, w2, w3, w4, w5, w6⟩
      · exact ⟨a2, _, M.trans (M2.trans (m_fin hm2 (by omega) S1)), fx2, fm2.wr (Or.inr ⟨rfl, by omega⟩), q2.w4, kd2, Or.inl ⟨f', X.trans X'⟩⟩
      · have ac2 := q2.1.ac hG hs
        have tg2 := q2.tg f'
        have h14 : mrd b2 235 14 = 1 := by
          by_cases y : mrd b2 235 14 = 1
          · exact y
          · unfold wx at c'; rw [if_neg y] at c'; omega
        have t1 := tg2.1.1
        have t2 := tg2.2.1.2.2
        have t3 := (tg2.2.2.1 (by omega))
        have t4 := t3.2.2.2 (by omega)
        have i2b : (i2 : Int) < 300 := by omega
        obtain ⟨a3, ha3⟩ : ∃ a3, a3 = mwr (mwr a2 G 8 (W : Int)) (G + 5) S (S3 : Int) := ⟨_, rfl⟩
        have q3 : QQ N a3 b2 := by rw [ha3]; exact (q2.wf hG (by decide)).wg hG (by decide) (by decide)
        have n9 : mrd a3 110 9 = 0 := by rw [ha3, rdn1 (by omega), rdn1 (by omega)]; exact f'
        obtain ⟨a4, b3, y1, y2, y3, y4, y5, y6, y7⟩ := adv2 (d := d + 2) (d' := d' + 5) q3 n9 (by omega)
        obtain ⟨a5, b4, x1, x2, x3, x4, x5, x6, x7⟩ := ps_both (d := d + 2) (d' := d' + 5) (x := 59) y5
        have eo2 : mrd a2 (G + 6) W = S := by rw [f2.2 _ _ (by unfold ZA; omega)]; exact eo
        have gW := x_isWord (d := d + 4) (k := 21) q2 (by decide)
        rw [if_pos ⟨f', c'⟩] at gW
        have XC := x_aE (d := d + 3) (s := s) (i := (i2 : Int)) q2.k ac2.1 i2b f' (by omega) gW (x_cb1 (d := d + 3) (W := (W : Int)) (S := (S : Int)) (u := (S3 : Int)) ac2 (by rw [w3]; omega) (by omega) (by omega) eo2 (by omega) (by omega) w2.1 (by rw [← ha3]; exact y1))
        have XD := XC.trans (x_aS (d := d + 4) y5.k (by omega) i2b x1)
        have MC := m_aC (d := d' + 6) (W := (W : Int)) (k := k) (w := 1770 + 9 * (S : Int)) hm2 (by rw [wq_1 c']; exact m_must1 hm2.1 (by omega) y2) y5.2.1.1 x2
        have MD := M.trans (M2.trans (MC.trans (m_aW x5.2.1.1 (by omega) (by omega))))
        have fx3 : GX G S W a a3 := by
          rw [ha3]
          exact (fx2.wr (Or.inr (Or.inl ⟨rfl, Or.inr rfl⟩))).wr (Or.inr (Or.inr (Or.inl (by omega))))
        have fx5 : GX G S W a a5 := (fx3.tr y3.gx).tr x3.gx
        have fm5 : GM S b (mwr b4 240 (1778 + 9 * (S : Int)) (mrd b4 235 25)) := ((fm2.tr y4.gm).tr x4.gm).wr (Or.inr ⟨rfl, by omega⟩)
        have kd5 : KD G a5 := fun p p0 p1 => by
          rw [x3.2 _ _ (by omega), y3.2 _ _ (by omega), ha3, rdn1 (by omega), rdn1 (by omega)]
          exact kd2 p p0 p1
        have b25 : mrd b4 235 25 = S3 := by rw [x4.2 _ _ (by omega), y4.2 _ _ (by omega)]; exact w2.2.1
        have kG5 := (x5.1.ac hG hs).1
        by_cases f5 : mrd a5 110 9 = 0
        · obtain ⟨-, u2⟩ := x6 f5
          have g15 : mrd (mwr b4 240 (1778 + 9 * (S : Int)) (mrd b4 235 25)) 235 15 = mrd b4 235 15 := by rw [rdn1 (by decide)]
          have g25 : mrd (mwr b4 240 (1778 + 9 * (S : Int)) (mrd b4 235 25)) 235 25 = S3 := by rw [rdn1 (by decide)]; exact b25
          have a57 : mrd a5 G 7 = S3 := by rw [x3.2 _ _ (by omega), y3.2 _ _ (by omega), ha3, rdn1 (by omega), rdn2 (by decide)]; exact w2.1
          have a58 : mrd a5 G 8 = W := by rw [x3.2 _ _ (by omega), y3.2 _ _ (by omega), ha3, rdn1 (by omega), rde]
          have a55 : mrd a5 (G + 5) S = S3 := by rw [x3.2 _ _ (by omega), y3.2 _ _ (by omega), ha3, rde]
          have oA : ∀ j p : Int, 1 ≤ j → j ≤ 5 → p ≠ S → mrd a5 (G + j) p = mrd a2 (G + j) p := fun j p j0 j1 hp => by
            rw [x3.2 _ _ (by omega), y3.2 _ _ (by omega), ha3, rd_wr, if_neg (by omega), rdn1 (by omega)]
          have oA4 : ∀ j : Int, 1 ≤ j → j ≤ 4 → mrd a5 (G + j) S = mrd a2 (G + j) S := fun j j0 j1 => by
            rw [x3.2 _ _ (by omega), y3.2 _ _ (by omega), ha3, rdn1 (by omega), rdn1 (by omega)]
          have oB : ∀ j : Int, j ≠ 1778 + 9 * (S : Int) → mrd (mwr b4 240 (1778 + 9 * (S : Int)) (mrd b4 235 25)) 240 j = mrd b2 240 j := fun j hj => by
            rw [rdn2 hj, x4.2 _ _ (by omega), y4.2 _ _ (by omega)]
          have iA : ∀ j : Int, 1 ≤ j → j ≤ 4 → mrd a2 (G + j) S = mrd a1 (G + j) S := fun j j0 j1 => f2.2 _ _ (by unfold ZA; omega)
          have iB : ∀ j : Int, j < 1779 + 9 * (S : Int) → mrd b2 240 j = mrd b1 240 j := fun j hj => g2.2 _ _ (by unfold ZB; omega)
          have sd5 : SD G nc nl S k a5 (mwr b4 240 (1778 + 9 * (S : Int)) (mrd b4 235 25)) := sd.mv (fun j j0 j1 => (oA4 j j0 j1).trans (iA j j0 j1)) (fun j j0 j1 => (oB j (by omega)).trans (iB j (by omega)))
          refine ⟨a5, _, MD, fx5, fm5, x5.w4, kd5, Or.inr ⟨f5, i2 + 1, S3, ?_, by omega, ⟨a57, g25, w2.2.2⟩, a58, ?_, by rw [g15]; omega, by rw [g15]; omega⟩⟩
          · rw [show ((i2 + 1 : Nat) : Int) = (i2 : Int) + 1 by omega]
            exact X.trans (X'.trans XD)
          · exact w4.close w1 (by omega) (fun j p j0 j1 p0 p1 => oA j p j0 j1 (by omega)) (fun j j0 j1 => oB j (by omega)) (by rw [w2.1, a57]; omega) (by rw [a57]; omega) sd5 (by rw [oB _ (by omega), iB _ (by omega)]; exact ek) k0.1 k0.2 z1 a55 (by rw [rde]; exact b25)
        · exact ⟨a5, _, MD, fx5, fm5, x5.w4, kd5, Or.inl ⟨f5, X.trans (X'.trans (XD.trans (x_aF (d := d + 3) x5.k kG5 f5)))⟩⟩
  · have X' := X.trans (x_aF (d := d + 3) q1.k kG1 f)
    rcases bk_r k with z0 | z1
    · rw [z0] at M
      exact ⟨a1, _, M.trans (m_a0.trans (m_aW hm1 (by omega) (by omega))), fx, fm.wr (Or.inr ⟨rfl, by omega⟩), q1.w4, kd1, Or.inl ⟨f, X'⟩⟩
    · rw [z1] at M
      exact ⟨a1, _, M.trans ((m_aF (d := d' + 8) hm1 (by omega)).trans (m_fin hm1 (by omega) S1)), fx, fm.wr (Or.inr ⟨rfl, by omega⟩), q1.w4, kd1, Or.inl ⟨f, X'⟩⟩
theorem st_all (hs : HD s) (hG : HG G) (hN : N ≤ 300) : ∀ K : Nat, PStep N d G s nc nl K
  | 0 => st_step hs hG hN (Or.inl rfl)
  | K + 1 => st_step hs hG hN (Or.inr ⟨K, rfl, st_all hs hG hN K⟩)
end

/-! age: a step with all that it holds, both sides -/
/-- where the two readers stand: at depth W, S steps read, part i -/
def AI (N : Nat) (G s nc nl : Int) (W S i : Nat) (a b : AM) : Prop := QQ N a b ∧ mrd a 110 9 = 0 ∧ SN s a b ∧ (mrd a s 7 = nc ∧ mrd a s 6 = nl) ∧ KD G a ∧ (mrd a G 7 = S ∧ mrd b 235 25 = S ∧ S ≤ 30) ∧ mrd a G 8 = W ∧ 2 * (i : Int) ≤ mrd b 235 15
def SO (N d : Nat) (G s nc nl : Int) (W S K i : Nat) (a b a' b' : AM) : Prop :=
  GX G S W a a' ∧ GM S b b' ∧ QQ N a' b' ∧ KD G a' ∧
  ((mrd a' 110 9 ≠ 0 ∧ EV (d + 5) 2 17 [(2, G), (2, 110), (2, s), (0, (i : Int))] [] a = some ((3, 0), a')) ∨
   (mrd a' 110 9 = 0 ∧ ∃ i' S' : Nat, EV (d + 5) 2 17 [(2, G), (2, 110), (2, s), (0, (i : Int))] [] a = EV (d + 5) 2 17 [(2, G), (2, 110), (2, s), (0, (i' : Int))] [] a' ∧ S < S' ∧ (mrd a' G 7 = S' ∧ mrd b' 235 25 = S' ∧ S' ≤ 30) ∧ mrd a' G 8 = W ∧ SG G nc nl S S' K a' b' ∧ 2 * (i' : Int) ≤ mrd b' 235 15 ∧ mrd b 235 15 < mrd b' 235 15))
def PStep (N d : Nat) (G s nc nl : Int) (K : Nat) : Prop := ∀ (W S i e : Nat) (a b : AM), W + K = 3 → 8 + K ≤ e → AI N G s nc nl W S i a b → (W = 0 → mrd b 235 14 ≠ 0) → (0 < W → wx b ≠ 21) → ∃ a' b', EV e 237 0 [(2, 235), (0, (W : Int)), (3, 0), (3, 0), (3, 0)] [] b = some ((3, 0), b') ∧ SO N d G s nc nl W S K i a b a' b'
section
variable {d d' N : Nat} {a a' a1 b b' b1 : AM} {s G nc nl k : Int} {W S i S' K : Nat}
theorem SD.mv {S : Int} (h : SD G nc nl S k a b) (eA : ∀ j, 1 ≤ j → j ≤ 4 → mrd a' (G + j) S = mrd a (G + j) S) (eB : ∀ i, 1771 + 9 * S ≤ i → i ≤ 1777 + 9 * S → mrd b' 240 i = mrd b 240 i) : SD G nc nl S k a' b' := by
  unfold SD at h ⊢
  rw [eA 1 (by decide) (by decide), eA 2 (by decide) (by decide), eA 3 (by decide) (by decide), eA 4 (by decide) (by decide), eB (1771 + 9 * S) (by omega) (by omega), eB (1772 + 9 * S) (by omega) (by omega), eB (1776 + 9 * S) (by omega) (by omega), eB (1777 + 9 * S) (by omega) (by omega)]
  exact h
/-- up to the sign of a step's first row -/
theorem pre_both (hs : HD s) (hG : HG G) (hN : N ≤ 300) (W3 : W ≤ 3) (h : AI N G s nc nl W S i a b) (hW0 : W = 0 → mrd b 235 14 ≠ 0) (hWe : 0 < W → wx b ≠ 21) :
    (∃ a' b', EV (d + 5) 2 17 [(2, G), (2, 110), (2, s), (0, (i : Int))] [] a = some ((3, 0), a') ∧ EV (d' + 8) 237 0 [(2, 235), (0, (W : Int)), (3, 0), (3, 0), (3, 0)] [] b = some ((3, 0), b') ∧ AX a a' ∧ NX b b' ∧ QQ N a' b' ∧ mrd a' 110 9 ≠ 0) ∨
    (∃ k a1 b1, EV (d + 5) 2 17 [(2, G), (2, 110), (2, s), (0, (i : Int))] [] a = EV (d + 5) 2 17 [(2, G), (2, 110), (2, s), (0, (i : Int) + 1)] [] a1 ∧ EV (d' + 8) 237 0 [(2, 235), (0, (W : Int)), (3, 0), (3, 0), (3, 0)] [] b = EV (d' + 8) 237 141 [(2, 235), (0, (W : Int)), (0, k), (0, bk k), (0, 1770 + 9 * (S : Int))] [] b1 ∧ (0 ≤ k ∧ k ≤ 7) ∧ S < 30 ∧ (bk k = 1 → W < 3) ∧ GX G S W a a1 ∧ GM S b b1 ∧ QQ N a1 b1 ∧ KD G a1 ∧ (mrd a1 G 7 = S + 1 ∧ mrd b1 235 25 = S + 1) ∧ mrd a1 G 8 = W + bk k ∧ mrd a1 (G + 5) S = S + 1 ∧ (bk k = 1 → mrd a1 (G + 6) W = S) ∧ mrd b1 240 (1770 + 9 * (S : Int)) = k ∧ (mrd a1 110 9 = 0 → mrd b 235 15 + 2 ≤ mrd b1 235 15 ∧ SD G nc nl S k a1 b1)) := by
  obtain ⟨q, h9, sn, ⟨hc, hl⟩, kid, ⟨e7, e25, S30⟩, e8, pos⟩ := h
  have bG := hG.b
  have bs := hs.b
  have c := q.1.ac hG hs
  have e12 := q.e12
  have tg := q.tg h9
  have t1 := tg.1.1
  have i3 : (i : Int) < 300 := by have := tg.2.1.2.2; omega
  have gW := x_isWord (d := d + 4) (k := 21) q (by decide)
  by_cases c0 : mrd b 235 14 = 0
  · left
    have W1 : 0 < W := by
      rcases Nat.eq_zero_or_pos W with z | z
      · exact absurd c0 (hW0 z)
      · exact z
    obtain ⟨a', b', y1, y2, y3, y4, y5, y6, y7⟩ := mis_both (d := d + 3) (d' := d' + 6) q
    have e12' := y5.e12
    have ge' := y5.ge
    have hx : swF (wx b) = -1 := by unfold wx; rw [if_neg (by omega)]; rfl
    refine ⟨a', b', (x_aQ (d := d + 4) q.k c.1 (Or.inr (by omega))).trans (x_aR (d := d + 4) c.1 q.k y1 (by omega)), m_hW (d := d' + 6) q.2.1.1 hx (by decide) y2 y5.km (by omega), y3, y4, y5, y6⟩
  have h5 : mrd a 110 5 ≠ 0 := by have := tg.1.1; omega
  by_cases c21 : wx b = 21
  · left
    have W0 : W = 0 := by
      rcases Nat.eq_zero_or_pos W with z | z
      · exact z
      · exact absurd c21 (hWe z)
    rw [if_pos ⟨h9, c21⟩] at gW
    obtain ⟨a', b', y1, y2, y3, y4, y5, y6, y7⟩ := mis_both (d := d + 2) (d' := d' + 6) q
    have e12' := y5.e12
    have ge' := y5.ge
    have hx : swF (wx b) = -1 := by rw [c21]; decide
    obtain ⟨a2, b2, z1, -, z2⟩ := ps_both (d := d + 2) (d' := 0) (x := 59) y5
    obtain ⟨rfl, rfl⟩ := z2.2.2.2.2 y6
    have kG' := (y5.1.ac hG hs (a := a2)).1
    refine ⟨a2, b2, ?_, m_hW (d := d' + 6) q.2.1.1 hx (by decide) y2 y5.km (by omega), y3, y4, y5, y6⟩
    exact ((x_aE (d := d + 3) q.k c.1 i3 h9 h5 gW (x_cb0 (d := d + 3) c.1 q.k (by omega) y1)).trans (x_aS (d := d + 4) y5.k (by omega) i3 z1)).trans (x_aF (d := d + 3) y5.k kG' y6)
  rw [if_neg (fun z => c21 z.2)] at gW
  rcases hd_both (d := d) (d' := d') (S := (S : Int)) (W := (W : Int)) q h9 hs hG sn kid e7 e25 (by omega) (by omega) e8 (by omega) (by omega) with ⟨a', b', y1, y2, y3, y4, y5, y6⟩ | ⟨k, a1, b1, k0, S1, bW, y1, y2, y3, y4, y5, y6, y7, y8, y9, y10, y11, y12⟩
  · left
    obtain ⟨a2, b2, z1, -, z2⟩ := ps_both (d := d + 2) (d' := 0) (x := 59) y5
    obtain ⟨rfl, rfl⟩ := z2.2.2.2.2 y6
    have kG' := (y5.1.ac hG hs (a := a2)).1
    refine ⟨a2, b2, ?_, y2, y3, y4, y5, y6⟩
    exact ((x_aI (d := d + 3) q.k c.1 i3 h9 h5 gW y1).trans (x_aS (d := d + 4) y5.k (by omega) i3 z1)).trans (x_aF (d := d + 3) y5.k kG' y6)
  · right
    obtain ⟨a2, b2, z1, z2, z3, z4, z5, z6, z7⟩ := ps_both (d := d + 2) (d' := d' + 5) (x := 59) y5
    refine ⟨k, a2, b2, (x_aI (d := d + 3) q.k c.1 i3 h9 h5 gW y1).trans (x_aS (d := d + 4) y5.k (by omega) i3 z1), y2.trans (m_aS (d := d' + 6) y5.2.1.1 z2), k0, by omega, fun z => by have := bW z; omega, y3.tr z3.gx, y4.tr z4.gm, z5, y11.ax hG z3, ⟨?_, ?_⟩, ?_, ?_, fun z => ?_, ?_, fun z => ?_⟩
    · rw [z3.2 _ _ (by omega)]; exact y6.1
    · rw [z4.2 _ _ (by omega)]; exact y6.2
    · rw [z3.2 _ _ (by omega)]; exact y7
    · rw [z3.2 _ _ (by omega)]; exact y8
    · rw [z3.2 _ _ (by omega)]; exact y9 z
    · rw [z4.2 _ _ (by omega)]; exact y10
    · obtain ⟨p1, p2⟩ := z6 z
      obtain ⟨p3, p4⟩ := y12 p1
      rw [hc, hl] at p4
      exact ⟨by omega, p4.mv (fun j j0 j1 => z3.2 _ _ (by omega)) (fun j j0 j1 => z4.2 _ _ (by omega))⟩
/-- where they stand, further on -/
theorem AI.go (hs : HD s) (hG : HG G) {W' S' i' : Nat} (h : AI N G s nc nl W S i a b) (fa : GX G S W a a') (fb : GM S b b') (q : QQ N a' b') (h9 : mrd a' 110 9 = 0) (kid : KD G a') (e : mrd a' G 7 = S' ∧ mrd b' 235 25 = S' ∧ S' ≤ 30) (e8 : mrd a' G 8 = W') (pos : 2 * (i' : Int) ≤ mrd b' 235 15) : AI N G s nc nl W' S' i' a' b' := by
  obtain ⟨-, -, sn, ⟨hc, hl⟩, -⟩ := h
  exact ⟨q, h9, sn.fr hs hG fa.zg (fb.zh (by omega)), ⟨by rw [fa.zg _ _ (ZG_s hs hG (by omega))]; exact hc, by rw [fa.zg _ _ (ZG_s hs hG (by omega))]; exact hl⟩, kid, e, e8, pos⟩
/-- what was read stays -/
theorem SG.go {S1 : Nat} (hG : HG G) (h : SG G nc nl S S1 K a b) (fa : GX G S1 W a a') (fb : GM S1 b b') (e7 : mrd a G 7 ≤ mrd a' G 7) : SG G nc nl S S1 K a' b' := by
  have bG := hG.b
  exact h.mv (by omega) (fun j p j0 j1 p0 p1 => fa.2 _ _ (by unfold ZA; omega)) (fun i i0 i1 => fb.2 _ _ (by unfold ZB; omega)) e7
/-- the steps within a block -/
theorem bl_loop (hs : HD s) (hG : HG G) {S0 e : Nat} {w : Int} (P : PStep N d G s nc nl K) (hK : W + 1 + K = 3) (he : 9 + K ≤ e) : ∀ (n : Nat) (S1 i : Nat) (a b : AM), AI N G s nc nl (W + 1) S1 i a b → (N : Int) - mrd b 235 15 < n → S0 + 1 ≤ S1 → SG G nc nl (S0 + 1) S1 K a b → ∃ a' b', EV e 237 141 [(2, 235), (0, (W : Int)), (0, k), (0, 1), (0, w)] [] b = EV e 237 169 [(2, 235), (0, (W : Int)), (0, k), (0, 1), (0, w)] [] b' ∧ GX G (S0 + 1 : Nat) (W + 1 : Nat) a a' ∧ GM (S0 + 1 : Nat) b b' ∧ QQ N a' b' ∧ KD G a' ∧
    ((mrd a' 110 9 ≠ 0 ∧ EV (d + 5) 2 17 [(2, G), (2, 110), (2, s), (0, (i : Int))] [] a = some ((3, 0), a')) ∨
     (mrd a' 110 9 = 0 ∧ wx b' = 21 ∧ ∃ i' S' : Nat, EV (d + 5) 2 17 [(2, G), (2, 110), (2, s), (0, (i : Int))] [] a = EV (d + 5) 2 17 [(2, G), (2, 110), (2, s), (0, (i' : Int))] [] a' ∧ S1 ≤ S' ∧ (mrd a' G 7 = S' ∧ mrd b' 235 25 = S' ∧ S' ≤ 30) ∧ mrd a' G 8 = (W + 1 : Nat) ∧ SG G nc nl (S0 + 1) S' K a' b' ∧ 2 * (i' : Int) ≤ mrd b' 235 15 ∧ mrd b 235 15 ≤ mrd b' 235 15)) := by
  obtain ⟨e2, rfl⟩ : ∃ e2, e = e2 + 2 := ⟨e - 2, by omega⟩
  intro n
  induction n with
  | zero =>
    intro S1 i a b h hn
    have := (h.1.tg h.2.1).2.1.2.2
    omega
  | succ n ih =>
    intro S1 i a b h hn hS sg
    have q := h.1
    have h9 := h.2.1
    have e12 := q.e12
    by_cases c : wx b = 21
    · exact ⟨a, b, m_aE (d := e2) q.2.1.1 (by omega) c, GX.rf, GM.rf, q, h.2.2.2.2.1, Or.inr ⟨h9, c, i, S1, rfl, Nat.le_refl _, h.2.2.2.2.2.1, h.2.2.2.2.2.2.1, sg, h.2.2.2.2.2.2.2, by omega⟩⟩
    · obtain ⟨a1, b1, y1, y2, y3, y4, y5, y6⟩ := P (W + 1) S1 i (e2 + 1) a b hK (by omega) h (fun z => by omega) (fun _ => c)
      have y1 : EV (e2 + 1) 237 0 [(2, 235), (0, (W : Int) + 1), (3, 0), (3, 0), (3, 0)] [] b = some ((3, 0), b1) := by
        rw [show ((W + 1 : Nat) : Int) = (W : Int) + 1 by omega] at y1
        exact y1
      have M1 := m_aI (d := e2) (k := k) (w := w) q.2.1.1 (by omega) c (by omega) (by omega) y1
      have f2 : GX G (S0 + 1 : Nat) (W + 1 : Nat) a a1 := y2.up (by omega) (by omega)
      have g2 : GM (S0 + 1 : Nat) b b1 := y3.up (by omega)
      rcases y6 with ⟨f, X⟩ | ⟨f, i', S2, X, x1, x2, x3, x4, x5, x6⟩
      · have e12' := y4.e12
        exact ⟨a1, b1, M1.trans (m_aF (d := e2 + 2) y4.2.1.1 (by omega)), f2, g2, y4, y5, Or.inl ⟨f, X⟩⟩
      · have h' : AI N G s nc nl (W + 1) S2 i' a1 b1 := h.go hs hG y2 y3 y4 f y5 x2 x3 x5
        have e7 : mrd a G 7 ≤ mrd a1 G 7 := by rw [h.2.2.2.2.2.1.1, x2.1]; omega
        have sg' : SG G nc nl (S0 + 1) S2 K a1 b1 := (sg.go hG y2 y3 e7).cat x4 hS (by omega)
        obtain ⟨a2, b2, M2, z1, z2, z3, z4, z5⟩ := ih S2 i' a1 b1 h' (by omega) (by omega) sg'
        refine ⟨a2, b2, M1.trans M2, f2.tr z1, g2.tr z2, z3, z4, ?_⟩
        rcases z5 with ⟨f', X'⟩ | ⟨f', c', i2, S3, X', w1, w2, w3, w4, w5, w6⟩
        · exact Or.inl ⟨f', X.trans X'⟩
        · exact Or.inr ⟨f', c', i2, S3, X.trans X', by omega, w2, w3, w4, w5, by omega⟩
end

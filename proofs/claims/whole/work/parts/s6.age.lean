/-! age: a step up to its sign, both sides -/
abbrev ZA (G S W x i : Int) : Prop := (x = 110 ∧ 4 ≤ i ∧ i ≤ 10) ∨ (x = G ∧ (i = 7 ∨ i = 8)) ∨ (G + 1 ≤ x ∧ x ≤ G + 5 ∧ S ≤ i) ∨ (x = G + 6 ∧ W ≤ i)
abbrev ZB (S x i : Int) : Prop := (x = 235 ∧ ((12 ≤ i ∧ i ≤ 19) ∨ i = 25)) ∨ (x = 240 ∧ 1770 + 9 * S ≤ i)
def GX (G S W : Int) (a a' : AM) : Prop := a'.2 = a.2 ∧ ∀ x i, ¬ ZA G S W x i → mrd a' x i = mrd a x i
def GM (S : Int) (b b' : AM) : Prop := b'.2 = b.2 ∧ ∀ x i, ¬ ZB S x i → mrd b' x i = mrd b x i
/-- the children's numbers of the draft -/
def KD (G : Int) (a : AM) : Prop := ∀ p, 0 ≤ p → p < 30 → 0 ≤ mrd a (G + 2) p ∧ mrd a (G + 2) p < 4
section
variable {d d' N : Nat} {a a' a1 a2 b b' b1 b2 b3 : AM} {s G S v u k w W S' W' : Int}
theorem GX.tr (h : GX G S W a a1) (h2 : GX G S W a1 a') : GX G S W a a' := ⟨h2.1.trans h.1, fun x i hx => (h2.2 x i hx).trans (h.2 x i hx)⟩
theorem GM.tr (h : GM S b b1) (h2 : GM S b1 b') : GM S b b' := ⟨h2.1.trans h.1, fun x i hx => (h2.2 x i hx).trans (h.2 x i hx)⟩
theorem GX.rf : GX G S W a a := ⟨rfl, fun _ _ _ => rfl⟩
theorem GM.rf : GM S b b := ⟨rfl, fun _ _ _ => rfl⟩
theorem GX.up (h : GX G S' W' a a') (hS : S ≤ S') (hW : W ≤ W') : GX G S W a a' := ⟨h.1, fun x i hx => h.2 x i (by
  rintro (z | z | z | z)
  · exact hx (Or.inl z)
  · exact hx (Or.inr (Or.inl z))
  · exact hx (Or.inr (Or.inr (Or.inl (by omega))))
  · exact hx (Or.inr (Or.inr (Or.inr (by omega)))))⟩
theorem GM.up (h : GM S' b b') (hS : S ≤ S') : GM S b b' := ⟨h.1, fun x i hx => h.2 x i (by
  rintro (z | z)
  · exact hx (Or.inl z)
  · exact hx (Or.inr (by omega)))⟩
theorem AX.gx (h : AX a a') : GX G S W a a' := ⟨h.1, fun x i hx => h.2 x i (fun z => hx (Or.inl z))⟩
theorem NX.gm (h : NX b b') : GM S b b' := ⟨h.1, fun x i hx => h.2 x i (fun z => hx (Or.inl ⟨z.1, Or.inl z.2⟩))⟩
theorem RX.gx (h : RX G S a a') : GX G S W a a' := ⟨h.1, fun x i hx => h.2 x i (by
  rintro (z | z)
  · exact hx (Or.inl z)
  · exact hx (Or.inr (Or.inr (Or.inl (by omega)))))⟩
theorem RM.gm (h : RM S b b') : GM S b b' := ⟨h.1, fun x i hx => h.2 x i (by
  rintro (z | z)
  · exact hx (Or.inl ⟨z.1, Or.inl z.2⟩)
  · exact hx (Or.inr (by omega)))⟩
theorem GX.wr {x i v : Int} (h : GX G S W a a') (hz : ZA G S W x i) : GX G S W a (mwr a' x i v) := ⟨h.1, fun y j hy => by
  rw [rd_wr, if_neg (fun z => hy (by rw [z.1, z.2]; exact hz))]; exact h.2 y j hy⟩
theorem GM.wr {x i v : Int} (h : GM S b b') (hz : ZB S x i) : GM S b (mwr b' x i v) := ⟨h.1, fun y j hy => by
  rw [rd_wr, if_neg (fun z => hy (by rw [z.1, z.2]; exact hz))]; exact h.2 y j hy⟩
theorem GX.zg (h : GX G S W a a') : ∀ x i, ¬ ZG G x i → mrd a' x i = mrd a x i := fun x i hx => h.2 x i (by
  rintro (z | z | z | z)
  · exact hx (Or.inl z)
  · exact hx (Or.inr (Or.inl (by omega)))
  · exact hx (Or.inr (Or.inr (by omega)))
  · exact hx (Or.inr (Or.inr (by omega))))
theorem GM.zh (h : GM S b b') (S0 : 0 ≤ S) : ∀ x i, ¬ ZH x i → mrd b' x i = mrd b x i := fun x i hx => h.2 x i (by
  rintro (z | z)
  · exact hx (Or.inl z)
  · exact hx (Or.inr (by omega)))
theorem KD.ax (h : KD G a) (hG : HG G) (hA : AX a a') : KD G a' := fun p p0 p1 => by
  have := hG.b
  rw [hA.2 _ _ (by omega)]; exact h p p0 p1
theorem bk_r (k : Int) : bk k = 0 ∨ bk k = 1 := by unfold bk; split; exact Or.inr rfl; exact Or.inl rfl
/-- the head of a step, with its rest -/
def HO (N d d' : Nat) (G s S W : Int) (a b : AM) : Prop :=
  (∃ a' b', EV (d + 4) 4 0 [(2, G), (2, 110), (2, s), (3, 0), (3, 0), (3, 0)] [] a = some ((3, 0), a') ∧ EV (d' + 8) 237 0 [(2, 235), (0, W), (3, 0), (3, 0), (3, 0)] [] b = some ((3, 0), b') ∧ AX a a' ∧ NX b b' ∧ QQ N a' b' ∧ mrd a' 110 9 ≠ 0) ∨
  (∃ k a' b', (0 ≤ k ∧ k ≤ 7) ∧ S < 30 ∧ (bk k = 1 → W < 3) ∧ EV (d + 4) 4 0 [(2, G), (2, 110), (2, s), (3, 0), (3, 0), (3, 0)] [] a = some ((3, 0), a') ∧ EV (d' + 8) 237 0 [(2, 235), (0, W), (3, 0), (3, 0), (3, 0)] [] b = EV (d' + 8) 237 131 [(2, 235), (0, W), (0, k), (0, bk k), (0, 1770 + 9 * S)] [] b' ∧ GX G S W a a' ∧ GM S b b' ∧ QQ N a' b' ∧ (mrd a' G 7 = S + 1 ∧ mrd b' 235 25 = S + 1) ∧ mrd a' G 8 = W + bk k ∧ mrd a' (G + 5) S = S + 1 ∧ (bk k = 1 → mrd a' (G + 6) W = S) ∧ mrd b' 240 (1770 + 9 * S) = k ∧ KD G a' ∧ (mrd a' 110 9 = 0 → mrd b 235 15 < mrd b' 235 15 ∧ SD G (mrd a s 7) (mrd a s 6) S k a' b'))
set_option maxHeartbeats 2000000 in
theorem hd_both (q : QQ N a b) (h9 : mrd a 110 9 = 0) (hs : HD s) (hG : HG G) (sn : SN s a b) (kid : KD G a) (eS : mrd a G 7 = S) (eb : mrd b 235 25 = S) (S0 : 0 ≤ S) (S30 : S ≤ 30) (eW : mrd a G 8 = W) (W0 : 0 ≤ W) (W3 : W ≤ 3) : HO N d d' G s S W a b := by
  have bG := hG.b
  have bs := hs.b
  have c := q.1.ac hG hs
  have hm := q.2.1.1
  have e12 := q.e12
  have ge := q.ge
  obtain ⟨w, hw⟩ : ∃ w, w = wx b := ⟨_, rfl⟩
  obtain ⟨k, hk⟩ : ∃ k, k = swF w := ⟨_, rfl⟩
  have hk' : swF (wx b) = k := by rw [← hw]; exact hk.symm
  obtain ⟨kr0, kr1, kr2⟩ := sw_r w
  rw [← hk] at kr0 kr1 kr2
  have h8 : mrd a 110 8 = w := by rw [hw]; exact (q.tg h9).w8
  have t5 := (q.tg h9).1.1
  have h14 : 0 ≤ k → mrd b 235 14 = 1 := fun z => by
    by_cases y : mrd b 235 14 = 1
    · exact y
    · have : w = -1 := by rw [hw]; unfold wx; rw [if_neg y]
      have := kr2 z
      omega
  by_cases ck : k < 0
  · left
    obtain ⟨a', b', y1, y2, y3, y4, y5, y6, y7⟩ := mis_both (d := d + 2) (d' := d' + 6) q
    have e12' := y5.e12
    have ge' := y5.ge
    exact ⟨a', b', x_hW (d := d + 3) q.k h8 (Or.inr (by omega)) y1, m_hW (d := d' + 6) hm hk' ck y2 y5.km (by omega), y3, y4, y5, y6⟩
  have h1 := h14 (by omega)
  by_cases c30 : S = 30
  · left
    obtain ⟨r1, r2, r3, r4⟩ := blm_both q (w := 6) (by decide)
    have e12' := r1.e12
    have ge' := r1.ge
    exact ⟨_, _, x_h6 (d := d + 3) c h8 (by omega) (by omega) (by omega), m_h6 (d := d' + 6) hm hk' ck (by omega) (by omega) r1.km (by omega), r3, r4, r1, r2⟩
  have S1 : S < 30 := by omega
  by_cases c7 : (k = 5 ∨ k = 6) ∧ W = 3
  · left
    obtain ⟨r1, r2, r3, r4⟩ := blm_both q (w := 7) (by decide)
    have e12' := r1.e12
    have ge' := r1.ge
    have hb : w = 16 ∨ w = 20 := by have := kr2 (by omega); omega
    rw [c7.2]
    exact ⟨_, _, x_h7 (d := d + 3) c h8 (by omega) (by omega) (by omega) hb (by omega), m_h7 (d := d' + 6) hm hk' c7.1 (by omega) (by omega) r1.km (by omega), r3, r4, r1, r2⟩
  right
  have kr := kr2 (by omega)
  have bW : bk k = 1 → W < 3 := fun z => by
    have : k = 5 ∨ k = 6 := by
      unfold bk at z
      by_cases y : k = 5 ∨ k = 6
      · exact y
      · rw [if_neg y] at z; omega
    omega
  -- the class, up to its advance
  have P : ∃ a5, EV (d + 4) 4 0 [(2, G), (2, 110), (2, s), (3, 0), (3, 0), (3, 0)] [] a = EV (d + 4) 4 141 [(2, G), (2, 110), (2, s), (0, w), (0, bk k), (0, S)] [] a5 ∧ GX G S W a a5 ∧ QQ N a5 b ∧ mrd a5 G 7 = S + 1 ∧ mrd a5 G 8 = W + bk k ∧ mrd a5 (G + 5) S = S + 1 ∧ (bk k = 1 → mrd a5 (G + 6) W = S) ∧ mrd a5 (G + 1) S = w ∧ (∀ p, mrd a5 (G + 2) p = mrd a (G + 2) p) ∧ ∀ i, mrd a5 110 i = mrd a 110 i := by
    have qN : QQ N (h5N a G S w) b := ((q.wf hG (by decide)).wg hG (by decide) (by decide)).wg hG (by decide) (by decide)
    have fN : GX G S W a (h5N a G S w) := ((GX.rf.wr (Or.inr (Or.inl ⟨rfl, Or.inl rfl⟩))).wr (Or.inr (Or.inr (Or.inl (by omega))))).wr (Or.inr (Or.inr (Or.inl (by omega))))
    have g7 : mrd (h5N a G S w) G 7 = S + 1 := by unfold h5N; rw [rdn1 (by omega), rdn1 (by omega), rde]
    have g8 : mrd (h5N a G S w) G 8 = W := by unfold h5N; rw [rdn1 (by omega), rdn1 (by omega), rdn2 (by decide)]; exact eW
    have g5 : mrd (h5N a G S w) (G + 5) S = S + 1 := by unfold h5N; rw [rde]
    have g1 : mrd (h5N a G S w) (G + 1) S = w := by unfold h5N; rw [rdn1 (by omega), rde]
    have g2 : ∀ p, mrd (h5N a G S w) (G + 2) p = mrd a (G + 2) p := fun p => by unfold h5N; rw [rdn1 (by omega), rdn1 (by omega), rdn1 (by omega)]
    have g0 : ∀ i, mrd (h5N a G S w) 110 i = mrd a 110 i := fun i => by unfold h5N; rw [rdn1 (by omega), rdn1 (by omega), rdn1 (by omega)]
    by_cases cb : k = 5 ∨ k = 6
    · have e1 : bk k = 1 := if_pos cb
      have hb : w = 16 ∨ w = 20 := by omega
      rw [e1] at bW ⊢
      have W1 := bW rfl
      have X := x_h1B (d := d + 3) c h8 (by omega) (by omega) eS S0 S1 hb eW W0 W1
      refine ⟨h5B a G S W w, X, (fN.wr (Or.inr (Or.inr (Or.inr ⟨rfl, by omega⟩)))).wr (Or.inr (Or.inl ⟨rfl, Or.inr rfl⟩)), (qN.wg hG (by decide) (by decide)).wf hG (by decide), ?_, ?_, ?_, fun _ => ?_, ?_, fun p => ?_, fun i => ?_⟩
      · unfold h5B; rw [rdn2 (by decide), rdn1 (by omega)]; exact g7
      · unfold h5B; rw [rde]
      · unfold h5B; rw [rdn1 (by omega), rdn1 (by omega)]; exact g5
      · unfold h5B; rw [rdn1 (by omega), rde]
      · unfold h5B; rw [rdn1 (by omega), rdn1 (by omega)]; exact g1
      · unfold h5B; rw [rdn1 (by omega), rdn1 (by omega)]; exact g2 p
      · unfold h5B; rw [rdn1 (by omega), rdn1 (by omega)]; exact g0 i
    · have e0 : bk k = 0 := if_neg cb
      rw [e0]
      have X := x_h1N (d := d + 3) c h8 (by omega) (by omega) eS S0 S1 (by omega) (by omega)
      exact ⟨h5N a G S w, X, fN, qN, g7, by omega, g5, fun z => by omega, g1, g2, g0⟩
  obtain ⟨a5, X1, f5, q5, i7, i8, i5, i6, i1, i2, i0⟩ := P
  have q6 : QQ N a5 (mwr b 235 25 (S + 1)) := q5.w25
  have n14 : mrd (mwr b 235 25 (S + 1)) 235 14 = 1 := by rw [rdn2 (by decide)]; exact h1
  obtain ⟨a6, b2, y1, y2, y3, y4, y5, y6, y7⟩ := adv2 (d := d + 2) (d' := d' + 6) q6 (by rw [i0]; exact h9) (by omega)
  have t3 := (q.tg h9).2.2.1 (by omega)
  have t4 := t3.2.2.2 (by omega)
  rw [rdn2 (by decide)] at y7
  obtain ⟨b3, hb3⟩ : ∃ b3, b3 = mwr b2 240 (1770 + 9 * S) k := ⟨_, rfl⟩
  have q7 : QQ N a6 b3 := by rw [hb3]; exact y5.w4
  have f6 : GX G S W a a6 := f5.tr y3.gx
  have m2 : GM S b b2 := (GM.rf.wr (Or.inl ⟨rfl, Or.inr rfl⟩)).tr y4.gm
  have m3 : GM S b b3 := by rw [hb3]; exact m2.wr (Or.inr ⟨rfl, by omega⟩)
  have sn3 : SN s a6 b3 := sn.fr hs hG f6.zg (m3.zh S0)
  have e7 : mrd a6 s 7 = mrd a s 7 := f6.zg _ _ (ZG_s hs hG (by omega))
  have e6 : mrd a6 s 6 = mrd a s 6 := f6.zg _ _ (ZG_s hs hG (by omega))
  have ew : mrd a6 (G + 1) S = w := by rw [y3.2 _ _ (by omega)]; exact i1
  have ek : mrd b3 240 (1770 + 9 * S) = k := by rw [hb3, rde]
  have j2 : ∀ p, mrd a6 (G + 2) p = mrd a (G + 2) p := fun p => by rw [y3.2 _ _ (by omega)]; exact i2 p
  have kd6 : 0 ≤ mrd a6 (G + 2) S ∧ mrd a6 (G + 2) S < 4 := by rw [j2]; exact kid S S0 S1
  have p15 : mrd b3 235 15 = mrd b2 235 15 := by rw [hb3, rdn1 (by decide)]
  have R : ∃ a7 b4, ((w = 16 ∧ EV (d + 3) 7 0 [(2, G), (2, 110), (2, s), (0, S)] [] a6 = some ((3, 0), a7)) ∨ (¬ w = 16 ∧ EV (d + 3) 6 0 [(2, G), (2, 110), (2, s), (0, S), (3, 0)] [] a6 = some ((3, 0), a7))) ∧ EV (d' + 7) 236 0 [(2, 235), (0, 1770 + 9 * S), (3, 0)] [] b3 = some ((3, 0), b4) ∧ RO N G s S k a6 b3 a7 b4 := by
    by_cases c5 : k = 5
    · obtain ⟨a7, b4, z1, z2, z3⟩ := tt_both (d := d) (d' := d') q7 y6 hs hG sn3 S0 S1 kd6
      rw [← c5] at z3
      refine ⟨a7, b4, Or.inl ⟨by omega, z1⟩, ?_, z3⟩
      rw [c5] at ek
      exact (m_r0 q7.2.1.1 ek S0 S1).trans (m_rT (d := d' + 6) q7.2.1.1 z2)
    · obtain ⟨a7, b4, z1, z2, z3⟩ := dd_both (d := d) (d' := d' + 1) q7 hs hG sn3 S0 S1 kd6 ew ek (by omega)
      exact ⟨a7, b4, Or.inr ⟨by omega, z1⟩, z2, z3⟩
  obtain ⟨a7, b4, z1, z2, z3, z4, z5, z6, z7⟩ := R
  refine ⟨k, a7, b4, ⟨by omega, by omega⟩, S1, bW, X1.trans (x_h2 (d := d + 3) (q5.1.ac hG hs).1 q5.k y1 (y5.1.ac hG hs).1 z1), m_h1 (d := d' + 6) hm hk' ck (by omega) eb S0 S1 (fun z => by have := bW z; omega) y2 y5.2.1.1 (by rw [← hb3]; exact z2), f6.tr z3.gx, m3.tr z4.gm, z5, ⟨?_, ?_⟩, ?_, ?_, fun z => ?_, ?_, fun p p0 p1 => ?_, fun z => ?_⟩
  · rw [z3.2 _ _ (by omega), y3.2 _ _ (by omega)]; exact i7
  · rw [z4.2 _ _ (by omega), hb3, rdn1 (by decide), y4.2 _ _ (by omega), rde]
  · rw [z3.2 _ _ (by omega), y3.2 _ _ (by omega)]; exact i8
  · rw [z3.2 _ _ (by omega), y3.2 _ _ (by omega)]; exact i5
  · rw [z3.2 _ _ (by omega), y3.2 _ _ (by omega)]; exact i6 z
  · rw [z4.2 _ _ (by omega)]; exact ek
  · by_cases e : p = S
    · rw [e]; exact z6
    · rw [z3.2 _ _ (by omega), j2]; exact kid p p0 p1
  · obtain ⟨o1, o2, o3⟩ := z7 z
    rw [e7, e6] at o3
    exact ⟨by omega, o3⟩
end

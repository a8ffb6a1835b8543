/-! ages lived: deeds and tests -/
theorem ag_K {a : AM} {g p : Int} (hp : Shp a) (hr : RRef a.1) (hg : g ∈ A7) (p0 : 0 ≤ p) (p1 : p < 30) : isK a g 0 ∧ (mrd a g 0 = g + 1 ∧ mrd a g 1 = g + 2 ∧ mrd a g 2 = g + 3 ∧ mrd a g 3 = g + 4 ∧ mrd a g 4 = g + 5) ∧ inA a (g + 1) 16 p ∧ inA a (g + 2) 16 p ∧ inA a (g + 3) 16 p ∧ inA a (g + 4) 16 p ∧ inA a (g + 5) 16 p := by
  obtain ⟨k0, k1⟩ := a7_K hp hg
  have r := a7_ref (m := mrd a) hr hg
  obtain ⟨x1, y1⟩ := k1 1 (by decide) (by decide)
  obtain ⟨x2, y2⟩ := k1 2 (by decide) (by decide)
  obtain ⟨x3, y3⟩ := k1 3 (by decide) (by decide)
  obtain ⟨x4, y4⟩ := k1 4 (by decide) (by decide)
  obtain ⟨x5, y5⟩ := k1 5 (by decide) (by decide)
  exact ⟨k0, r, ⟨x1, p0, by omega⟩, ⟨x2, p0, by omega⟩, ⟨x3, p0, by omega⟩, ⟨x4, p0, by omega⟩, ⟨x5, p0, by omega⟩⟩
section
variable {d : Nat} {a0 b0 a b a' b' : AM} {s L g nc nl e c e' c' k l p v n x w dp : Int}
theorem Sim.age (hB : BF a0 b0 s L g nc nl) (hA : RAge (mx a0 b0).1 g 0 nc nl) (hS : Sim e c a0 b0 s L a b) : RAge (mx a b).1 g 0 nc nl := by
  obtain ⟨-, -, -, -, -, -, -, -, eg, eb⟩ := hS.sh hB
  have gb : 17 ≤ g ∧ g ≤ 228 := by
    have : ∀ g ∈ A7, 17 ≤ g ∧ g ≤ 228 := by decide +kernel
    exact this g hB.2.2.2.1.2.1
  refine RAge_cp (m := (mx a0 b0).1) (a1 := g) (B1 := 0) ⟨?_, ?_⟩ (fun j j0 j1 q q0 q1 => ?_) (fun i i0 i1 => ?_) hA
  · show mrd (mx a b) g 6 = mrd (mx a0 b0) g 6
    rw [mxa (by omega), mxa (by omega)]
    have := eg 0 6 (by decide) (by decide)
    rwa [Int.add_zero] at this
  · show mrd (mx a b) g 7 = mrd (mx a0 b0) g 7
    rw [mxa (by omega), mxa (by omega)]
    have := eg 0 7 (by decide) (by decide)
    rwa [Int.add_zero] at this
  · show mrd (mx a b) (g + j) q = mrd (mx a0 b0) (g + j) q
    rw [mxa (by omega), mxa (by omega)]
    exact eg j q (by omega) (by omega)
  · show mrd (mx a b) 240 (0 + i) = mrd (mx a0 b0) 240 (0 + i)
    rw [mxb (by decide) (by decide), mxb (by decide) (by decide)]
    exact eb _ (by omega)
/-- a step, in plain words: kind, child, number .. of the reference, and the class's -/
def STP (a b : AM) (g nc nl p : Int) : Prop :=
  (mrd a (g + 5) p = mrd b 240 (138 + 9 * p) ∧ p + 1 ≤ mrd a (g + 5) p ∧ mrd a (g + 5) p ≤ mrd a g 7) ∧ (0 ≤ mrd a (g + 2) p ∧ mrd a (g + 2) p < 4) ∧
  ((mrd b 240 (130 + 9 * p) < 6 → mrd a (g + 2) p = mrd b 240 (131 + 9 * p) ∧ mrd a (g + 2) p < nc) ∧
   (mrd b 240 (130 + 9 * p) < 5 → mrd a (g + 5) p = p + 1 ∧ mrd a (g + 1) p = 11 + mrd b 240 (130 + 9 * p)) ∧ 0 ≤ mrd b 240 (130 + 9 * p) ∧ mrd b 240 (130 + 9 * p) ≤ 7 ∧
   (mrd b 240 (130 + 9 * p) = 0 → mrd a (g + 3) p = mrd b 240 (132 + 9 * p) ∧ 0 ≤ mrd a (g + 3) p ∧ mrd a (g + 3) p < nl) ∧
   (mrd b 240 (130 + 9 * p) = 1 → mrd a (g + 3) p = mrd b 240 (132 + 9 * p) ∧ 0 ≤ mrd a (g + 3) p ∧ mrd a (g + 3) p ≤ 11) ∧
   (mrd b 240 (130 + 9 * p) = 3 ∨ mrd b 240 (130 + 9 * p) = 4 → mrd a (g + 3) p = mrd b 240 (132 + 9 * p) ∧ 1 ≤ mrd a (g + 3) p ∧ mrd a (g + 3) p ≤ 99) ∧
   (mrd b 240 (130 + 9 * p) = 5 → mrd a (g + 1) p = 17 + mrd b 240 (136 + 9 * p) ∧ 0 ≤ mrd b 240 (136 + 9 * p) ∧ mrd b 240 (136 + 9 * p) ≤ 2 ∧
     (mrd b 240 (136 + 9 * p) = 0 → mrd a (g + 3) p = mrd b 240 (132 + 9 * p) ∧ mrd a (g + 4) p = mrd b 240 (137 + 9 * p) ∧ 0 ≤ mrd a (g + 3) p ∧ mrd a (g + 3) p ≤ 12) ∧
     (mrd b 240 (136 + 9 * p) = 2 → mrd a (g + 3) p = mrd b 240 (132 + 9 * p) ∧ 0 ≤ mrd a (g + 3) p ∧ mrd a (g + 3) p < nl)) ∧
   (mrd b 240 (130 + 9 * p) = 6 → mrd a (g + 1) p = 20 ∧ mrd a (g + 3) p = mrd b 240 (131 + 9 * p) ∧ 1 ≤ mrd a (g + 3) p ∧ mrd a (g + 3) p ≤ 99) ∧
   (mrd b 240 (130 + 9 * p) = 7 → mrd a (g + 1) p = 22 ∧ mrd a (g + 5) p = p + 1))
theorem Sim.stp (hB : BF a0 b0 s L g nc nl) (hA : RAge (mx a0 b0).1 g 0 nc nl) (h1 : mrd a0 g 6 = 1) (hS : Sim e c a0 b0 s L a b) (p0 : 0 ≤ p) (p1 : p < mrd a0 g 7) : p < 30 ∧ STP a b g nc nl p := by
  have hA' := hS.age hB hA
  obtain ⟨-, -, -, -, -, -, -, -, eg, eb⟩ := hS.sh hB
  have gb : 17 ≤ g ∧ g ≤ 228 := by
    have : ∀ g ∈ A7, 17 ≤ g ∧ g ≤ 228 := by decide +kernel
    exact this g hB.2.2.2.1.2.1
  have e6 := eg 0 6 (by decide) (by decide)
  have e7 := eg 0 7 (by decide) (by decide)
  rw [Int.add_zero] at e6 e7
  have ya : ∀ x i, 17 ≤ x → x ≤ 233 → (mx a b).1 x i = mrd a x i := fun x i x0 x1 => mxa (by omega)
  have yb : ∀ i, (mx a b).1 240 i = mrd b 240 i := fun i => mxb (by decide) (by decide)
  obtain ⟨n1, n2, n3, n4⟩ := hA'.2.2 (by rw [ya _ _ (by omega) (by omega), e6]; exact h1)
  rw [ya _ _ (by omega) (by omega)] at n1 n2
  have hs := n2 p p0 (by rw [e7]; exact p1)
  refine ⟨by omega, ?_⟩
  unfold RStp at hs
  unfold STP
  simp only [Int.zero_add, yb] at hs
  rw [ya (g + 5) p (by omega) (by omega), ya g 7 (by omega) (by omega), ya (g + 2) p (by omega) (by omega), ya (g + 1) p (by omega) (by omega), ya (g + 3) p (by omega) (by omega), ya (g + 4) p (by omega) (by omega)] at hs
  exact hs
theorem lv_rest (hB : BF a0 b0 s L g nc nl) (hS : Sim 0 1 a0 b0 s L a b) (k0 : 0 ≤ k) (k1 : k < nc) (v1 v2 : Int) (hv : mrd a (s + 25 + 2 * k) 4 = mrd b 240 (72 + k) → v1 = v2) : Sim 0 1 a0 b0 s L (mwr a (s + 25 + 2 * k) 4 v1) (mwr b 240 (72 + k) v2) := by
  obtain ⟨⟨N0, N12, n4, M1, M2, A6, A7⟩, q2, q3, q6, q5, q4⟩ := hS.chi hB k0 k1
  have bs := hB.bs
  obtain ⟨m, hm⟩ : ∃ m, m = (mx a b).1 := ⟨_, rfl⟩
  obtain ⟨m', hm'⟩ : ∃ m', m' = (mx (mwr a (s + 25 + 2 * k) 4 v1) (mwr b 240 (72 + k) v2)).1 := ⟨_, rfl⟩
  have hR : RSch m s 0 0 := by rw [hm]; exact hS.2.2.1
  have ya : ∀ x i, x < 235 → m x i = mrd a x i := fun x i hx => by rw [hm]; exact mxa (by omega)
  have yb : ∀ x i, 235 ≤ x → x < 258 → m x i = mrd b x i := fun x i h0 h1 => by rw [hm]; exact mxb h0 h1
  have za : ∀ x i, x < 235 → m' x i = if x = s + 25 + 2 * k ∧ i = 4 then v1 else mrd a x i := fun x i hx => by
    rw [hm']
    refine (mxa (by omega)).trans ?_
    rw [rd_wr]
  have zb : ∀ x i, 235 ≤ x → x < 258 → m' x i = if x = 240 ∧ i = 72 + k then v2 else mrd b x i := fun x i h0 h1 => by
    rw [hm']
    refine (mxb h0 h1).trans ?_
    rw [rd_wr]
  have key : RChi m' s 0 0 k := by
    refine RChi_pc (m := m) (hR.2.2.2.2.2 k k0 (by rw [ya _ _ (by omega)]; omega)) ?_ ?_ ?_ ?_ ?_ ?_ ?_ ?_ ?_ ?_ ?_ ?_
    · rw [za _ _ (by omega), ya _ _ (by omega), if_neg (by omega)]
    · rw [za _ _ (by omega), ya _ _ (by omega), if_neg (by omega)]
    · rw [za _ _ (by omega), ya _ _ (by omega), if_neg (by omega)]
    · rw [za _ _ (by omega), ya _ _ (by omega), if_neg (by omega)]
    · funext i
      rw [za _ _ (by omega), ya _ _ (by omega), if_neg (by omega)]
    · rw [zb _ _ (by omega) (by omega), yb _ _ (by omega) (by omega), if_neg (by omega)]
    · rw [zb _ _ (by omega) (by omega), yb _ _ (by omega) (by omega), if_neg (by omega)]
    · intro p p0 p1
      rw [zb _ _ (by omega) (by omega), yb _ _ (by omega) (by omega), if_neg (by omega)]
    · rw [zb _ _ (by omega) (by omega), yb _ _ (by omega) (by omega), if_neg (by omega)]
    · rw [za _ _ (by omega), ya _ _ (by omega), if_neg (by omega)]
    · rw [za _ _ (by omega), zb _ _ (by omega) (by omega), if_neg (by omega), if_neg (by omega)]
      omega
    · rw [za _ _ (by omega), zb _ _ (by omega) (by omega), if_pos ⟨rfl, rfl⟩, if_pos ⟨rfl, rfl⟩]
      exact hv q4
  rw [hm'] at key
  refine hS.upd hB k0 k1 ⟨rfl, fun x i _ _ _ n4 n5 => by rw [rd_wr, if_neg (by omega)]⟩ ⟨rfl, fun x i _ _ n3 => by rw [rd_wr, if_neg (by omega)]⟩ key (hS.2.2.2.cg (fun i _ _ => by rw [rd_wr, if_neg (by omega)]) (fun i _ _ => by rw [rd_wr, if_neg (by omega)]))
theorem lv_purse (hB : BF a0 b0 s L g nc nl) (hS : Sim 0 1 a0 b0 s L a b) (k0 : 0 ≤ k) (k1 : k < nc) (v0 : 0 ≤ v) (v1 : v ≤ 9999) : Sim 0 1 a0 b0 s L (mwr a (s + 25 + 2 * k) 3 v) (mwr b 240 (68 + k) v) := by
  obtain ⟨⟨N0, N12, n4, M1, M2, A6, A7⟩, q2, q3, q6, q5, q4⟩ := hS.chi hB k0 k1
  have bs := hB.bs
  obtain ⟨m, hm⟩ : ∃ m, m = (mx a b).1 := ⟨_, rfl⟩
  obtain ⟨m', hm'⟩ : ∃ m', m' = (mx (mwr a (s + 25 + 2 * k) 3 v) (mwr b 240 (68 + k) v)).1 := ⟨_, rfl⟩
  have hR : RSch m s 0 0 := by rw [hm]; exact hS.2.2.1
  have ya : ∀ x i, x < 235 → m x i = mrd a x i := fun x i hx => by rw [hm]; exact mxa (by omega)
  have yb : ∀ x i, 235 ≤ x → x < 258 → m x i = mrd b x i := fun x i h0 h1 => by rw [hm]; exact mxb h0 h1
  have za : ∀ x i, x < 235 → m' x i = if x = s + 25 + 2 * k ∧ i = 3 then v else mrd a x i := fun x i hx => by
    rw [hm']
    refine (mxa (by omega)).trans ?_
    rw [rd_wr]
  have zb : ∀ x i, 235 ≤ x → x < 258 → m' x i = if x = 240 ∧ i = 68 + k then v else mrd b x i := fun x i h0 h1 => by
    rw [hm']
    refine (mxb h0 h1).trans ?_
    rw [rd_wr]
  have key : RChi m' s 0 0 k := by
    refine RChi_pc (m := m) (hR.2.2.2.2.2 k k0 (by rw [ya _ _ (by omega)]; omega)) ?_ ?_ ?_ ?_ ?_ ?_ ?_ ?_ ?_ ?_ ?_ ?_
    · rw [za _ _ (by omega), ya _ _ (by omega), if_neg (by omega)]
    · rw [za _ _ (by omega), ya _ _ (by omega), if_neg (by omega)]
    · rw [za _ _ (by omega), ya _ _ (by omega), if_neg (by omega)]
    · rw [za _ _ (by omega), ya _ _ (by omega), if_neg (by omega)]
    · funext i
      rw [za _ _ (by omega), ya _ _ (by omega), if_neg (by omega)]
    · rw [zb _ _ (by omega) (by omega), yb _ _ (by omega) (by omega), if_neg (by omega)]
    · rw [zb _ _ (by omega) (by omega), yb _ _ (by omega) (by omega), if_neg (by omega)]
    · intro p p0 p1
      rw [zb _ _ (by omega) (by omega), yb _ _ (by omega) (by omega), if_neg (by omega)]
    · rw [zb _ _ (by omega) (by omega), yb _ _ (by omega) (by omega), if_neg (by omega)]
    · rw [za _ _ (by omega), ya _ _ (by omega), if_neg (by omega)]
    · rw [za _ _ (by omega), zb _ _ (by omega) (by omega), if_pos ⟨rfl, rfl⟩, if_pos ⟨rfl, rfl⟩]
      exact ⟨rfl, v0, v1⟩
    · rw [za _ _ (by omega), zb _ _ (by omega) (by omega), if_neg (by omega), if_neg (by omega)]
      exact q4
  rw [hm'] at key
  refine hS.upd hB k0 k1 ⟨rfl, fun x i _ _ _ n4 n5 => by rw [rd_wr, if_neg (by omega)]⟩ ⟨rfl, fun x i _ _ n3 => by rw [rd_wr, if_neg (by omega)]⟩ key (hS.2.2.2.cg (fun i _ _ => by rw [rd_wr, if_neg (by omega)]) (fun i _ _ => by rw [rd_wr, if_neg (by omega)]))
/-- whether a name is said, on both sides -/
theorem said_both {d d' : Nat} (hB : BF a0 b0 s L g nc nl) (hS : Sim e c a0 b0 s L a b) (k0 : 0 ≤ k) (k1 : k < nc) : True ∧ True ∧ ∃ r, (r = 0 ∨ r = 1) ∧ ∃ a' b', EV (d + 1) 74 0 [(2, s), (2, s + 25 + 2 * k), (0, -1)] [] a = some ((0, r), a') ∧ EV (d' + 3) 271 0 [(2, 235), (0, k), (0, 0)] [] b = some ((0, r), b') ∧ VX a a' s ∧ VM b b' := by
  obtain ⟨hp, hr, hm, cs, ds, kL, es, el, eg, eb⟩ := hS.sh hB
  obtain ⟨⟨N0, N12, n4, M1, M2, A6, A7⟩, q2, q3, q6, q5, q4⟩ := hS.chi hB k0 k1
  have bs := hB.bs
  obtain ⟨M, hM⟩ := Int.eq_ofNat_of_zero_le q6.2.1
  have e4 : ∀ i, mrd (mx a b) 240 i = mrd b 240 i := fun i => mxb (by decide) (by decide)
  have d6 : k < mrd (mx a b) 240 2 := by rw [e4, M2]; exact k1
  have hMx : mrd (mx a b) 240 (76 + k) = M := by rw [e4]; exact hM
  obtain ⟨u1, u2, u3, u4⟩ := spell_hl ds k0 d6 M hMx
  have yk : ∀ i, mrd (mx a b) (s + 25 + 2 * k) i = mrd a (s + 25 + 2 * k) i := fun i => mxa (by omega)
  have yn : ∀ i, mrd (mx a b) (s + 26 + 2 * k) i = mrd a (s + 26 + 2 * k) i := fun i => mxa (by omega)
  have yl : ∀ l i : Int, l < 12 → mrd (mx a b) (s + 13 + l) i = mrd a (s + 13 + l) i := fun l i hl => mxa (by omega)
  rw [yk] at u1
  have u3' : ∀ p : Nat, p < M → 0 ≤ mrd a (s + 26 + 2 * k) p ∧ mrd a (s + 26 + 2 * k) p < 12 ∧ mrd a (s + 13 + mrd a (s + 26 + 2 * k) p) 2 = vow (mrd a (s + 13 + mrd a (s + 26 + 2 * k) p) 1) := fun p hp => by
    obtain ⟨w1, w2, w3⟩ := u3 p hp
    rw [yn] at w1 w2 w3
    rw [yl _ _ w2, yl _ _ w2] at w3
    exact ⟨w1, w2, w3⟩
  have u4' : ∀ p : Nat, p < M → mrd a (s + 13 + mrd a (s + 26 + 2 * k) p) 1 = LT b k p := fun p hp => by
    have := u4 p hp
    rw [yn, yl _ _ (u3' p hp).2.1, LT_congr e4] at this
    exact this
  obtain ⟨a', z1, z2⟩ := x_isSaid (d := d) (w := -1) cs k0 (show k < 4 by omega) M u1 (by omega) u3'
  have hMC : MC b k := MC_congr (h := mx a b) (fun i => (e4 i).symm) (MC_of ds k0 d6)
  obtain ⟨b', y1, y2⟩ := m_saysName (d := d') (x := 0) hm hMC M hM
  have d8 := ds.2.2.2.1.1
  rw [mxa (by omega), e4] at d8
  have ek : kp (fun p => decide ((p : Int) = -1)) (fun p => mrd a (s + 13 + mrd a (s + 26 + 2 * k) p) 1) M = kp (fun p => bI 0 p) (fun p => LT b k p) M := kp_congr M (fun i _ => by rw [bI_0, decide_eq_false (by omega)]) u4'
  rw [ek, d8] at z1
  exact ⟨trivial, trivial, _, sdB_01 _ _, a', b', z1, y1, ⟨z2.1, z2.2.1⟩, ⟨y2.1, y2.2.1⟩⟩
set_option maxHeartbeats 1000000 in
theorem lv_deed (hB : BF a0 b0 s L g nc nl) (hA : RAge (mx a0 b0).1 g 0 nc nl) (h1 : mrd a0 g 6 = 1) (hS : Sim 0 1 a0 b0 s L a b) (p0 : 0 ≤ p) (p1 : p < mrd a0 g 7) (hk : mrd b 240 (130 + 9 * p) < 5) : ∃ a' b' r, (r = 0 ∨ r = 1) ∧ EV (d + 9) 20 0 [(2, L), (2, s), (0, p), (0, dp), (3, 0), (3, 0), (3, 0), (3, 0)] [] a = some ((3, 0), a') ∧ EV (d + 8) 316 0 [(2, 235), (0, 130 + 9 * p), (3, 0), (3, 0)] [] b = some ((0, r), b') ∧ Sim (1 - r) 1 a0 b0 s L a' b' ∧ mrd b' 235 48 = mrd b 235 48 := by
  obtain ⟨hp, hr, hm, cs, ds, kL, es, el, eg, eb⟩ := hS.sh hB
  obtain ⟨p30, s1, s2, s3, s4, s5, s6, s7, s8, s9, s10⟩ := hS.stp hB hA h1 p0 p1
  have bs := hB.bs
  have ks := cs.1
  obtain ⟨x1, x2⟩ := s3 (by omega)
  obtain ⟨x3, x4⟩ := s4 hk
  obtain ⟨gk, ⟨r0, r1, r2, r3, r4⟩, i1, i2, i3, i4, i5⟩ := ag_K hp hr hB.2.2.2.1.2.1 p0 p30
  have e4 : mrd a s 4 = g := (es 4).trans hB.2.2.2.1.1
  have rs2 := cs.2.2.2.1
  obtain ⟨k, hkk⟩ : ∃ k, k = mrd b 240 (131 + 9 * p) := ⟨_, rfl⟩
  rw [← hkk] at x1
  have k0 : 0 ≤ k := by omega
  have k1 : k < nc := by omega
  have k4 : k < 4 := by omega
  obtain ⟨t1, t2, t3, t4, t5, t6⟩ := cs.2.2.2.2.2.2.2.2.2.2.2.2 k k0 k4
  have w0 : w32 (130 + 9 * p + 1) = 131 + 9 * p := by rw [w32_id (by omega) (by omega)]; omega
  have w2 : w32 (130 + 9 * p + 2) = 132 + 9 * p := by rw [w32_id (by omega) (by omega)]; omega
  have c0 := inC hm (j := 130 + 9 * p) (by omega) (by omega)
  have c1 := inC hm (j := 131 + 9 * p) (by omega) (by omega)
  have c2 := inC hm (j := 132 + 9 * p) (by omega) (by omega)
  have hkk' := hkk.symm
  obtain ⟨K, hK⟩ : ∃ K, K = mrd b 240 (130 + 9 * p) := ⟨_, rfl⟩
  have hK' := hK.symm
  rw [← hK] at hk s5 s6 s7 s8 s9 x4
  rcases (show K = 0 ∨ K = 1 ∨ K = 2 ∨ K = 3 ∨ K = 4 by omega) with rfl | rfl | rfl | rfl | rfl
  · obtain ⟨v1, v2, v3⟩ := s7 rfl
    obtain ⟨a', b', r, r01, z1, z2, z3, z4⟩ := lv_learn (d := d + 5) (d' := d + 4) (l := mrd a (g + 3) p) hB hS k0 k1 (Or.inr ⟨v2, v3⟩)
    rw [v1] at z2
    have x4' : mrd a (g + 1) p = 11 := x4
    refine ⟨a', b', r, r01, ?_, ?_, z3, z4⟩
    · simp only [e20_0, e20_1, e20_4, e20_6, e20_7, e20_10, e20_12, e20_15, e20_16, e20_17, e20_18, e20_20, e20_22, e20_25, e20_26, e20_27, e20_29, e20_31, e20_34, e20_35, e20_36c0, e20_36c1, e20_36c2, e20_36c3, e20_36c4, e20_36c5, e20_36c6, e20_36c7, e20_36c8, e20_36c9, e20_36c10, e20_36c11, e20_36, e20_100, e20_101, e20_102, e20_104, e20_106, e20_109, e20_112, e20_113, e20_115, e20_117, e20_120, e20_123, e20_124, e20_125, e20_127, e20_130, e20_133, e20_135, e20_135i, e20_136, e20_139, e20_141, e20_142, e20_145, e20_148, e20_149, e20_149i, e20_150, e20_153, e20_155, e20_157, e20_160, e20_163, e20_164, e20_167, e20_168, e20_169, e20_172, e20_175, e20_176, e20_180, e20_182, e20_185, e20_186, e20_189, e20_192, e20_193, e20_194, e20_195, e20_196, e20_197, e20_199, e20_202, e20_203, e20_204, e20_205, e20_206, e20_207, e20_210, e20_213, e20_216, e20_219, e20_220, e20_221, e20_224, e20_227, e20_228, e20_230, e20_231, e20_234, e20_237, e20_238, e20_239, e20_240, e20_241, e20_242, e20_244, e20_247, e20_248, e20_249, e20_250, e20_251, e20_252, e20_255, psh0, psh1, psh3, true_or, or_true, eq_self, Option.bind_some, List.length_nil, List.length_cons, Nat.reduceAdd, Nat.reduceLeDiff, Nat.zero_le, ↓reduceIte, Int.reduceLT, Int.reduceEq, Int.reduceLE, Int.reduceNeg, Int.reduceAdd, Int.reduceMul, Int.reduceSub, ne_eq, not_true_eq_false, not_false_eq_true, and_true, true_and, and_false, false_and, c3lt, c3gt, c3eq, Bool.false_eq_true, isK_wr, inA_wr, inR_wr, ks, e4, rs2, gk, r0, r1, r2, i1, i2, i3, x1, t1, t2, x4', kL, z1]
    · simp only [e316_0, e316_1, e316_4, e316_5, e316_6, e316_7, e316_8, e316_11, e316_12, e316_13, e316_14, e316_15, e316_16, e316_17, e316_20, e316_21, e316_22, e316_23, e316_26, e316_27, e316_28, e316_29, e316_30, e316_33, e316_34, e316_35, e316_36, e316_39, e316_40, e316_41, e316_42, e316_45, e316_46, e316_47, e316_48, e316_49, e316_52, e316_53, e316_54, e316_55, e316_58, e316_59, e316_60, e316_63, e316_64, e316_65, e316_66, e316_69, e316_70, e316_71, e316_72, e316_75, e316_76, e316_77, e316_78, e316_79, e316_82, e316_83, e316_84, e316_87, e316_89, e316_90, e316_91, e316_92, e316_93, e316_94, e316_97, e316_98, e316_99, e316_100, e316_101, e316_102, e316_103, e316_104, psh0, psh1, psh3, true_or, or_true, eq_self, Option.bind_some, List.length_nil, List.length_cons, Nat.reduceAdd, Nat.reduceLeDiff, Nat.zero_le, ↓reduceIte, Int.reduceLT, Int.reduceEq, Int.reduceLE, Int.reduceNeg, Int.reduceAdd, Int.reduceMul, Int.reduceSub, ne_eq, not_true_eq_false, not_false_eq_true, and_true, true_and, and_false, false_and, c3lt, c3gt, c3eq, Bool.false_eq_true, isK_wr, inA_wr, inR_wr, hm.1, mC hm, c0, c1, c2, w0, w2, hK', hkk', z2, r01]
  · obtain ⟨v1, v2, v3⟩ := s8 rfl
    obtain ⟨a', b', r, r01, z1, z2, z3, z4⟩ := lv_lose (d := d + 5) (d' := d + 4) (p := mrd a (g + 3) p) hB hS k0 k1 v2
    rw [v1] at z2
    have x4' : mrd a (g + 1) p = 12 := x4
    refine ⟨a', b', r, r01, ?_, ?_, z3, z4⟩
    · simp only [e20_0, e20_1, e20_4, e20_6, e20_7, e20_10, e20_12, e20_15, e20_16, e20_17, e20_18, e20_20, e20_22, e20_25, e20_26, e20_27, e20_29, e20_31, e20_34, e20_35, e20_36c0, e20_36c1, e20_36c2, e20_36c3, e20_36c4, e20_36c5, e20_36c6, e20_36c7, e20_36c8, e20_36c9, e20_36c10, e20_36c11, e20_36, e20_100, e20_101, e20_102, e20_104, e20_106, e20_109, e20_112, e20_113, e20_115, e20_117, e20_120, e20_123, e20_124, e20_125, e20_127, e20_130, e20_133, e20_135, e20_135i, e20_136, e20_139, e20_141, e20_142, e20_145, e20_148, e20_149, e20_149i, e20_150, e20_153, e20_155, e20_157, e20_160, e20_163, e20_164, e20_167, e20_168, e20_169, e20_172, e20_175, e20_176, e20_180, e20_182, e20_185, e20_186, e20_189, e20_192, e20_193, e20_194, e20_195, e20_196, e20_197, e20_199, e20_202, e20_203, e20_204, e20_205, e20_206, e20_207, e20_210, e20_213, e20_216, e20_219, e20_220, e20_221, e20_224, e20_227, e20_228, e20_230, e20_231, e20_234, e20_237, e20_238, e20_239, e20_240, e20_241, e20_242, e20_244, e20_247, e20_248, e20_249, e20_250, e20_251, e20_252, e20_255, psh0, psh1, psh3, true_or, or_true, eq_self, Option.bind_some, List.length_nil, List.length_cons, Nat.reduceAdd, Nat.reduceLeDiff, Nat.zero_le, ↓reduceIte, Int.reduceLT, Int.reduceEq, Int.reduceLE, Int.reduceNeg, Int.reduceAdd, Int.reduceMul, Int.reduceSub, ne_eq, not_true_eq_false, not_false_eq_true, and_true, true_and, and_false, false_and, c3lt, c3gt, c3eq, Bool.false_eq_true, isK_wr, inA_wr, inR_wr, ks, e4, rs2, gk, r0, r1, r2, i1, i2, i3, x1, t1, t2, x4', kL, z1]
    · simp only [e316_0, e316_1, e316_4, e316_5, e316_6, e316_7, e316_8, e316_11, e316_12, e316_13, e316_14, e316_15, e316_16, e316_17, e316_20, e316_21, e316_22, e316_23, e316_26, e316_27, e316_28, e316_29, e316_30, e316_33, e316_34, e316_35, e316_36, e316_39, e316_40, e316_41, e316_42, e316_45, e316_46, e316_47, e316_48, e316_49, e316_52, e316_53, e316_54, e316_55, e316_58, e316_59, e316_60, e316_63, e316_64, e316_65, e316_66, e316_69, e316_70, e316_71, e316_72, e316_75, e316_76, e316_77, e316_78, e316_79, e316_82, e316_83, e316_84, e316_87, e316_89, e316_90, e316_91, e316_92, e316_93, e316_94, e316_97, e316_98, e316_99, e316_100, e316_101, e316_102, e316_103, e316_104, psh0, psh1, psh3, true_or, or_true, eq_self, Option.bind_some, List.length_nil, List.length_cons, Nat.reduceAdd, Nat.reduceLeDiff, Nat.zero_le, ↓reduceIte, Int.reduceLT, Int.reduceEq, Int.reduceLE, Int.reduceNeg, Int.reduceAdd, Int.reduceMul, Int.reduceSub, ne_eq, not_true_eq_false, not_false_eq_true, and_true, true_and, and_false, false_and, c3lt, c3gt, c3eq, Bool.false_eq_true, isK_wr, inA_wr, inR_wr, hm.1, mC hm, c0, c1, c2, w0, w2, hK', hkk', z2, r01]
  · obtain ⟨a', b', r, r01, z1, z2, z3, z4⟩ := lv_fate (d := d + 2) (d' := d + 1) hB hS k0 k1
    have x4' : mrd a (g + 1) p = 13 := x4
    refine ⟨a', b', r, r01, ?_, ?_, z3, z4⟩
    · simp only [e20_0, e20_1, e20_4, e20_6, e20_7, e20_10, e20_12, e20_15, e20_16, e20_17, e20_18, e20_20, e20_22, e20_25, e20_26, e20_27, e20_29, e20_31, e20_34, e20_35, e20_36c0, e20_36c1, e20_36c2, e20_36c3, e20_36c4, e20_36c5, e20_36c6, e20_36c7, e20_36c8, e20_36c9, e20_36c10, e20_36c11, e20_36, e20_100, e20_101, e20_102, e20_104, e20_106, e20_109, e20_112, e20_113, e20_115, e20_117, e20_120, e20_123, e20_124, e20_125, e20_127, e20_130, e20_133, e20_135, e20_135i, e20_136, e20_139, e20_141, e20_142, e20_145, e20_148, e20_149, e20_149i, e20_150, e20_153, e20_155, e20_157, e20_160, e20_163, e20_164, e20_167, e20_168, e20_169, e20_172, e20_175, e20_176, e20_180, e20_182, e20_185, e20_186, e20_189, e20_192, e20_193, e20_194, e20_195, e20_196, e20_197, e20_199, e20_202, e20_203, e20_204, e20_205, e20_206, e20_207, e20_210, e20_213, e20_216, e20_219, e20_220, e20_221, e20_224, e20_227, e20_228, e20_230, e20_231, e20_234, e20_237, e20_238, e20_239, e20_240, e20_241, e20_242, e20_244, e20_247, e20_248, e20_249, e20_250, e20_251, e20_252, e20_255, psh0, psh1, psh3, true_or, or_true, eq_self, Option.bind_some, List.length_nil, List.length_cons, Nat.reduceAdd, Nat.reduceLeDiff, Nat.zero_le, ↓reduceIte, Int.reduceLT, Int.reduceEq, Int.reduceLE, Int.reduceNeg, Int.reduceAdd, Int.reduceMul, Int.reduceSub, ne_eq, not_true_eq_false, not_false_eq_true, and_true, true_and, and_false, false_and, c3lt, c3gt, c3eq, Bool.false_eq_true, isK_wr, inA_wr, inR_wr, ks, e4, rs2, gk, r0, r1, r2, i1, i2, i3, x1, t1, t2, x4', kL, z1]
    · simp only [e316_0, e316_1, e316_4, e316_5, e316_6, e316_7, e316_8, e316_11, e316_12, e316_13, e316_14, e316_15, e316_16, e316_17, e316_20, e316_21, e316_22, e316_23, e316_26, e316_27, e316_28, e316_29, e316_30, e316_33, e316_34, e316_35, e316_36, e316_39, e316_40, e316_41, e316_42, e316_45, e316_46, e316_47, e316_48, e316_49, e316_52, e316_53, e316_54, e316_55, e316_58, e316_59, e316_60, e316_63, e316_64, e316_65, e316_66, e316_69, e316_70, e316_71, e316_72, e316_75, e316_76, e316_77, e316_78, e316_79, e316_82, e316_83, e316_84, e316_87, e316_89, e316_90, e316_91, e316_92, e316_93, e316_94, e316_97, e316_98, e316_99, e316_100, e316_101, e316_102, e316_103, e316_104, psh0, psh1, psh3, true_or, or_true, eq_self, Option.bind_some, List.length_nil, List.length_cons, Nat.reduceAdd, Nat.reduceLeDiff, Nat.zero_le, ↓reduceIte, Int.reduceLT, Int.reduceEq, Int.reduceLE, Int.reduceNeg, Int.reduceAdd, Int.reduceMul, Int.reduceSub, ne_eq, not_true_eq_false, not_false_eq_true, and_true, true_and, and_false, false_and, c3lt, c3gt, c3eq, Bool.false_eq_true, isK_wr, inA_wr, inR_wr, hm.1, mC hm, c0, c1, w0, hK', hkk', z2, r01]
  · obtain ⟨v1, v2, v3⟩ := s9 (Or.inl rfl)
    have x4' : mrd a (g + 1) p = 14 := x4
    have w7 : w32 (72 + k) = 72 + k := w32_id (by omega) (by omega)
    have c7 := inC hm (j := 72 + k) (by omega) (by omega)
    have hq := lv_rest hB hS k0 k1 (w32 (mrd a (s + 25 + 2 * k) 4 + mrd a (g + 3) p)) (w32 (mrd b 240 (72 + k) + mrd b 240 (132 + 9 * p))) (fun z => by rw [z, v1])
    refine ⟨_, _, 1, Or.inr rfl, ?_, ?_, hq, by rw [rdn1 (by decide)]⟩
    · simp only [e20_0, e20_1, e20_4, e20_6, e20_7, e20_10, e20_12, e20_15, e20_16, e20_17, e20_18, e20_20, e20_22, e20_25, e20_26, e20_27, e20_29, e20_31, e20_34, e20_35, e20_36c0, e20_36c1, e20_36c2, e20_36c3, e20_36c4, e20_36c5, e20_36c6, e20_36c7, e20_36c8, e20_36c9, e20_36c10, e20_36c11, e20_36, e20_100, e20_101, e20_102, e20_104, e20_106, e20_109, e20_112, e20_113, e20_115, e20_117, e20_120, e20_123, e20_124, e20_125, e20_127, e20_130, e20_133, e20_135, e20_135i, e20_136, e20_139, e20_141, e20_142, e20_145, e20_148, e20_149, e20_149i, e20_150, e20_153, e20_155, e20_157, e20_160, e20_163, e20_164, e20_167, e20_168, e20_169, e20_172, e20_175, e20_176, e20_180, e20_182, e20_185, e20_186, e20_189, e20_192, e20_193, e20_194, e20_195, e20_196, e20_197, e20_199, e20_202, e20_203, e20_204, e20_205, e20_206, e20_207, e20_210, e20_213, e20_216, e20_219, e20_220, e20_221, e20_224, e20_227, e20_228, e20_230, e20_231, e20_234, e20_237, e20_238, e20_239, e20_240, e20_241, e20_242, e20_244, e20_247, e20_248, e20_249, e20_250, e20_251, e20_252, e20_255, psh0, psh1, psh3, true_or, or_true, eq_self, Option.bind_some, List.length_nil, List.length_cons, Nat.reduceAdd, Nat.reduceLeDiff, Nat.zero_le, ↓reduceIte, Int.reduceLT, Int.reduceEq, Int.reduceLE, Int.reduceNeg, Int.reduceAdd, Int.reduceMul, Int.reduceSub, ne_eq, not_true_eq_false, not_false_eq_true, and_true, true_and, and_false, false_and, c3lt, c3gt, c3eq, Bool.false_eq_true, isK_wr, inA_wr, inR_wr, ks, e4, rs2, gk, r0, r1, r2, i1, i2, i3, x1, t1, t2, t3, x4']
    · simp only [e316_0, e316_1, e316_4, e316_5, e316_6, e316_7, e316_8, e316_11, e316_12, e316_13, e316_14, e316_15, e316_16, e316_17, e316_20, e316_21, e316_22, e316_23, e316_26, e316_27, e316_28, e316_29, e316_30, e316_33, e316_34, e316_35, e316_36, e316_39, e316_40, e316_41, e316_42, e316_45, e316_46, e316_47, e316_48, e316_49, e316_52, e316_53, e316_54, e316_55, e316_58, e316_59, e316_60, e316_63, e316_64, e316_65, e316_66, e316_69, e316_70, e316_71, e316_72, e316_75, e316_76, e316_77, e316_78, e316_79, e316_82, e316_83, e316_84, e316_87, e316_89, e316_90, e316_91, e316_92, e316_93, e316_94, e316_97, e316_98, e316_99, e316_100, e316_101, e316_102, e316_103, e316_104, psh0, psh1, psh3, true_or, or_true, eq_self, Option.bind_some, List.length_nil, List.length_cons, Nat.reduceAdd, Nat.reduceLeDiff, Nat.zero_le, ↓reduceIte, Int.reduceLT, Int.reduceEq, Int.reduceLE, Int.reduceNeg, Int.reduceAdd, Int.reduceMul, Int.reduceSub, ne_eq, not_true_eq_false, not_false_eq_true, and_true, true_and, and_false, false_and, c3lt, c3gt, c3eq, Bool.false_eq_true, isK_wr, inA_wr, inR_wr, hm.1, mC hm, c0, c1, c2, c7, w0, w2, w7, hK', hkk']
  · obtain ⟨v1, v2, v3⟩ := s9 (Or.inr rfl)
    have x4' : mrd a (g + 1) p = 15 := x4
    obtain ⟨-, -, q3, -⟩ := hS.chi hB k0 k1
    have ge := x_earn (d := d + 8) (v := mrd a (g + 3) p) t3 (by omega) (by omega) v2 v3
    have gp := m_pays (d := d + 7) (k := k) (v := mrd b 240 (132 + 9 * p)) hm k0 k4 q3.2.1 q3.2.2 (by omega) (by omega)
    have lv := hS.2.2.2
    rw [q3.1, v1] at ge
    have w2' := hS.w2
    by_cases cp : 9999 < mrd b 240 (68 + k) + mrd b 240 (132 + 9 * p)
    · rw [if_pos cp] at ge gp
      refine ⟨_, b, 0, Or.inl rfl, ?_, ?_, lv_miss hB hS, rfl⟩
      · simp only [e20_0, e20_1, e20_4, e20_6, e20_7, e20_10, e20_12, e20_15, e20_16, e20_17, e20_18, e20_20, e20_22, e20_25, e20_26, e20_27, e20_29, e20_31, e20_34, e20_35, e20_36c0, e20_36c1, e20_36c2, e20_36c3, e20_36c4, e20_36c5, e20_36c6, e20_36c7, e20_36c8, e20_36c9, e20_36c10, e20_36c11, e20_36, e20_100, e20_101, e20_102, e20_104, e20_106, e20_109, e20_112, e20_113, e20_115, e20_117, e20_120, e20_123, e20_124, e20_125, e20_127, e20_130, e20_133, e20_135, e20_135i, e20_136, e20_139, e20_141, e20_142, e20_145, e20_148, e20_149, e20_149i, e20_150, e20_153, e20_155, e20_157, e20_160, e20_163, e20_164, e20_167, e20_168, e20_169, e20_172, e20_175, e20_176, e20_180, e20_182, e20_185, e20_186, e20_189, e20_192, e20_193, e20_194, e20_195, e20_196, e20_197, e20_199, e20_202, e20_203, e20_204, e20_205, e20_206, e20_207, e20_210, e20_213, e20_216, e20_219, e20_220, e20_221, e20_224, e20_227, e20_228, e20_230, e20_231, e20_234, e20_237, e20_238, e20_239, e20_240, e20_241, e20_242, e20_244, e20_247, e20_248, e20_249, e20_250, e20_251, e20_252, e20_255, psh0, psh1, psh3, true_or, or_true, eq_self, Option.bind_some, List.length_nil, List.length_cons, Nat.reduceAdd, Nat.reduceLeDiff, Nat.zero_le, ↓reduceIte, Int.reduceLT, Int.reduceEq, Int.reduceLE, Int.reduceNeg, Int.reduceAdd, Int.reduceMul, Int.reduceSub, ne_eq, not_true_eq_false, not_false_eq_true, and_true, true_and, and_false, false_and, c3lt, c3gt, c3eq, Bool.false_eq_true, isK_wr, inA_wr, inR_wr, ks, e4, rs2, gk, r0, r1, r2, i1, i2, i3, x1, t1, t2, t3, x4', v1, kL, ge, w2']
      · simp only [e316_0, e316_1, e316_4, e316_5, e316_6, e316_7, e316_8, e316_11, e316_12, e316_13, e316_14, e316_15, e316_16, e316_17, e316_20, e316_21, e316_22, e316_23, e316_26, e316_27, e316_28, e316_29, e316_30, e316_33, e316_34, e316_35, e316_36, e316_39, e316_40, e316_41, e316_42, e316_45, e316_46, e316_47, e316_48, e316_49, e316_52, e316_53, e316_54, e316_55, e316_58, e316_59, e316_60, e316_63, e316_64, e316_65, e316_66, e316_69, e316_70, e316_71, e316_72, e316_75, e316_76, e316_77, e316_78, e316_79, e316_82, e316_83, e316_84, e316_87, e316_89, e316_90, e316_91, e316_92, e316_93, e316_94, e316_97, e316_98, e316_99, e316_100, e316_101, e316_102, e316_103, e316_104, psh0, psh1, psh3, true_or, or_true, eq_self, Option.bind_some, List.length_nil, List.length_cons, Nat.reduceAdd, Nat.reduceLeDiff, Nat.zero_le, ↓reduceIte, Int.reduceLT, Int.reduceEq, Int.reduceLE, Int.reduceNeg, Int.reduceAdd, Int.reduceMul, Int.reduceSub, ne_eq, not_true_eq_false, not_false_eq_true, and_true, true_and, and_false, false_and, c3lt, c3gt, c3eq, Bool.false_eq_true, isK_wr, inA_wr, inR_wr, hm.1, mC hm, c0, c1, c2, w0, w2, hK', hkk', gp]
    · rw [if_neg cp] at ge gp
      have hq := lv_purse (v := mrd b 240 (68 + k) + mrd b 240 (132 + 9 * p)) hB hS k0 k1 (by omega) (by omega)
      obtain ⟨a1, ha1⟩ : ∃ a1, a1 = mwr a (s + 25 + 2 * k) 3 (mrd b 240 (68 + k) + mrd b 240 (132 + 9 * p)) := ⟨_, rfl⟩
      have e2 : mrd a1 L 2 = mrd a L 2 := by rw [ha1, rd_wr, if_neg (by omega)]
      have kL1 : isK a1 L 3 := by rw [ha1]; exact kL
      have w02 : w32 (mrd a L 2 + 0) = mrd a L 2 := by
        have := lv.2.1
        have := lv.1
        rw [w32_id (by omega) (by omega)]; omega
      rw [← ha1] at ge hq
      have hq2 : Sim 0 1 a0 b0 s L (mwr a1 L 2 (mrd a L 2)) (mwr b 240 (68 + k) (mrd b 240 (68 + k) + mrd b 240 (132 + 9 * p))) := by
        refine hq.same hB (FNa.rf.wr (by decide) (by decide)) FNb.rf (hq.2.2.2.cg (fun i _ _ => ?_) (fun i _ _ => rfl))
        rw [rd_wr]
        split
        · rename_i z
          rw [z.2, e2]
        · rfl
      refine ⟨_, _, 1, Or.inr rfl, ?_, ?_, hq2, by rw [rdn1 (by decide)]⟩
      · simp only [e20_0, e20_1, e20_4, e20_6, e20_7, e20_10, e20_12, e20_15, e20_16, e20_17, e20_18, e20_20, e20_22, e20_25, e20_26, e20_27, e20_29, e20_31, e20_34, e20_35, e20_36c0, e20_36c1, e20_36c2, e20_36c3, e20_36c4, e20_36c5, e20_36c6, e20_36c7, e20_36c8, e20_36c9, e20_36c10, e20_36c11, e20_36, e20_100, e20_101, e20_102, e20_104, e20_106, e20_109, e20_112, e20_113, e20_115, e20_117, e20_120, e20_123, e20_124, e20_125, e20_127, e20_130, e20_133, e20_135, e20_135i, e20_136, e20_139, e20_141, e20_142, e20_145, e20_148, e20_149, e20_149i, e20_150, e20_153, e20_155, e20_157, e20_160, e20_163, e20_164, e20_167, e20_168, e20_169, e20_172, e20_175, e20_176, e20_180, e20_182, e20_185, e20_186, e20_189, e20_192, e20_193, e20_194, e20_195, e20_196, e20_197, e20_199, e20_202, e20_203, e20_204, e20_205, e20_206, e20_207, e20_210, e20_213, e20_216, e20_219, e20_220, e20_221, e20_224, e20_227, e20_228, e20_230, e20_231, e20_234, e20_237, e20_238, e20_239, e20_240, e20_241, e20_242, e20_244, e20_247, e20_248, e20_249, e20_250, e20_251, e20_252, e20_255, psh0, psh1, psh3, true_or, or_true, eq_self, Option.bind_some, List.length_nil, List.length_cons, Nat.reduceAdd, Nat.reduceLeDiff, Nat.zero_le, ↓reduceIte, Int.reduceLT, Int.reduceEq, Int.reduceLE, Int.reduceNeg, Int.reduceAdd, Int.reduceMul, Int.reduceSub, ne_eq, not_true_eq_false, not_false_eq_true, and_true, true_and, and_false, false_and, c3lt, c3gt, c3eq, Bool.false_eq_true, isK_wr, inA_wr, inR_wr, ks, e4, rs2, gk, r0, r1, r2, i1, i2, i3, x1, t1, t2, t3, x4', v1, kL, ge, kL1, w02]
      · simp only [e316_0, e316_1, e316_4, e316_5, e316_6, e316_7, e316_8, e316_11, e316_12, e316_13, e316_14, e316_15, e316_16, e316_17, e316_20, e316_21, e316_22, e316_23, e316_26, e316_27, e316_28, e316_29, e316_30, e316_33, e316_34, e316_35, e316_36, e316_39, e316_40, e316_41, e316_42, e316_45, e316_46, e316_47, e316_48, e316_49, e316_52, e316_53, e316_54, e316_55, e316_58, e316_59, e316_60, e316_63, e316_64, e316_65, e316_66, e316_69, e316_70, e316_71, e316_72, e316_75, e316_76, e316_77, e316_78, e316_79, e316_82, e316_83, e316_84, e316_87, e316_89, e316_90, e316_91, e316_92, e316_93, e316_94, e316_97, e316_98, e316_99, e316_100, e316_101, e316_102, e316_103, e316_104, psh0, psh1, psh3, true_or, or_true, eq_self, Option.bind_some, List.length_nil, List.length_cons, Nat.reduceAdd, Nat.reduceLeDiff, Nat.zero_le, ↓reduceIte, Int.reduceLT, Int.reduceEq, Int.reduceLE, Int.reduceNeg, Int.reduceAdd, Int.reduceMul, Int.reduceSub, ne_eq, not_true_eq_false, not_false_eq_true, and_true, true_and, and_false, false_and, c3lt, c3gt, c3eq, Bool.false_eq_true, isK_wr, inA_wr, inR_wr, hm.1, mC hm, c0, c1, c2, w0, w2, hK', hkk', gp]
theorem x_compares {v w : Int} : EV d 22 0 [(0, v), (0, x), (0, w)] [] a = some ((0, if x = 60 then (if v < w then 1 else 0) else if x = 62 then (if w < v then 1 else 0) else if v = w then 1 else 0), a) := by
  by_cases c1 : x = 60
  · rw [if_pos c1]
    by_cases c2 : v < w
    · simp only [e22_0, e22_1, e22_3, e22_6, e22_7, e22_8, e22_11, e22_12, e22_15, e22_16, e22_17, e22_18, e22_20, e22_23, e22_24, e22_25, e22_28, e22_29, e22_32, e22_33, e22_36, e22_37, e22_38, e22_41, e22_42, e22_45, e22_46, psh0, psh1, psh3, true_or, or_true, eq_self, Option.bind_some, List.length_nil, List.length_cons, Nat.reduceAdd, Nat.reduceLeDiff, Nat.zero_le, ↓reduceIte, Int.reduceLT, Int.reduceEq, Int.reduceLE, Int.reduceNeg, Int.reduceAdd, Int.reduceMul, Int.reduceSub, ne_eq, not_true_eq_false, not_false_eq_true, and_true, true_and, and_false, false_and, c3lt, c3gt, c3eq, Bool.false_eq_true, isK_wr, inA_wr, inR_wr, c1, c2]
    · simp only [e22_0, e22_1, e22_3, e22_6, e22_7, e22_8, e22_11, e22_12, e22_15, e22_16, e22_17, e22_18, e22_20, e22_23, e22_24, e22_25, e22_28, e22_29, e22_32, e22_33, e22_36, e22_37, e22_38, e22_41, e22_42, e22_45, e22_46, psh0, psh1, psh3, true_or, or_true, eq_self, Option.bind_some, List.length_nil, List.length_cons, Nat.reduceAdd, Nat.reduceLeDiff, Nat.zero_le, ↓reduceIte, Int.reduceLT, Int.reduceEq, Int.reduceLE, Int.reduceNeg, Int.reduceAdd, Int.reduceMul, Int.reduceSub, ne_eq, not_true_eq_false, not_false_eq_true, and_true, true_and, and_false, false_and, c3lt, c3gt, c3eq, Bool.false_eq_true, isK_wr, inA_wr, inR_wr, c1, c2]
  · rw [if_neg c1]
    by_cases c2 : x = 62
    · rw [if_pos c2]
      by_cases c3 : w < v
      · simp only [e22_0, e22_1, e22_3, e22_6, e22_7, e22_8, e22_11, e22_12, e22_15, e22_16, e22_17, e22_18, e22_20, e22_23, e22_24, e22_25, e22_28, e22_29, e22_32, e22_33, e22_36, e22_37, e22_38, e22_41, e22_42, e22_45, e22_46, psh0, psh1, psh3, true_or, or_true, eq_self, Option.bind_some, List.length_nil, List.length_cons, Nat.reduceAdd, Nat.reduceLeDiff, Nat.zero_le, ↓reduceIte, Int.reduceLT, Int.reduceEq, Int.reduceLE, Int.reduceNeg, Int.reduceAdd, Int.reduceMul, Int.reduceSub, ne_eq, not_true_eq_false, not_false_eq_true, and_true, true_and, and_false, false_and, c3lt, c3gt, c3eq, Bool.false_eq_true, isK_wr, inA_wr, inR_wr, c1, c2, c3]
      · simp only [e22_0, e22_1, e22_3, e22_6, e22_7, e22_8, e22_11, e22_12, e22_15, e22_16, e22_17, e22_18, e22_20, e22_23, e22_24, e22_25, e22_28, e22_29, e22_32, e22_33, e22_36, e22_37, e22_38, e22_41, e22_42, e22_45, e22_46, psh0, psh1, psh3, true_or, or_true, eq_self, Option.bind_some, List.length_nil, List.length_cons, Nat.reduceAdd, Nat.reduceLeDiff, Nat.zero_le, ↓reduceIte, Int.reduceLT, Int.reduceEq, Int.reduceLE, Int.reduceNeg, Int.reduceAdd, Int.reduceMul, Int.reduceSub, ne_eq, not_true_eq_false, not_false_eq_true, and_true, true_and, and_false, false_and, c3lt, c3gt, c3eq, Bool.false_eq_true, isK_wr, inA_wr, inR_wr, c1, c2, c3]
    · rw [if_neg c2]
      by_cases c3 : v = w
      · simp only [e22_0, e22_1, e22_3, e22_6, e22_7, e22_8, e22_11, e22_12, e22_15, e22_16, e22_17, e22_18, e22_20, e22_23, e22_24, e22_25, e22_28, e22_29, e22_32, e22_33, e22_36, e22_37, e22_38, e22_41, e22_42, e22_45, e22_46, psh0, psh1, psh3, true_or, or_true, eq_self, Option.bind_some, List.length_nil, List.length_cons, Nat.reduceAdd, Nat.reduceLeDiff, Nat.zero_le, ↓reduceIte, Int.reduceLT, Int.reduceEq, Int.reduceLE, Int.reduceNeg, Int.reduceAdd, Int.reduceMul, Int.reduceSub, ne_eq, not_true_eq_false, not_false_eq_true, and_true, true_and, and_false, false_and, c3lt, c3gt, c3eq, Bool.false_eq_true, isK_wr, inA_wr, inR_wr, c1, c2, c3]
      · simp only [e22_0, e22_1, e22_3, e22_6, e22_7, e22_8, e22_11, e22_12, e22_15, e22_16, e22_17, e22_18, e22_20, e22_23, e22_24, e22_25, e22_28, e22_29, e22_32, e22_33, e22_36, e22_37, e22_38, e22_41, e22_42, e22_45, e22_46, psh0, psh1, psh3, true_or, or_true, eq_self, Option.bind_some, List.length_nil, List.length_cons, Nat.reduceAdd, Nat.reduceLeDiff, Nat.zero_le, ↓reduceIte, Int.reduceLT, Int.reduceEq, Int.reduceLE, Int.reduceNeg, Int.reduceAdd, Int.reduceMul, Int.reduceSub, ne_eq, not_true_eq_false, not_false_eq_true, and_true, true_and, and_false, false_and, c3lt, c3gt, c3eq, Bool.false_eq_true, isK_wr, inA_wr, inR_wr, c1, c2, c3]
set_option maxHeartbeats 1000000 in
theorem lv_test (hB : BF a0 b0 s L g nc nl) (hA : RAge (mx a0 b0).1 g 0 nc nl) (h1 : mrd a0 g 6 = 1) (hS : Sim e c a0 b0 s L a b) (p0 : 0 ≤ p) (p1 : p < mrd a0 g 7) (hk : mrd b 240 (130 + 9 * p) = 5) : ∃ a' b' r, (r = 0 ∨ r = 1) ∧ EV (d + 8) 21 0 [(2, s), (2, s + 25 + 2 * mrd a (g + 2) p), (0, p), (3, 0)] [] a = some ((0, r), a') ∧ EV (d + 8) 317 0 [(2, 235), (0, 130 + 9 * p), (3, 0), (3, 0), (3, 0)] [] b = some ((0, r), b') ∧ Sim e c a0 b0 s L a' b' := by
  obtain ⟨hp, hr, hm, cs, ds, kL, es, el, eg, eb⟩ := hS.sh hB
  obtain ⟨p30, s1, s2, s3, s4, s5, s6, s7⟩ := hS.stp hB hA h1 p0 p1
  have bs := hB.bs
  have ks := cs.1
  obtain ⟨x1, x2⟩ := s3 (by omega)
  obtain ⟨x3, x4, x5, x6, x7⟩ := s7.2.2.2.1 hk
  obtain ⟨gk, ⟨r0, r1, r2, r3, r4⟩, i1, i2, i3, i4, i5⟩ := ag_K hp hr hB.2.2.2.1.2.1 p0 p30
  have e4 : mrd a s 4 = g := (es 4).trans hB.2.2.2.1.1
  obtain ⟨k, hkk⟩ : ∃ k, k = mrd b 240 (131 + 9 * p) := ⟨_, rfl⟩
  rw [← hkk] at x1
  rw [x1]
  have k0 : 0 ≤ k := by omega
  have k1 : k < nc := by omega
  have k4 : k < 4 := by omega
  have hkk' := hkk.symm
  obtain ⟨⟨N0, N12, n4, M1, M2, A6, A7⟩, q2, q3, q6, q5, q4⟩ := hS.chi hB k0 k1
  obtain ⟨t1, t2, t3, t4, t5, t6⟩ := cs.2.2.2.2.2.2.2.2.2.2.2.2 k k0 k4
  have w0 : w32 (130 + 9 * p + 1) = 131 + 9 * p := by rw [w32_id (by omega) (by omega)]; omega
  have w2 : w32 (130 + 9 * p + 2) = 132 + 9 * p := by rw [w32_id (by omega) (by omega)]; omega
  have w6 : w32 (130 + 9 * p + 6) = 136 + 9 * p := by rw [w32_id (by omega) (by omega)]; omega
  have w7 : w32 (130 + 9 * p + 7) = 137 + 9 * p := by rw [w32_id (by omega) (by omega)]; omega
  have c1 := inC hm (j := 131 + 9 * p) (by omega) (by omega)
  have c2 := inC hm (j := 132 + 9 * p) (by omega) (by omega)
  have c6 := inC hm (j := 136 + 9 * p) (by omega) (by omega)
  have c7 := inC hm (j := 137 + 9 * p) (by omega) (by omega)
  obtain ⟨T, hT⟩ : ∃ T, T = mrd b 240 (136 + 9 * p) := ⟨_, rfl⟩
  have hT' := hT.symm
  rw [← hT] at x3 x4 x5 x6 x7
  rcases (show T = 0 ∨ T = 1 ∨ T = 2 by omega) with rfl | rfl | rfl
  · obtain ⟨y1, y2, y3, y4⟩ := x6 rfl
    have x3' : mrd a (g + 1) p = 17 := x3
    have ge := m_lengthOf (d := d + 7) hm k0 k4
    have gc := x_compares (d := d + 7) (a := a) (x := mrd b 240 (137 + 9 * p)) (v := mrd b 240 (76 + k)) (w := mrd b 240 (132 + 9 * p))
    have y1' := y1
    have y2' := y2
    by_cases c60 : mrd b 240 (137 + 9 * p) = 60
    · rw [if_pos c60] at gc
      by_cases cc : mrd b 240 (76 + k) < mrd b 240 (132 + 9 * p)
      · rw [if_pos cc] at gc
        refine ⟨a, b, 1, Or.inr rfl, ?_, ?_, hS⟩
        · simp only [e21_0, e21_1, e21_4, e21_7, e21_8, e21_9, e21_10, e21_11, e21_14, e21_17, e21_18, e21_19c0, e21_19c1, e21_19, e21_44, e21_45, e21_48, e21_49, e21_52, e21_55, e21_56, e21_57, e21_58, e21_61, e21_62, e21_63, e21_64, e21_65, e21_68, e21_69, e21_70, e21_73, e21_74, e21_75, e21_76, e21_77, e21_80, e21_81, e21_84, e21_85, psh0, psh1, psh3, true_or, or_true, eq_self, Option.bind_some, List.length_nil, List.length_cons, Nat.reduceAdd, Nat.reduceLeDiff, Nat.zero_le, ↓reduceIte, Int.reduceLT, Int.reduceEq, Int.reduceLE, Int.reduceNeg, Int.reduceAdd, Int.reduceMul, Int.reduceSub, ne_eq, not_true_eq_false, not_false_eq_true, and_true, true_and, and_false, false_and, c3lt, c3gt, c3eq, Bool.false_eq_true, isK_wr, inA_wr, inR_wr, ks, e4, gk, r0, r2, r3, i1, i3, i4, x3', t3, q6.1, y1', y2', gc]
        · simp only [e317_0, e317_1, e317_4, e317_5, e317_7, e317_8, e317_9, e317_10, e317_11, e317_14, e317_15, e317_16, e317_17, e317_18, e317_19, e317_20, e317_21, e317_24, e317_25, e317_26, e317_27, e317_30, e317_31, e317_32, e317_33, e317_36, e317_37, e317_38, e317_41, e317_42, e317_45, e317_46, e317_47, e317_48, e317_49, e317_52, e317_53, e317_54, e317_55, e317_58, e317_60, e317_61, e317_64, e317_65, e317_67, e317_68, e317_69, e317_71, e317_74, e317_76, e317_77, e317_80, e317_81, e317_82, e317_83, e317_84, e317_87, e317_88, e317_91, e317_92, e317_95, e317_96, e317_99, e317_100, e317_102, e317_103, e317_104, e317_106, e317_109, e317_111, e317_112, e317_115, e317_116, e317_117, e317_118, e317_119, e317_122, e317_123, e317_126, e317_127, e317_130, e317_132, e317_133, e317_136, e317_137, e317_138, e317_139, e317_140, e317_143, e317_144, e317_147, e317_148, psh0, psh1, psh3, true_or, or_true, eq_self, Option.bind_some, List.length_nil, List.length_cons, Nat.reduceAdd, Nat.reduceLeDiff, Nat.zero_le, ↓reduceIte, Int.reduceLT, Int.reduceEq, Int.reduceLE, Int.reduceNeg, Int.reduceAdd, Int.reduceMul, Int.reduceSub, ne_eq, not_true_eq_false, not_false_eq_true, and_true, true_and, and_false, false_and, c3lt, c3gt, c3eq, Bool.false_eq_true, isK_wr, inA_wr, inR_wr, hm.1, mC hm, c1, c2, c6, c7, w0, w2, w6, w7, hT', hkk', ge, c60, cc]
      · rw [if_neg cc] at gc
        refine ⟨a, b, 0, Or.inl rfl, ?_, ?_, hS⟩
        · simp only [e21_0, e21_1, e21_4, e21_7, e21_8, e21_9, e21_10, e21_11, e21_14, e21_17, e21_18, e21_19c0, e21_19c1, e21_19, e21_44, e21_45, e21_48, e21_49, e21_52, e21_55, e21_56, e21_57, e21_58, e21_61, e21_62, e21_63, e21_64, e21_65, e21_68, e21_69, e21_70, e21_73, e21_74, e21_75, e21_76, e21_77, e21_80, e21_81, e21_84, e21_85, psh0, psh1, psh3, true_or, or_true, eq_self, Option.bind_some, List.length_nil, List.length_cons, Nat.reduceAdd, Nat.reduceLeDiff, Nat.zero_le, ↓reduceIte, Int.reduceLT, Int.reduceEq, Int.reduceLE, Int.reduceNeg, Int.reduceAdd, Int.reduceMul, Int.reduceSub, ne_eq, not_true_eq_false, not_false_eq_true, and_true, true_and, and_false, false_and, c3lt, c3gt, c3eq, Bool.false_eq_true, isK_wr, inA_wr, inR_wr, ks, e4, gk, r0, r2, r3, i1, i3, i4, x3', t3, q6.1, y1', y2', gc]
        · simp only [e317_0, e317_1, e317_4, e317_5, e317_7, e317_8, e317_9, e317_10, e317_11, e317_14, e317_15, e317_16, e317_17, e317_18, e317_19, e317_20, e317_21, e317_24, e317_25, e317_26, e317_27, e317_30, e317_31, e317_32, e317_33, e317_36, e317_37, e317_38, e317_41, e317_42, e317_45, e317_46, e317_47, e317_48, e317_49, e317_52, e317_53, e317_54, e317_55, e317_58, e317_60, e317_61, e317_64, e317_65, e317_67, e317_68, e317_69, e317_71, e317_74, e317_76, e317_77, e317_80, e317_81, e317_82, e317_83, e317_84, e317_87, e317_88, e317_91, e317_92, e317_95, e317_96, e317_99, e317_100, e317_102, e317_103, e317_104, e317_106, e317_109, e317_111, e317_112, e317_115, e317_116, e317_117, e317_118, e317_119, e317_122, e317_123, e317_126, e317_127, e317_130, e317_132, e317_133, e317_136, e317_137, e317_138, e317_139, e317_140, e317_143, e317_144, e317_147, e317_148, psh0, psh1, psh3, true_or, or_true, eq_self, Option.bind_some, List.length_nil, List.length_cons, Nat.reduceAdd, Nat.reduceLeDiff, Nat.zero_le, ↓reduceIte, Int.reduceLT, Int.reduceEq, Int.reduceLE, Int.reduceNeg, Int.reduceAdd, Int.reduceMul, Int.reduceSub, ne_eq, not_true_eq_false, not_false_eq_true, and_true, true_and, and_false, false_and, c3lt, c3gt, c3eq, Bool.false_eq_true, isK_wr, inA_wr, inR_wr, hm.1, mC hm, c1, c2, c6, c7, w0, w2, w6, w7, hT', hkk', ge, c60, cc]
    · rw [if_neg c60] at gc
      by_cases c62 : mrd b 240 (137 + 9 * p) = 62
      · rw [if_pos c62] at gc
        by_cases cc : mrd b 240 (132 + 9 * p) < mrd b 240 (76 + k)
        · rw [if_pos cc] at gc
          refine ⟨a, b, 1, Or.inr rfl, ?_, ?_, hS⟩
          · simp only [e21_0, e21_1, e21_4, e21_7, e21_8, e21_9, e21_10, e21_11, e21_14, e21_17, e21_18, e21_19c0, e21_19c1, e21_19, e21_44, e21_45, e21_48, e21_49, e21_52, e21_55, e21_56, e21_57, e21_58, e21_61, e21_62, e21_63, e21_64, e21_65, e21_68, e21_69, e21_70, e21_73, e21_74, e21_75, e21_76, e21_77, e21_80, e21_81, e21_84, e21_85, psh0, psh1, psh3, true_or, or_true, eq_self, Option.bind_some, List.length_nil, List.length_cons, Nat.reduceAdd, Nat.reduceLeDiff, Nat.zero_le, ↓reduceIte, Int.reduceLT, Int.reduceEq, Int.reduceLE, Int.reduceNeg, Int.reduceAdd, Int.reduceMul, Int.reduceSub, ne_eq, not_true_eq_false, not_false_eq_true, and_true, true_and, and_false, false_and, c3lt, c3gt, c3eq, Bool.false_eq_true, isK_wr, inA_wr, inR_wr, ks, e4, gk, r0, r2, r3, i1, i3, i4, x3', t3, q6.1, y1', y2', gc]
          · simp only [e317_0, e317_1, e317_4, e317_5, e317_7, e317_8, e317_9, e317_10, e317_11, e317_14, e317_15, e317_16, e317_17, e317_18, e317_19, e317_20, e317_21, e317_24, e317_25, e317_26, e317_27, e317_30, e317_31, e317_32, e317_33, e317_36, e317_37, e317_38, e317_41, e317_42, e317_45, e317_46, e317_47, e317_48, e317_49, e317_52, e317_53, e317_54, e317_55, e317_58, e317_60, e317_61, e317_64, e317_65, e317_67, e317_68, e317_69, e317_71, e317_74, e317_76, e317_77, e317_80, e317_81, e317_82, e317_83, e317_84, e317_87, e317_88, e317_91, e317_92, e317_95, e317_96, e317_99, e317_100, e317_102, e317_103, e317_104, e317_106, e317_109, e317_111, e317_112, e317_115, e317_116, e317_117, e317_118, e317_119, e317_122, e317_123, e317_126, e317_127, e317_130, e317_132, e317_133, e317_136, e317_137, e317_138, e317_139, e317_140, e317_143, e317_144, e317_147, e317_148, psh0, psh1, psh3, true_or, or_true, eq_self, Option.bind_some, List.length_nil, List.length_cons, Nat.reduceAdd, Nat.reduceLeDiff, Nat.zero_le, ↓reduceIte, Int.reduceLT, Int.reduceEq, Int.reduceLE, Int.reduceNeg, Int.reduceAdd, Int.reduceMul, Int.reduceSub, ne_eq, not_true_eq_false, not_false_eq_true, and_true, true_and, and_false, false_and, c3lt, c3gt, c3eq, Bool.false_eq_true, isK_wr, inA_wr, inR_wr, hm.1, mC hm, c1, c2, c6, c7, w0, w2, w6, w7, hT', hkk', ge, c62, cc]
        · rw [if_neg cc] at gc
          refine ⟨a, b, 0, Or.inl rfl, ?_, ?_, hS⟩
          · simp only [e21_0, e21_1, e21_4, e21_7, e21_8, e21_9, e21_10, e21_11, e21_14, e21_17, e21_18, e21_19c0, e21_19c1, e21_19, e21_44, e21_45, e21_48, e21_49, e21_52, e21_55, e21_56, e21_57, e21_58, e21_61, e21_62, e21_63, e21_64, e21_65, e21_68, e21_69, e21_70, e21_73, e21_74, e21_75, e21_76, e21_77, e21_80, e21_81, e21_84, e21_85, psh0, psh1, psh3, true_or, or_true, eq_self, Option.bind_some, List.length_nil, List.length_cons, Nat.reduceAdd, Nat.reduceLeDiff, Nat.zero_le, ↓reduceIte, Int.reduceLT, Int.reduceEq, Int.reduceLE, Int.reduceNeg, Int.reduceAdd, Int.reduceMul, Int.reduceSub, ne_eq, not_true_eq_false, not_false_eq_true, and_true, true_and, and_false, false_and, c3lt, c3gt, c3eq, Bool.false_eq_true, isK_wr, inA_wr, inR_wr, ks, e4, gk, r0, r2, r3, i1, i3, i4, x3', t3, q6.1, y1', y2', gc]
          · simp only [e317_0, e317_1, e317_4, e317_5, e317_7, e317_8, e317_9, e317_10, e317_11, e317_14, e317_15, e317_16, e317_17, e317_18, e317_19, e317_20, e317_21, e317_24, e317_25, e317_26, e317_27, e317_30, e317_31, e317_32, e317_33, e317_36, e317_37, e317_38, e317_41, e317_42, e317_45, e317_46, e317_47, e317_48, e317_49, e317_52, e317_53, e317_54, e317_55, e317_58, e317_60, e317_61, e317_64, e317_65, e317_67, e317_68, e317_69, e317_71, e317_74, e317_76, e317_77, e317_80, e317_81, e317_82, e317_83, e317_84, e317_87, e317_88, e317_91, e317_92, e317_95, e317_96, e317_99, e317_100, e317_102, e317_103, e317_104, e317_106, e317_109, e317_111, e317_112, e317_115, e317_116, e317_117, e317_118, e317_119, e317_122, e317_123, e317_126, e317_127, e317_130, e317_132, e317_133, e317_136, e317_137, e317_138, e317_139, e317_140, e317_143, e317_144, e317_147, e317_148, psh0, psh1, psh3, true_or, or_true, eq_self, Option.bind_some, List.length_nil, List.length_cons, Nat.reduceAdd, Nat.reduceLeDiff, Nat.zero_le, ↓reduceIte, Int.reduceLT, Int.reduceEq, Int.reduceLE, Int.reduceNeg, Int.reduceAdd, Int.reduceMul, Int.reduceSub, ne_eq, not_true_eq_false, not_false_eq_true, and_true, true_and, and_false, false_and, c3lt, c3gt, c3eq, Bool.false_eq_true, isK_wr, inA_wr, inR_wr, hm.1, mC hm, c1, c2, c6, c7, w0, w2, w6, w7, hT', hkk', ge, c62, cc]
      · rw [if_neg c62] at gc
        by_cases cc : mrd b 240 (76 + k) = mrd b 240 (132 + 9 * p)
        · rw [if_pos cc] at gc
          refine ⟨a, b, 1, Or.inr rfl, ?_, ?_, hS⟩
          · simp only [e21_0, e21_1, e21_4, e21_7, e21_8, e21_9, e21_10, e21_11, e21_14, e21_17, e21_18, e21_19c0, e21_19c1, e21_19, e21_44, e21_45, e21_48, e21_49, e21_52, e21_55, e21_56, e21_57, e21_58, e21_61, e21_62, e21_63, e21_64, e21_65, e21_68, e21_69, e21_70, e21_73, e21_74, e21_75, e21_76, e21_77, e21_80, e21_81, e21_84, e21_85, psh0, psh1, psh3, true_or, or_true, eq_self, Option.bind_some, List.length_nil, List.length_cons, Nat.reduceAdd, Nat.reduceLeDiff, Nat.zero_le, ↓reduceIte, Int.reduceLT, Int.reduceEq, Int.reduceLE, Int.reduceNeg, Int.reduceAdd, Int.reduceMul, Int.reduceSub, ne_eq, not_true_eq_false, not_false_eq_true, and_true, true_and, and_false, false_and, c3lt, c3gt, c3eq, Bool.false_eq_true, isK_wr, inA_wr, inR_wr, ks, e4, gk, r0, r2, r3, i1, i3, i4, x3', t3, q6.1, y1', y2', gc]
          · simp only [e317_0, e317_1, e317_4, e317_5, e317_7, e317_8, e317_9, e317_10, e317_11, e317_14, e317_15, e317_16, e317_17, e317_18, e317_19, e317_20, e317_21, e317_24, e317_25, e317_26, e317_27, e317_30, e317_31, e317_32, e317_33, e317_36, e317_37, e317_38, e317_41, e317_42, e317_45, e317_46, e317_47, e317_48, e317_49, e317_52, e317_53, e317_54, e317_55, e317_58, e317_60, e317_61, e317_64, e317_65, e317_67, e317_68, e317_69, e317_71, e317_74, e317_76, e317_77, e317_80, e317_81, e317_82, e317_83, e317_84, e317_87, e317_88, e317_91, e317_92, e317_95, e317_96, e317_99, e317_100, e317_102, e317_103, e317_104, e317_106, e317_109, e317_111, e317_112, e317_115, e317_116, e317_117, e317_118, e317_119, e317_122, e317_123, e317_126, e317_127, e317_130, e317_132, e317_133, e317_136, e317_137, e317_138, e317_139, e317_140, e317_143, e317_144, e317_147, e317_148, psh0, psh1, psh3, true_or, or_true, eq_self, Option.bind_some, List.length_nil, List.length_cons, Nat.reduceAdd, Nat.reduceLeDiff, Nat.zero_le, ↓reduceIte, Int.reduceLT, Int.reduceEq, Int.reduceLE, Int.reduceNeg, Int.reduceAdd, Int.reduceMul, Int.reduceSub, ne_eq, not_true_eq_false, not_false_eq_true, and_true, true_and, and_false, false_and, c3lt, c3gt, c3eq, Bool.false_eq_true, isK_wr, inA_wr, inR_wr, hm.1, mC hm, c1, c2, c6, c7, w0, w2, w6, w7, hT', hkk', ge, c60, c62, cc]
        · rw [if_neg cc] at gc
          refine ⟨a, b, 0, Or.inl rfl, ?_, ?_, hS⟩
          · simp only [e21_0, e21_1, e21_4, e21_7, e21_8, e21_9, e21_10, e21_11, e21_14, e21_17, e21_18, e21_19c0, e21_19c1, e21_19, e21_44, e21_45, e21_48, e21_49, e21_52, e21_55, e21_56, e21_57, e21_58, e21_61, e21_62, e21_63, e21_64, e21_65, e21_68, e21_69, e21_70, e21_73, e21_74, e21_75, e21_76, e21_77, e21_80, e21_81, e21_84, e21_85, psh0, psh1, psh3, true_or, or_true, eq_self, Option.bind_some, List.length_nil, List.length_cons, Nat.reduceAdd, Nat.reduceLeDiff, Nat.zero_le, ↓reduceIte, Int.reduceLT, Int.reduceEq, Int.reduceLE, Int.reduceNeg, Int.reduceAdd, Int.reduceMul, Int.reduceSub, ne_eq, not_true_eq_false, not_false_eq_true, and_true, true_and, and_false, false_and, c3lt, c3gt, c3eq, Bool.false_eq_true, isK_wr, inA_wr, inR_wr, ks, e4, gk, r0, r2, r3, i1, i3, i4, x3', t3, q6.1, y1', y2', gc]
          · simp only [e317_0, e317_1, e317_4, e317_5, e317_7, e317_8, e317_9, e317_10, e317_11, e317_14, e317_15, e317_16, e317_17, e317_18, e317_19, e317_20, e317_21, e317_24, e317_25, e317_26, e317_27, e317_30, e317_31, e317_32, e317_33, e317_36, e317_37, e317_38, e317_41, e317_42, e317_45, e317_46, e317_47, e317_48, e317_49, e317_52, e317_53, e317_54, e317_55, e317_58, e317_60, e317_61, e317_64, e317_65, e317_67, e317_68, e317_69, e317_71, e317_74, e317_76, e317_77, e317_80, e317_81, e317_82, e317_83, e317_84, e317_87, e317_88, e317_91, e317_92, e317_95, e317_96, e317_99, e317_100, e317_102, e317_103, e317_104, e317_106, e317_109, e317_111, e317_112, e317_115, e317_116, e317_117, e317_118, e317_119, e317_122, e317_123, e317_126, e317_127, e317_130, e317_132, e317_133, e317_136, e317_137, e317_138, e317_139, e317_140, e317_143, e317_144, e317_147, e317_148, psh0, psh1, psh3, true_or, or_true, eq_self, Option.bind_some, List.length_nil, List.length_cons, Nat.reduceAdd, Nat.reduceLeDiff, Nat.zero_le, ↓reduceIte, Int.reduceLT, Int.reduceEq, Int.reduceLE, Int.reduceNeg, Int.reduceAdd, Int.reduceMul, Int.reduceSub, ne_eq, not_true_eq_false, not_false_eq_true, and_true, true_and, and_false, false_and, c3lt, c3gt, c3eq, Bool.false_eq_true, isK_wr, inA_wr, inR_wr, hm.1, mC hm, c1, c2, c6, c7, w0, w2, w6, w7, hT', hkk', ge, c60, c62, cc]
  · have x3' : mrd a (g + 1) p = 18 := x3
    obtain ⟨M, hM⟩ := Int.eq_ofNat_of_zero_le q6.2.1
    obtain ⟨y1, y2, y3⟩ := said_both (d := d + 6) (d' := d + 4) hB hS k0 k1
    obtain ⟨r, r01, a', b', z1, z2, z3, z4⟩ := y3
    refine ⟨a', b', r, r01, ?_, ?_, hS.same hB (FNa.rf.vx z3) (FNb.rf.vm z4) (hS.2.2.2.cg (fun i _ _ => z3.2 _ _ (by omega) (by omega)) (fun i _ _ => z4.2 _ _ (by decide) (by omega)))⟩
    · simp only [e21_0, e21_1, e21_4, e21_7, e21_8, e21_9, e21_10, e21_11, e21_14, e21_17, e21_18, e21_19c0, e21_19c1, e21_19, e21_44, e21_45, e21_48, e21_49, e21_52, e21_55, e21_56, e21_57, e21_58, e21_61, e21_62, e21_63, e21_64, e21_65, e21_68, e21_69, e21_70, e21_73, e21_74, e21_75, e21_76, e21_77, e21_80, e21_81, e21_84, e21_85, psh0, psh1, psh3, true_or, or_true, eq_self, Option.bind_some, List.length_nil, List.length_cons, Nat.reduceAdd, Nat.reduceLeDiff, Nat.zero_le, ↓reduceIte, Int.reduceLT, Int.reduceEq, Int.reduceLE, Int.reduceNeg, Int.reduceAdd, Int.reduceMul, Int.reduceSub, ne_eq, not_true_eq_false, not_false_eq_true, and_true, true_and, and_false, false_and, c3lt, c3gt, c3eq, Bool.false_eq_true, isK_wr, inA_wr, inR_wr, ks, e4, gk, r0, r2, i1, i3, x3', z1, r01]
    · simp only [e317_0, e317_1, e317_4, e317_5, e317_7, e317_8, e317_9, e317_10, e317_11, e317_14, e317_15, e317_16, e317_17, e317_18, e317_19, e317_20, e317_21, e317_24, e317_25, e317_26, e317_27, e317_30, e317_31, e317_32, e317_33, e317_36, e317_37, e317_38, e317_41, e317_42, e317_45, e317_46, e317_47, e317_48, e317_49, e317_52, e317_53, e317_54, e317_55, e317_58, e317_60, e317_61, e317_64, e317_65, e317_67, e317_68, e317_69, e317_71, e317_74, e317_76, e317_77, e317_80, e317_81, e317_82, e317_83, e317_84, e317_87, e317_88, e317_91, e317_92, e317_95, e317_96, e317_99, e317_100, e317_102, e317_103, e317_104, e317_106, e317_109, e317_111, e317_112, e317_115, e317_116, e317_117, e317_118, e317_119, e317_122, e317_123, e317_126, e317_127, e317_130, e317_132, e317_133, e317_136, e317_137, e317_138, e317_139, e317_140, e317_143, e317_144, e317_147, e317_148, psh0, psh1, psh3, true_or, or_true, eq_self, Option.bind_some, List.length_nil, List.length_cons, Nat.reduceAdd, Nat.reduceLeDiff, Nat.zero_le, ↓reduceIte, Int.reduceLT, Int.reduceEq, Int.reduceLE, Int.reduceNeg, Int.reduceAdd, Int.reduceMul, Int.reduceSub, ne_eq, not_true_eq_false, not_false_eq_true, and_true, true_and, and_false, false_and, c3lt, c3gt, c3eq, Bool.false_eq_true, isK_wr, inA_wr, inR_wr, hm.1, mC hm, c1, c6, w0, w6, hT', hkk', z2, r01]
  · obtain ⟨y1, y2, y3⟩ := x7 rfl
    have x3' : mrd a (g + 1) p = 19 := x3
    have gk2 := m_knownOf (d := d + 6) hm k0 k4 q6.2.1 q6.2.2
    rw [← q5] at gk2
    have l12 : mrd b 240 (132 + 9 * p) < 12 := by omega
    have l0 : 0 ≤ mrd b 240 (132 + 9 * p) := by omega
    have gh := m_has (d := d + 7) (h := b) (x := mrd a (s + 25 + 2 * k) 5) (l := mrd b 240 (132 + 9 * p)) l0 (by omega)
    have hb := and1_0 (x := mrd a (s + 25 + 2 * k) 5) (l := mrd b 240 (132 + 9 * p)) l0 (by omega)
    by_cases hx : bI (mrd a (s + 25 + 2 * k) 5) (mrd b 240 (132 + 9 * p)).toNat = true
    · have hz : ¬ i_and (mrd a (s + 25 + 2 * k) 5) (i_shl 1 (mrd b 240 (132 + 9 * p))) = 0 := fun z => by have := hb.mp z; rw [hx] at this; cases this
      rw [if_pos hx] at gh
      refine ⟨a, b, 1, Or.inr rfl, ?_, ?_, hS⟩
      · simp only [e21_0, e21_1, e21_4, e21_7, e21_8, e21_9, e21_10, e21_11, e21_14, e21_17, e21_18, e21_19c0, e21_19c1, e21_19, e21_44, e21_45, e21_48, e21_49, e21_52, e21_55, e21_56, e21_57, e21_58, e21_61, e21_62, e21_63, e21_64, e21_65, e21_68, e21_69, e21_70, e21_73, e21_74, e21_75, e21_76, e21_77, e21_80, e21_81, e21_84, e21_85, psh0, psh1, psh3, true_or, or_true, eq_self, Option.bind_some, List.length_nil, List.length_cons, Nat.reduceAdd, Nat.reduceLeDiff, Nat.zero_le, ↓reduceIte, Int.reduceLT, Int.reduceEq, Int.reduceLE, Int.reduceNeg, Int.reduceAdd, Int.reduceMul, Int.reduceSub, ne_eq, not_true_eq_false, not_false_eq_true, and_true, true_and, and_false, false_and, c3lt, c3gt, c3eq, Bool.false_eq_true, isK_wr, inA_wr, inR_wr, ks, e4, gk, r0, r2, i1, i3, x3', t3, y1, hz]
      · simp only [e317_0, e317_1, e317_4, e317_5, e317_7, e317_8, e317_9, e317_10, e317_11, e317_14, e317_15, e317_16, e317_17, e317_18, e317_19, e317_20, e317_21, e317_24, e317_25, e317_26, e317_27, e317_30, e317_31, e317_32, e317_33, e317_36, e317_37, e317_38, e317_41, e317_42, e317_45, e317_46, e317_47, e317_48, e317_49, e317_52, e317_53, e317_54, e317_55, e317_58, e317_60, e317_61, e317_64, e317_65, e317_67, e317_68, e317_69, e317_71, e317_74, e317_76, e317_77, e317_80, e317_81, e317_82, e317_83, e317_84, e317_87, e317_88, e317_91, e317_92, e317_95, e317_96, e317_99, e317_100, e317_102, e317_103, e317_104, e317_106, e317_109, e317_111, e317_112, e317_115, e317_116, e317_117, e317_118, e317_119, e317_122, e317_123, e317_126, e317_127, e317_130, e317_132, e317_133, e317_136, e317_137, e317_138, e317_139, e317_140, e317_143, e317_144, e317_147, e317_148, psh0, psh1, psh3, true_or, or_true, eq_self, Option.bind_some, List.length_nil, List.length_cons, Nat.reduceAdd, Nat.reduceLeDiff, Nat.zero_le, ↓reduceIte, Int.reduceLT, Int.reduceEq, Int.reduceLE, Int.reduceNeg, Int.reduceAdd, Int.reduceMul, Int.reduceSub, ne_eq, not_true_eq_false, not_false_eq_true, and_true, true_and, and_false, false_and, c3lt, c3gt, c3eq, Bool.false_eq_true, isK_wr, inA_wr, inR_wr, hm.1, mC hm, c1, c2, c6, w0, w2, w6, hT', hkk', gk2, gh]
    · have hz : i_and (mrd a (s + 25 + 2 * k) 5) (i_shl 1 (mrd b 240 (132 + 9 * p))) = 0 := hb.mpr (by simpa using hx)
      rw [if_neg hx] at gh
      refine ⟨a, b, 0, Or.inl rfl, ?_, ?_, hS⟩
      · simp only [e21_0, e21_1, e21_4, e21_7, e21_8, e21_9, e21_10, e21_11, e21_14, e21_17, e21_18, e21_19c0, e21_19c1, e21_19, e21_44, e21_45, e21_48, e21_49, e21_52, e21_55, e21_56, e21_57, e21_58, e21_61, e21_62, e21_63, e21_64, e21_65, e21_68, e21_69, e21_70, e21_73, e21_74, e21_75, e21_76, e21_77, e21_80, e21_81, e21_84, e21_85, psh0, psh1, psh3, true_or, or_true, eq_self, Option.bind_some, List.length_nil, List.length_cons, Nat.reduceAdd, Nat.reduceLeDiff, Nat.zero_le, ↓reduceIte, Int.reduceLT, Int.reduceEq, Int.reduceLE, Int.reduceNeg, Int.reduceAdd, Int.reduceMul, Int.reduceSub, ne_eq, not_true_eq_false, not_false_eq_true, and_true, true_and, and_false, false_and, c3lt, c3gt, c3eq, Bool.false_eq_true, isK_wr, inA_wr, inR_wr, ks, e4, gk, r0, r2, i1, i3, x3', t3, y1, hz]
      · simp only [e317_0, e317_1, e317_4, e317_5, e317_7, e317_8, e317_9, e317_10, e317_11, e317_14, e317_15, e317_16, e317_17, e317_18, e317_19, e317_20, e317_21, e317_24, e317_25, e317_26, e317_27, e317_30, e317_31, e317_32, e317_33, e317_36, e317_37, e317_38, e317_41, e317_42, e317_45, e317_46, e317_47, e317_48, e317_49, e317_52, e317_53, e317_54, e317_55, e317_58, e317_60, e317_61, e317_64, e317_65, e317_67, e317_68, e317_69, e317_71, e317_74, e317_76, e317_77, e317_80, e317_81, e317_82, e317_83, e317_84, e317_87, e317_88, e317_91, e317_92, e317_95, e317_96, e317_99, e317_100, e317_102, e317_103, e317_104, e317_106, e317_109, e317_111, e317_112, e317_115, e317_116, e317_117, e317_118, e317_119, e317_122, e317_123, e317_126, e317_127, e317_130, e317_132, e317_133, e317_136, e317_137, e317_138, e317_139, e317_140, e317_143, e317_144, e317_147, e317_148, psh0, psh1, psh3, true_or, or_true, eq_self, Option.bind_some, List.length_nil, List.length_cons, Nat.reduceAdd, Nat.reduceLeDiff, Nat.zero_le, ↓reduceIte, Int.reduceLT, Int.reduceEq, Int.reduceLE, Int.reduceNeg, Int.reduceAdd, Int.reduceMul, Int.reduceSub, ne_eq, not_true_eq_false, not_false_eq_true, and_true, true_and, and_false, false_and, c3lt, c3gt, c3eq, Bool.false_eq_true, isK_wr, inA_wr, inR_wr, hm.1, mC hm, c1, c2, c6, w0, w2, w6, hT', hkk', gk2, gh]
end

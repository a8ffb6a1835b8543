/-! a lesson, its first half: letter, days, costs -/
/-- the class's frame of one object; the reference's of one lesson -/
def Ob (o : Int) (a a' : AM) : Prop := a'.2 = a.2 ∧ ∀ x i, ¬ (x = 110 ∧ 4 ≤ i ∧ i ≤ 10) → x ≠ o → mrd a' x i = mrd a x i
def LK (k i : Int) : Prop := i = 1644 + k ∨ i = 1656 + k ∨ i = 1668 + k ∨ i = 1680 + k ∨ i = 1692 + k
def OM (k : Int) (b b' : AM) : Prop := b'.2 = b.2 ∧ ∀ x i, ¬ (x = 235 ∧ 12 ≤ i ∧ i ≤ 19) → ¬ (x = 240 ∧ LK k i) → mrd b' x i = mrd b x i
section
variable {d d' N : Nat} {a a' a1 b b' b1 : AM} {D k o : Int}
theorem AX.ox (h : AX a a') : Ob o a a' := ⟨h.1, fun x i hx _ => h.2 x i hx⟩
theorem NX.om (h : NX b b') : OM k b b' := ⟨h.1, fun x i hx _ => h.2 x i hx⟩
theorem NC.om {c : Int} (h : NC b b' c) (hc : LK k c) : OM k b b' := ⟨h.1, fun x i hx hn => h.2 x i hx (fun z => hn ⟨z.1, by rw [z.2]; exact hc⟩)⟩
theorem Ob.tr (h : Ob o a a1) (h2 : Ob o a1 a') : Ob o a a' := ⟨h2.1.trans h.1, fun x i hx ho => (h2.2 x i hx ho).trans (h.2 x i hx ho)⟩
theorem OM.tr (h : OM k b b1) (h2 : OM k b1 b') : OM k b b' := ⟨h2.1.trans h.1, fun x i hx ho => (h2.2 x i hx ho).trans (h.2 x i hx ho)⟩
theorem Ob.wr {i v : Int} (h : Ob o a a') : Ob o a (mwr a' o i v) := ⟨h.1, fun x j hx ho => by rw [rdn1 ho]; exact h.2 x j hx ho⟩
theorem OM.wr {i v : Int} (h : OM k b b') (hi : LK k i) : OM k b (mwr b' 240 i v) := ⟨h.1, fun x j hx ho => by rw [rd_wr, if_neg (fun z => ho ⟨z.1, by rw [z.2]; exact hi⟩)]; exact h.2 x j hx ho⟩
theorem Ob.dx (h : Ob o a a') (h0 : D + 13 ≤ o) (h1 : o ≤ D + 24) : DX D a a' := ⟨h.1, fun x i hx => h.2 x i (fun z => hx (Or.inl z)) (fun z => hx (Or.inr (Or.inr (Or.inr (Or.inl ⟨by omega, by omega⟩)))))⟩
theorem LK.ge {i : Int} (h : LK k i) (k0 : 0 ≤ k) : 1644 ≤ i := by unfold LK at h; omega
theorem OM.dm (h : OM k b b') (k0 : 0 ≤ k) : DM b b' := ⟨h.1, fun x i hx => h.2 x i (fun z => hx (Or.inl ⟨z.1, Or.inl z.2⟩)) (fun z => hx (Or.inr (Or.inl ⟨z.1, by have := z.2.ge k0; omega⟩)))⟩
/-- QQ over a write into the lesson, and into its cells -/
theorem QQ.wo {i v : Int} (q : QQ N a b) (hD : HD D) (h0 : D + 13 ≤ o) (h1 : o ≤ D + 24) (on : o ≠ 110) : QQ N (mwr a o i v) b :=
  q.xm hD ((Ob.wr (⟨rfl, fun _ _ _ _ => rfl⟩ : Ob o a a)).dx h0 h1) (fun j => rdn1 (fun z => on z.symm)) (⟨rfl, fun _ _ _ => rfl⟩ : DM b b) (fun _ _ => rfl)
theorem QQ.wc {i v : Int} (q : QQ N a b) (hi : 1640 ≤ i) : QQ N a (mwr b 240 i v) :=
  q.xm (Or.inl rfl) (⟨rfl, fun _ _ _ => rfl⟩ : DX 162 a a) (fun _ => rfl) (DM.wr ⟨rfl, fun _ _ _ => rfl⟩ (Or.inr (Or.inl ⟨rfl, hi⟩))) (fun j _ => rdn1 (by decide))
theorem lk_rng {p : Int} (hx : RDM b N) (p0 : 0 ≤ p) : 0 ≤ lkF (mrd b 239) N p ∧ lkF (mrd b 239) N p ≤ 255 := by
  unfold lkF
  by_cases c : p < N
  · have := hx.2.2.2 p p0 c
    rw [if_pos c]
    split <;> omega
  · rw [if_neg c]; omega
set_option maxHeartbeats 1000000 in
theorem sl_1 (q : QQ N a b) (h9 : mrd a 110 9 = 0) (hD : HD D) (k0 : 0 ≤ k) (k1 : k < 12) (ho : o = D + 13 + k) : ∃ a' b', EV (d + 4) 54 44 [(2, D), (2, 110), (2, o)] [] a = EV (d + 4) 54 84 [(2, D), (2, 110), (2, o)] [] a' ∧ EV (d' + 4) 231 56 [(2, 235), (0, k)] [] b = EV (d' + 4) 231 184 [(2, 235), (0, k)] [] b' ∧ Ob o a a' ∧ OM k b b' ∧ QQ N a' b' ∧ mrd a' o 0 = mrd a o 0 ∧ mrd a' o 5 = -1 ∧ mrd b' 240 (1680 + k) = -1 ∧ mrd b' 240 (1692 + k) = 0 ∧
    (mrd a' 110 9 = 0 → mrd b 235 15 ≤ mrd b' 235 15 ∧ (mrd a' o 1 = mrd b' 240 (1644 + k) ∧ 1 ≤ mrd a' o 1 ∧ mrd a' o 1 ≤ 26) ∧ mrd a' o 2 = vow (mrd a' o 1) ∧ (mrd a' o 3 = mrd b' 240 (1656 + k) ∧ 1 ≤ mrd a' o 3 ∧ mrd a' o 3 ≤ 30) ∧ ((mrd b 240 (1668 + k) = 0 → mrd a' o 4 = mrd b' 240 (1668 + k)) ∧ 0 ≤ mrd a' o 4 ∧ mrd a' o 4 ≤ 99)) := by
  have D1 : 162 ≤ D := by unfold HD at hD; omega
  have D2 : D < 200 := by unfold HD at hD; omega
  have o0 : D + 13 ≤ o := by omega
  have o1 : o ≤ D + 24 := by omega
  have on : o ≠ 110 := by omega
  have c44 : LK k (1644 + k) := Or.inl rfl
  have c56 : LK k (1656 + k) := Or.inr (Or.inl rfl)
  have c68 : LK k (1668 + k) := Or.inr (Or.inr (Or.inl rfl))
  have c80 : LK k (1680 + k) := Or.inr (Or.inr (Or.inr (Or.inl rfl)))
  have c92 : LK k (1692 + k) := Or.inr (Or.inr (Or.inr (Or.inr rfl)))
  have KO : ∀ {g h : AM}, QQ N g h → isK g o 2 := fun {g h} qq => by
    have cs : CS g D := CS_of qq.1.1 qq.1.2.1 (S6_cur hD)
    have := (cs.2.2.2.2.2.2.2.2.2.2.2.1 k k0 k1).2.2
    rw [← ho] at this; exact this
  have t2 := (q.tg h9).2.1
  -- letter
  have gl := m_look2 (d := d' + 3) (p := mrd b 235 15) q.2.1 t2.2.1
  have rl := lk_rng (p := mrd b 235 15) q.2.1 t2.2.1
  obtain ⟨V, hV⟩ : ∃ V, V = lkF (mrd b 239) N (mrd b 235 15) := ⟨_, rfl⟩
  rw [← hV] at gl rl
  obtain ⟨b0, hb0⟩ : ∃ b0, b0 = mwr b 240 (1644 + k) (V - 96) := ⟨_, rfl⟩
  have q0 : QQ N a b0 := by rw [hb0]; exact q.wc (by omega)
  have f0 : ∀ j, mrd b0 235 j = mrd b 235 j := fun j => by rw [hb0, rdn1 (by decide)]
  obtain ⟨u, a1, b1, p1, p2, ⟨p3, p4, p5, p6, p7⟩, p8, p9⟩ := pl_both (d := d + 1) (d' := d' + 1) q0
  rw [f0 14, f0 18, hb0] at p2
  have m1 := m_rLc (d := d' + 3) q.2.1.1 k0 k1 gl rl p2
  have x1 := x_rLc (d := d + 3) (D := D) q.k p1 (KO p5)
  obtain ⟨a2, ha2⟩ : ∃ a2, a2 = mwr (mwr a1 o 1 u) o 2 (vow u) := ⟨_, rfl⟩
  rw [← ha2] at x1
  have q2 : QQ N a2 b1 := by rw [ha2]; exact (p5.wo hD o0 o1 on).wo hD o0 o1 on
  -- takes
  obtain ⟨a3, b2, r1, r2, ⟨r3, r4, r5, r6, r7⟩⟩ := pw_both (d := d + 1) (d' := d' + 1) (k := 3) q2 (by decide)
  have m2 := m_rLd (d := d' + 2) (k := k) q2.km r2
  have x2 := x_rLd (d := d + 3) (D := D) (o := o) q2.k r1
  -- days
  obtain ⟨v, v', a4, b3, s1, s2, ⟨s3, s4, s5, s6, s7⟩, s8, s9, s10⟩ := pn_both (d := d + 1) (d' := d' + 1) (lo := 1) (hi := 30) r5 (by decide) (by decide)
  have m3 := m_rLe (d := d' + 3) r5.2.1.1 k0 k1 s2 s5.2.1.1
  have x3 := x_rLe (d := d + 3) (D := D) r5.k s1 (KO s5)
  obtain ⟨a5, ha5⟩ : ∃ a5, a5 = mwr a4 o 3 v := ⟨_, rfl⟩
  obtain ⟨b4, hb4⟩ : ∃ b4, b4 = mwr (mwr (mwr b3 240 (1656 + k) v') 240 (1680 + k) (-1)) 240 (1692 + k) 0 := ⟨_, rfl⟩
  rw [← ha5] at x3
  rw [← hb4] at m3
  have q5 : QQ N a5 b4 := by rw [ha5, hb4]; exact (((s5.wo hD o0 o1 on).wc (by omega)).wc (by omega)).wc (by omega)
  have f4 : ∀ j, mrd b4 235 j = mrd b3 235 j := fun j => by rw [hb4, rdn1 (by decide), rdn1 (by decide), rdn1 (by decide)]
  -- costs
  obtain ⟨v4, a6, b5, t1, t3, t4, t5, t6, t7, t8⟩ := per_both (d := d) (d' := d' + 1) (k := 4) (hi := 99) (c := 1668 + k) q5 (by decide) (by decide) (by omega)
  have m4 := m_rLf (d := d' + 2) q5.2.1.1 k0 k1 t8
  clear t8
  have x4 := x_rLf (d := d + 3) (D := D) q5.k t1 (KO t5)
  obtain ⟨a7, ha7⟩ : ∃ a7, a7 = mwr (mwr a6 o 4 v4) o 5 (-1) := ⟨_, rfl⟩
  rw [← ha7] at x4
  have q7 : QQ N a7 b5 := by rw [ha7]; exact (t5.wo hD o0 o1 on).wo hD o0 o1 on
  have r7' : mrd a7 110 9 = mrd a6 110 9 := by rw [ha7, rdn1 (fun z => on z.symm), rdn1 (fun z => on z.symm)]
  have A6 : ∀ i, mrd a6 o i = mrd a5 o i := fun i => t3.2 _ _ (fun z => on z.1)
  have A4 : ∀ i, mrd a4 o i = mrd a2 o i := fun i => (s3.2 _ _ (fun z => on z.1)).trans (r3.2 _ _ (fun z => on z.1))
  have A1 : ∀ i, mrd a1 o i = mrd a o i := fun i => p3.2 _ _ (fun z => on z.1)
  have B5 : ∀ i, i ≠ 1668 + k → mrd b5 240 i = mrd b4 240 i := fun i hi => t4.2 _ _ (fun z => absurd z.1 (by decide)) (fun z => hi z.2)
  have B3 : ∀ i, mrd b3 240 i = mrd b1 240 i := fun i => (s4.2 _ _ (fun z => absurd z.1 (by decide))).trans (r4.2 _ _ (fun z => absurd z.1 (by decide)))
  have B1 : ∀ i, mrd b1 240 i = mrd b0 240 i := fun i => p4.2 _ _ (fun z => absurd z.1 (by decide))
  have ox : Ob o a a7 := by
    have e1 : Ob o a a2 := by rw [ha2]; exact (p3.ox).wr.wr
    have e2 : Ob o a a5 := by rw [ha5]; exact ((e1.tr r3.ox).tr s3.ox).wr
    rw [ha7]; exact (e2.tr t3.ox).wr.wr
  have om : OM k b b5 := by
    have e0 : OM k b b0 := by rw [hb0]; exact OM.wr ⟨rfl, fun _ _ _ _ => rfl⟩ c44
    have e1 : OM k b b4 := by rw [hb4]; exact ((((e0.tr p4.om).tr r4.om).tr s4.om).wr c56 |>.wr c80).wr c92
    exact e1.tr (t4.om c68)
  refine ⟨a7, b5, x1.trans (x2.trans (x3.trans x4)), m1.trans (m2.trans (m3.trans m4)), ox, om, q7, ?_, by rw [ha7, rde], ?_, ?_, fun z => ?_⟩
  · rw [ha7, rdn2 (by decide), rdn2 (by decide), A6, ha5, rdn2 (by decide), A4, ha2, rdn2 (by decide), rdn2 (by decide), A1]
  · rw [B5 _ (by omega), hb4, rdn2 (by omega), rde]
  · rw [B5 _ (by omega), hb4, rde]
  rw [r7'] at z
  obtain ⟨z1, z2, z3⟩ := t7 z
  have z4 : mrd a4 110 9 = 0 := by rw [← z1, ha5, rdn1 (fun z => on z.symm)]
  have z5 := s6 z4
  have z6 := r6 z5.1
  have z7 : mrd a1 110 9 = 0 := by rw [← z6.1, ha2, rdn1 (fun z => on z.symm), rdn1 (fun z => on z.symm)]
  have z8 := p6 z7
  obtain ⟨w1, w2, w3⟩ := p9 z7
  rw [f0] at w1 w3 z8
  rw [f4] at z2
  have eT : mrd b0 239 (mrd b 235 15) = mrd b 239 (mrd b 235 15) := by rw [hb0, rdn1 (by decide)]
  rw [eT] at w1
  have eV : V - 96 = u := by
    rw [hV, lkF, if_pos w3, if_neg (by omega)]; exact w1.symm
  have E1 : mrd a7 o 1 = u := by rw [ha7, rdn2 (by decide), rdn2 (by decide), A6, ha5, rdn2 (by decide), A4, ha2, rdn2 (by decide), rde]
  have E2 : mrd a7 o 2 = vow u := by rw [ha7, rdn2 (by decide), rdn2 (by decide), A6, ha5, rdn2 (by decide), A4, ha2, rde]
  have E3 : mrd a7 o 3 = v := by rw [ha7, rdn2 (by decide), rdn2 (by decide), A6, ha5, rde]
  have E4 : mrd a7 o 4 = v4 := by rw [ha7, rdn2 (by decide), rde]
  have F1 : mrd b5 240 (1644 + k) = u := by rw [B5 _ (by omega), hb4, rdn2 (by omega), rdn2 (by omega), rdn2 (by omega), B3, B1, hb0, rde]; exact eV
  have F3 : mrd b5 240 (1656 + k) = v' := by rw [B5 _ (by omega), hb4, rdn2 (by omega), rdn2 (by omega), rde]
  have F4 : mrd b4 240 (1668 + k) = mrd b 240 (1668 + k) := by rw [hb4, rdn2 (by omega), rdn2 (by omega), rdn2 (by omega), B3, B1, hb0, rdn2 (by omega)]
  rw [E1, E2, E3, E4, F1, F3, s10 z4]
  refine ⟨?_, ⟨rfl, w2, p8.2⟩, rfl, ⟨rfl, s8.1, s8.2⟩, ⟨fun y => ?_, t6.1, t6.2⟩⟩
  · have := z6.2; have := z5.2; have := z8.2; omega
  · exact (z3 (by rw [F4]; exact y)).symm
end

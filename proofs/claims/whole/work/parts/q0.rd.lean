/-! a lesson: with a fault; and the late fault of needs -/
/-- the class has blamed a token that the reference has still before it, in plain words -/
def Lt2 (N : Nat) (a b : AM) : Prop := RDX a N ∧ RDM b N ∧ (∀ i : Int, 0 ≤ i → i < N → mrd a 111 i = mrd b 239 i) ∧ mrd a 110 9 = (if mrd b 235 14 = 4 then 1 else 2) ∧ mrd a 110 10 = mrd b 235 15 ∧ mrd b 235 12 = 0 ∧ ¬ (mrd b 235 14 = 3 ∧ mrd b 235 17 = 59)
section
variable {d d' N : Nat} {a a' a1 b b' b1 : AM} {D k o : Int}
theorem Lat.two (h : Lat N a b) : Lt2 N a b := by
  obtain ⟨h1, a2, q, h9, h14, hs, hA, he⟩ := h
  have e : blm a2 (if mrd b 235 14 = 4 then 1 else 2) = mwr (mwr a2 110 9 (if mrd b 235 14 = 4 then 1 else 2)) 110 10 (mrd a2 110 6) := if_pos h9
  refine ⟨q.1.ax hA, q.2.1, fun i i0 i1 => ?_, ?_, ?_, by rw [q.e12]; exact h9, hs⟩
  · rw [hA.2 _ _ (by omega)]; exact q.2.2.1 i i0 i1
  · rw [he, e, rdn2 (by decide), rde]
  · rw [he, e, rde]; exact (q.tg h9).2.1.1
theorem Lt2.xm (h : Lt2 N a b) (hD : D = 162 ∨ D = 195) (hA : DX D a a') (hA0 : ∀ i, mrd a' 110 i = mrd a 110 i) (hB : DM b b') (hB0 : ∀ i, i ≤ 19 → mrd b' 235 i = mrd b 235 i) : Lt2 N a' b' := by
  obtain ⟨h1, h2, h3, h4, h5, h6, h7⟩ := h
  have e111 : ∀ i, mrd a' 111 i = mrd a 111 i := fun i => hA.2 _ _ (by
    rcases hD with rfl | rfl
    · unfold ZD; omega
    · unfold ZD; omega)
  unfold Lt2
  rw [hA0, hA0, hB0 14 (by decide), hB0 15 (by decide), hB0 12 (by decide), hB0 17 (by decide)]
  exact ⟨h1.dx hD hA, h2.dm hB, fun i i0 i1 => by rw [e111, hB.2 _ _ (by unfold ZM; omega)]; exact h3 i i0 i1, h4, h5, h6, h7⟩
theorem Lt2.ne (h : Lt2 N a b) : mrd a 110 9 ≠ 0 := by
  rw [h.2.2.2.1]; split <;> decide
/-- .. the reference's fault comes at the sign that is missing -/
theorem Lt2.must (h : Lt2 N a b) : ∃ b', EV (d + 2) 215 0 [(2, 235), (0, sq b 59)] [] b = some ((3, 0), b') ∧ NX b b' ∧ QQ N a b' := by
  have ne := h.ne
  obtain ⟨h1, h2, h3, h4, h5, h6, h7⟩ := h
  have g := m_mustF (d := d + 1) h2.1.1 h6 (m_wrong (d := d) h2.1.1)
  have s0 : sq b 59 = 0 := if_neg h7
  rw [s0]
  have e : flm b (if mrd b 235 14 = 4 then 1 else 2) (mrd b 235 15) = mwr (mwr b 235 12 (if mrd b 235 14 = 4 then 1 else 2)) 235 13 (mrd b 235 15) := if_neg (by omega)
  rw [e] at g
  have hB : NX b (mwr (mwr b 235 12 (if mrd b 235 14 = 4 then 1 else 2)) 235 13 (mrd b 235 15)) := (NX.rf.wr (by decide) (by decide)).wr (by decide) (by decide)
  refine ⟨_, g, hB, h1, h2.nx hB, fun i i0 i1 => by rw [hB.2 _ _ (by omega)]; exact h3 i i0 i1, ?_, ?_, fun z => absurd z ne, fun _ => ?_⟩
  · rw [rdn2 (by decide), rde, h4]
  · rw [h4]; split <;> decide
  · rw [rde]; exact h5.symm
set_option maxHeartbeats 1000000 in
/-- the class's rest of a lesson, with a fault -/
theorem sl_F (q : QQ N a b) (h9 : mrd a 110 9 ≠ 0) (hD : HD D) (k0 : 0 ≤ k) (k1 : k < 12) (ho : o = D + 13 + k) (hk : mrd a D 6 = k) : ∃ a', EV (d + 4) 54 44 [(2, D), (2, 110), (2, o)] [] a = some ((3, 0), a') ∧ DX D a a' ∧ ∀ i, mrd a' 110 i = mrd a 110 i := by
  have D1 : 162 ≤ D := by unfold HD at hD; omega
  have D2 : D < 200 := by unfold HD at hD; omega
  have o0 : D + 13 ≤ o := by omega
  have o1 : o ≤ D + 24 := by omega
  have on : o ≠ 110 := by omega
  have no : (110 : Int) ≠ o := fun z => on z.symm
  have KO : ∀ {g h : AM}, QQ N g h → isK g o 2 := fun {g h} qq => by
    have cs : CS g D := CS_of qq.1.1 qq.1.2.1 (S6_cur hD)
    have := (cs.2.2.2.2.2.2.2.2.2.2.2.1 k k0 k1).2.2
    rw [← ho] at this; exact this
  obtain ⟨u, x1, y1, p1, p2, ⟨p3, p4, p5, p6, p7⟩, p8, p9⟩ := pl_both (d := d + 1) (d' := 0) q
  obtain ⟨rfl, rfl⟩ := p7 h9
  have X1 := x_rLc (d := d + 3) (D := D) q.k p1 (KO q)
  obtain ⟨a2, ha2⟩ : ∃ a2, a2 = mwr (mwr x1 o 1 u) o 2 (vow u) := ⟨_, rfl⟩
  rw [← ha2] at X1
  have q2 : QQ N a2 y1 := by rw [ha2]; exact (q.wo hD o0 o1 on).wo hD o0 o1 on
  have r2 : ∀ i, mrd a2 110 i = mrd x1 110 i := fun i => by rw [ha2, rdn1 no, rdn1 no]
  have n2 : mrd a2 110 9 ≠ 0 := by rw [r2]; exact h9
  obtain ⟨x3, y3, r1, -, ⟨-, -, -, -, r7⟩⟩ := pw_both (d := d + 1) (d' := 0) (k := 3) q2 (by decide)
  obtain ⟨rfl, rfl⟩ := r7 n2
  have X2 := x_rLd (d := d + 3) (D := D) (o := o) q2.k r1
  obtain ⟨v, v', x4, y4, s1, -, ⟨-, -, -, -, s7⟩, -, -, -⟩ := pn_both (d := d + 1) (d' := 0) (lo := 1) (hi := 30) q2 (by decide) (by decide)
  obtain ⟨rfl, rfl⟩ := s7 n2
  have X3 := x_rLe (d := d + 3) (D := D) q2.k s1 (KO q2)
  obtain ⟨a5, ha5⟩ : ∃ a5, a5 = mwr x4 o 3 v := ⟨_, rfl⟩
  rw [← ha5] at X3
  have q5 : QQ N a5 y4 := by rw [ha5]; exact q2.wo hD o0 o1 on
  have r5 : ∀ i, mrd a5 110 i = mrd x1 110 i := fun i => by rw [ha5, rdn1 no]; exact r2 i
  have n5 : mrd a5 110 9 ≠ 0 := by rw [r5]; exact h9
  have w5 : EV (d + 2) 41 0 [(2, 110), (0, 4)] [] a5 = some ((0, 0), a5) := by
    rw [x_isWord (d := d + 2) (k := 4) q5 (by decide), if_neg (fun z => n5 z.1)]
  have X4 := x_rLf (d := d + 3) (D := D) q5.k (x_per0 (hi := 99) w5 q5.k) (KO q5)
  obtain ⟨a7, ha7⟩ : ∃ a7, a7 = mwr (mwr a5 o 4 0) o 5 (-1) := ⟨_, rfl⟩
  rw [← ha7] at X4
  have q7 : QQ N a7 y4 := by rw [ha7]; exact (q5.wo hD o0 o1 on).wo hD o0 o1 on
  have r7' : ∀ i, mrd a7 110 i = mrd x1 110 i := fun i => by rw [ha7, rdn1 no, rdn1 no]; exact r5 i
  have n7 : mrd a7 110 9 ≠ 0 := by rw [r7']; exact h9
  have w7 : EV (d + 3) 41 0 [(2, 110), (0, 5)] [] a7 = some ((0, 0), a7) := by
    rw [x_isWord (d := d + 3) (k := 5) q7 (by decide), if_neg (fun z => n7 z.1)]
  have w8 : EV (d + 3) 41 0 [(2, 110), (0, 6)] [] a7 = some ((0, 0), a7) := by
    rw [x_isWord (d := d + 3) (k := 6) q7 (by decide), if_neg (fun z => n7 z.1)]
  have X5 := x_rLg0 (d := d + 3) (D := D) (o := o) q7.k w7
  have X6 := x_rLh0 (d := d + 3) (D := D) q7.k w8 (KO q7)
  have ob7 : Ob o x1 a7 := by
    have e2 : Ob o x1 x4 := by rw [ha2]; exact (Ob.wr ⟨rfl, fun _ _ _ _ => rfl⟩).wr
    have e5 : Ob o x1 a5 := by rw [ha5]; exact e2.wr
    rw [ha7]; exact e5.wr.wr
  have ob8 : Ob o x1 (mwr a7 o 6 0) := ob7.wr
  have q8 : QQ N (mwr a7 o 6 0) y4 := q7.wo hD o0 o1 on
  have cs8 : CS (mwr a7 o 6 0) D := CS_of q8.1.1 q8.1.2.1 (S6_cur hD)
  have hk8 : mrd (mwr a7 o 6 0) D 6 = k := by rw [ob8.2 _ _ (by omega) (by omega)]; exact hk
  have X7 := x_rLi (d := d + 4) (o := o) cs8.1 hk8 k0 k1
  refine ⟨_, X1.trans (X2.trans (X3.trans (X4.trans (X5.trans (X6.trans X7))))), (ob8.dx o0 o1).wr (Or.inr (Or.inl ⟨rfl, by decide, by decide⟩)), fun i => ?_⟩
  rw [rdn1 (by omega), rdn1 no]; exact r7' i
end

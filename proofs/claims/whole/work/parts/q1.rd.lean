/-! a lesson, its second half: by, needs -/
section
variable {d d' N : Nat} {a a' a1 b b' b1 : AM} {D k o v : Int}
theorem NmR.ob (h : NmR D a b) (hD : HD D) (k0 : 0 ≤ k) (k1 : k < 12) (hk : mrd a D 6 = k) (ho : o = D + 13 + k) (hA : Ob o a a') (hB : OM k b b') : NmR D a' b' := by
  have s1 : 162 ≤ D := by unfold HD at hD; omega
  have s2 : D < 200 := by unfold HD at hD; omega
  clear hD
  have ea : ∀ x i, x ≠ 110 → x ≠ o → mrd a' x i = mrd a x i := fun x i hx h1 => hA.2 x i (fun z => hx z.1) h1
  have eb : ∀ x i, x ≠ 235 → ¬ (x = 240 ∧ 1644 ≤ i) → mrd b' x i = mrd b x i := fun x i hx hi => hB.2 x i (fun z => hx z.1) (fun z => hi ⟨z.1, z.2.ge k0⟩)
  obtain ⟨h1, h2, h3, h4, h5, h6⟩ := h
  unfold NmR
  have b12 := h2.2.2
  rw [ea D 5 (by omega) (by omega), ea D 6 (by omega) (by omega), ea D 7 (by omega) (by omega), eb 240 1640 (by decide) (by omega), eb 240 1641 (by decide) (by omega), eb 240 1642 (by decide) (by omega)]
  refine ⟨h1, h2, h3, fun j j0 j1 => ?_, fun j j0 j1 => ?_, fun j j0 j1 => ?_⟩
  · rw [ea _ _ (by omega) (by omega), eb _ _ (by decide) (by omega)]; exact h4 j j0 j1
  · rw [ea _ _ (by omega) (by omega), eb _ _ (by decide) (by omega)]; exact h5 j j0 j1
  · rw [ea _ _ (by omega) (by omega), eb _ _ (by decide) (by omega)]; exact h6 j j0 j1
theorem FnM_ax (hA : AX a a') (hD : HD D) : FnM a' D v = FnM a D v := by
  have s1 : 162 ≤ D := by unfold HD at hD; omega
  unfold FnM
  rw [hA.2 D 5 (by omega), show mrd a' (D + 1) = mrd a (D + 1) from funext fun i => hA.2 _ _ (by omega)]
set_option maxHeartbeats 1000000 in
/-- by -/
theorem sl_2a (q : QQ N a b) (hD : HD D) (k0 : 0 ≤ k) (k1 : k < 12) (ho : o = D + 13 + k) (nm : mrd a 110 9 = 0 → NmR D a b) (m0 : 0 ≤ mrd a D 5) (m1 : mrd a D 5 ≤ 4) (h5 : mrd a o 5 = -1) (c5 : mrd b 240 (1680 + k) = -1) : ∃ a' b', EV (d + 4) 54 84 [(2, D), (2, 110), (2, o)] [] a = EV (d + 4) 54 112 [(2, D), (2, 110), (2, o)] [] a' ∧ EV (d' + 6) 231 184 [(2, 235), (0, k)] [] b = EV (d' + 6) 231 218 [(2, 235), (0, k)] [] b' ∧ Ob o a a' ∧ OM k b b' ∧ (∀ i, i ≠ 5 → mrd a' o i = mrd a o i) ∧ (∀ i, i ≠ 1680 + k → mrd b' 240 i = mrd b 240 i) ∧ QQ N a' b' ∧
    (mrd a' 110 9 = 0 → mrd a 110 9 = 0 ∧ mrd b 235 15 ≤ mrd b' 235 15 ∧ (mrd a' o 5 = mrd b' 240 (1680 + k) ∧ -1 ≤ mrd a' o 5 ∧ mrd a' o 5 < mrd a D 5)) := by
  have D1 : 162 ≤ D := by unfold HD at hD; omega
  have D2 : D < 200 := by unfold HD at hD; omega
  have o0 : D + 13 ≤ o := by omega
  have o1 : o ≤ D + 24 := by omega
  have on : o ≠ 110 := by omega
  have no : (110 : Int) ≠ o := fun z => on z.symm
  have e12 := q.e12
  have g := x_isWord (d := d + 3) (k := 5) q (by decide)
  by_cases cw : mrd a 110 9 = 0 ∧ wx b = 5
  · rw [if_pos cw] at g
    obtain ⟨h9, hw⟩ := cw
    have h14 : mrd b 235 14 = 1 := by
      unfold wx at hw
      by_cases z : mrd b 235 14 = 1
      · exact z
      · rw [if_neg z] at hw; omega
    obtain ⟨x1, y1, z1, z2, z3, z4, z5, z6, z7⟩ := adv2 (d := d + 2) (d' := d' + 4) q h9 (by omega)
    have t3 := (q.tg h9).2.2.1 (by omega)
    have t4 := t3.2.2.2 (by omega)
    have nm1 := (nm h9).fr hD z3 z4
    have g5 : mrd x1 D 5 = mrd a D 5 := z3.2 _ _ (by omega)
    obtain ⟨gM, -, -⟩ := nm1.g (d := d' + 2) z5.2.1.1
    obtain ⟨v, x2, u, x3, u', y3, r1, r2, r3, r4, ⟨r5, r6, r7, r8, r9⟩, r10, r11, r12⟩ := rt_both (d := d + 1) (d' := d') (B := 4) (z := 0) (F := FnM x1 D) z5 (fun w => (FnM_r (by omega)).1) (Or.inl ⟨rfl, gM⟩)
    have cs2 : CS x2 D := CS_of (z5.1.ax r2).1 (z5.1.ax r2).2.1 (S6_cur hD)
    have g52 : mrd x2 D 5 = mrd a D 5 := by rw [r2.2 _ _ (by omega)]; exact g5
    have gF := x_FnM (d := d + 3) (v := v) cs2 (by omega) (by omega)
    rw [FnM_ax r2 hD] at gF
    have cs3 : CS x3 D := CS_of r7.1.1 r7.1.2.1 (S6_cur hD)
    have ko := (cs3.2.2.2.2.2.2.2.2.2.2.2.1 k k0 k1).2.2
    rw [← ho] at ko
    have rF := FnM_r (a := x1) (s := D) (v := mrd y1 235 19) (by omega)
    have ox : Ob o a (mwr x3 o 5 u) := ((z3.ox).tr r5.ox).wr
    have om : OM k b (mwr y3 240 (1680 + k) u') := ((z4.om).tr r6.om).wr (Or.inr (Or.inr (Or.inr (Or.inl rfl))))
    refine ⟨mwr x3 o 5 u, mwr y3 240 (1680 + k) u', x_rLg1 q.k g z1 z5.k r1 cs2.1 (kn_110 (z5.1.ax r2).1) gF r3 ko, m_rLg1 (d := d' + 4) q.km k0 k1 (by omega) hw z2 z5.2.1.1 r4 r7.2.1.1, ox, om, fun i hi => ?_, fun i hi => ?_, (r7.wo hD o0 o1 on).wc (by omega), fun z => ?_⟩
    · rw [rdn2 hi, r5.2 _ _ (fun z => on z.1)]; exact z3.2 _ _ (fun z => on z.1)
    · rw [rdn2 hi, r6.2 _ _ (fun z => absurd z.1 (by decide))]; exact z4.2 _ _ (fun z => absurd z.1 (by decide))
    · rw [rdn1 no] at z
      obtain ⟨w1, w2⟩ := r12 z
      have w3 := (r8 z).2
      rw [rde, rde, rdn1 (by decide), w1]
      exact ⟨h9, by omega, rfl, by omega, by omega⟩
  · rw [if_neg cw] at g
    refine ⟨a, b, x_rLg0 q.k g, m_rLg0 (d := d' + 4) q.km (fun z => cw ⟨by omega, z.2⟩), ⟨rfl, fun _ _ _ _ => rfl⟩, ⟨rfl, fun _ _ _ _ => rfl⟩, fun _ _ => rfl, fun _ _ => rfl, q, fun z => ⟨z, by omega, by omega, by omega, by omega⟩⟩
set_option maxHeartbeats 1000000 in
/-- needs -/
theorem sl_2b (q : QQ N a b) (hD : HD D) (k0 : 0 ≤ k) (k1 : k < 12) (ho : o = D + 13 + k) (hk : mrd a D 6 = k) (nm : mrd a 110 9 = 0 → NmR D a b) (c6 : mrd b 240 (1692 + k) = 0) : ∃ a' b', EV (d + 4) 54 112 [(2, D), (2, 110), (2, o)] [] a = EV (d + 4) 54 134 [(2, D), (2, 110), (2, o)] [] a' ∧ EV (d' + 6) 231 218 [(2, 235), (0, k)] [] b = EV (d' + 6) 231 237 [(2, 235), (0, k)] [] b' ∧ Ob o a a' ∧ OM k b b' ∧ (∀ i, i ≠ 6 → mrd a' o i = mrd a o i) ∧ (∀ i, i ≠ 1692 + k → mrd b' 240 i = mrd b 240 i) ∧
    ((QQ N a' b' ∧ (mrd a' 110 9 = 0 → mrd a 110 9 = 0 ∧ mrd b 235 15 ≤ mrd b' 235 15 ∧ (mrd a' o 6 = mrd b' 240 (1692 + k) ∧ 0 ≤ mrd a' o 6 ∧ mrd a' o 6 < 2 ^ k.toNat))) ∨ Lt2 N a' b') := by
  have D1 : 162 ≤ D := by unfold HD at hD; omega
  have D2 : D < 200 := by unfold HD at hD; omega
  have o0 : D + 13 ≤ o := by omega
  have o1 : o ≤ D + 24 := by omega
  have on : o ≠ 110 := by omega
  have no : (110 : Int) ≠ o := fun z => on z.symm
  have e12 := q.e12
  have p2 : (0 : Int) < 2 ^ k.toNat := Int.pow_pos (by decide)
  have KO : ∀ {g : AM}, RDX g N → isK g o 2 := fun {g} qq => by
    have cs : CS g D := CS_of qq.1 qq.2.1 (S6_cur hD)
    have := (cs.2.2.2.2.2.2.2.2.2.2.2.1 k k0 k1).2.2
    rw [← ho] at this; exact this
  have cs : CS a D := CS_of q.1.1 q.1.2.1 (S6_cur hD)
  have g := x_isWord (d := d + 3) (k := 6) q (by decide)
  by_cases cw : mrd a 110 9 = 0 ∧ wx b = 6
  · rw [if_pos cw] at g
    obtain ⟨h9, hw⟩ := cw
    have h14 : mrd b 235 14 = 1 := by
      unfold wx at hw
      by_cases z : mrd b 235 14 = 1
      · exact z
      · rw [if_neg z] at hw; omega
    obtain ⟨x1, y1, z1, z2, z3, z4, z5, z6, z7⟩ := adv2 (d := d + 1) (d' := d' + 3) q h9 (by omega)
    have t3 := (q.tg h9).2.2.1 (by omega)
    have t4 := t3.2.2.2 (by omega)
    have nm1 := (nm h9).fr hD z3 z4
    have ul := us_le (x := 0) k.toNat
    obtain ⟨x', x2, y2, r1, r2, r3, r4, r5⟩ := nd_loop (d := d) (d' := d') hD k0 k1 (us 0 k.toNat) 0 0 x1 y1 (3, 0) (3, 0) rfl z5 z6 nm1 (by rw [z3.2 _ _ (by omega)]; exact hk) (by rw [z4.2 _ _ (by omega)]; exact c6) (by decide) p2 (by decide) (by omega)
    have rd2 : RDX x2 N := z5.1.ax r3
    have gx := x_rLh1 (d := d + 3) (D := D) (o := o) cs.1 q.k g ((x_nds q.k z1).trans r1) (KO rd2)
    have gm := m_rLh1 (d := d' + 4) (k := k) q.km (by omega) hw ((m_nds q.km z2).trans r2)
    have ox : Ob o a (mwr x2 o 6 x') := ((z3.ox).tr r3.ox).wr
    have c92 : LK k (1692 + k) := Or.inr (Or.inr (Or.inr (Or.inr rfl)))
    refine ⟨_, _, gx, gm, ox, (z4.om).tr (r4.om c92), fun i hi => ?_, fun i hi => ?_, ?_⟩
    · rw [rdn2 hi, r3.2 _ _ (fun z => on z.1)]; exact z3.2 _ _ (fun z => on z.1)
    · rw [r4.2 _ _ (fun z => absurd z.1 (by decide)) (fun z => hi z.2)]; exact z4.2 _ _ (fun z => absurd z.1 (by decide))
    · rcases r5 with ⟨w1, w2⟩ | w
      · refine Or.inl ⟨w1.wo hD o0 o1 on, fun z => ?_⟩
        rw [rdn1 no] at z
        obtain ⟨v1, v2, v3⟩ := w2 z
        rw [rde, v1]
        exact ⟨h9, by omega, rfl, v2.1, v2.2⟩
      · exact Or.inr (w.two.xm hD ((Ob.wr (⟨rfl, fun _ _ _ _ => rfl⟩ : Ob o x2 x2)).dx o0 o1) (fun i => rdn1 no) (⟨rfl, fun _ _ _ => rfl⟩ : DM y2 y2) (fun _ _ => rfl))
  · rw [if_neg cw] at g
    refine ⟨mwr a o 6 0, b, x_rLh0 q.k g (KO q.1), m_rLh0 (d := d' + 4) q.km (fun z => cw ⟨by omega, z.2⟩), Ob.wr ⟨rfl, fun _ _ _ _ => rfl⟩, ⟨rfl, fun _ _ _ _ => rfl⟩, fun i hi => rdn2 hi, fun _ _ => rfl, Or.inl ⟨q.wo hD o0 o1 on, fun z => ?_⟩⟩
    rw [rdn1 no] at z
    rw [rde, c6]
    exact ⟨z, by omega, rfl, by omega, p2⟩
end

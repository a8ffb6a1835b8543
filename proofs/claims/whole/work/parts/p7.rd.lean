/-! the needs of a lesson, both sides -/
theorem or_rng {x l : Int} {n : Nat} (h0 : 0 ≤ x) (h1 : x < 2 ^ n) (hn : n ≤ 31) (l0 : 0 ≤ l) (l1 : l < n) : 0 ≤ i_or x (i_shl 1 l) ∧ i_or x (i_shl 1 l) < 2 ^ n := by
  refine bI_rng (in_or _ _) hn (fun i i0 i1 => ?_)
  rw [bI_or, bI_hi h0 h1 hn i0, bI_shl l0 (by omega), show decide ((i : Int) = l) = false from decide_eq_false (by omega)]; rfl
/-- the class has blamed a token that the reference has still before it -/
def Lat (N : Nat) (a' b' : AM) : Prop := mrd a' 110 9 ≠ 0 ∧ ∃ a'', QQ N a'' b' ∧ mrd a'' 110 9 = 0 ∧ mrd b' 235 14 ≠ 1 ∧ ¬ (mrd b' 235 14 = 3 ∧ mrd b' 235 17 = 59) ∧ AX a'' a' ∧ a' = blm a'' (if mrd b' 235 14 = 4 then 1 else 2)
/-- the outcome of needs -/
def NO (N : Nat) (k : Int) (a b : AM) (x' : Int) (a' b' : AM) : Prop :=
  AX a a' ∧ NC b b' (1692 + k) ∧ ((QQ N a' b' ∧ (mrd a' 110 9 = 0 → mrd b' 240 (1692 + k) = x' ∧ (0 ≤ x' ∧ x' < 2 ^ k.toNat) ∧ mrd b 235 15 ≤ mrd b' 235 15)) ∨ Lat N a' b')
section
variable {d d' N : Nat} {D k : Int}
theorem NX.nc {b b' : AM} {c : Int} (h : NX b b') : NC b b' c := ⟨h.1, fun x i hx _ => h.2 x i hx⟩
theorem NC.tr {b b1 b' : AM} {c : Int} (h : NC b b1 c) (h2 : NC b1 b' c) : NC b b' c := ⟨h2.1.trans h.1, fun x i hx hc => (h2.2 x i hx hc).trans (h.2 x i hx hc)⟩
theorem NmR.nc {a a' b b' : AM} {s c : Int} (h : NmR s a b) (hs : HD s) (hA : AX a a') (hB : NC b b' c) (hc : 1643 ≤ c) : NmR s a' b' := by
  have s1 : 162 ≤ s := by unfold HD at hs; omega
  have s2 : s < 200 := by unfold HD at hs; omega
  clear hs
  have ea : ∀ x i, x ≠ 110 → mrd a' x i = mrd a x i := fun x i hx => hA.2 x i (by omega)
  have eb : ∀ x i, x ≠ 235 → ¬ (x = 240 ∧ 1643 ≤ i) → mrd b' x i = mrd b x i := fun x i hx hi => hB.2 x i (by omega) (by omega)
  obtain ⟨h1, h2, h3, h4, h5, h6⟩ := h
  unfold NmR
  rw [ea s 5 (by omega), ea s 6 (by omega), ea s 7 (by omega), eb 240 1640 (by decide) (by omega), eb 240 1641 (by decide) (by omega), eb 240 1642 (by decide) (by omega)]
  refine ⟨h1, h2, h3, fun j j0 j1 => ?_, fun j j0 j1 => ?_, fun j j0 j1 => ?_⟩
  · rw [ea _ _ (by omega), eb _ _ (by decide) (by omega)]; exact h4 j j0 j1
  · rw [ea _ _ (by omega), eb _ _ (by decide) (by omega)]; exact h5 j j0 j1
  · rw [ea _ _ (by omega), eb _ _ (by decide) (by omega)]; exact h6 j j0 j1
set_option maxHeartbeats 1000000 in
theorem nd_loop (hD : HD D) (k0 : 0 ≤ k) (k1 : k < 12) : ∀ (f : Nat) (x i : Int) (a b : AM) (l4 l3 : AV), us x k.toNat = f → QQ N a b → mrd a 110 9 = 0 → NmR D a b → mrd a D 6 = k → mrd b 240 (1692 + k) = x → 0 ≤ x → x < 2 ^ k.toNat → 0 ≤ i → i + f ≤ 12 →
    ∃ x' a' b', EV (d + 3) 55 8 [(2, D), (2, 110), (0, x), (0, i), l4] [] a = some ((0, x'), a') ∧ EV (d' + 5) 230 6 [(2, 235), (0, k), (0, 1), l3] [] b = some ((3, 0), b') ∧ NO N k a b x' a' b' := by
  have D1 : 162 ≤ D := by unfold HD at hD; omega
  have D2 : D < 200 := by unfold HD at hD; omega
  intro f
  induction f with
  | zero => ?_
  | succ f ih => ?_
  all_goals
    intro x i a b l4 l3 hu q h9 nm h6 hx x0 x1 i0 i1
    have cs : CS a D := CS_of q.1.1 q.1.2.1 (S6_cur hD)
    have e12 := q.e12
    obtain ⟨v, a1, b1, s1, s2, s3, s4, s5, s6, s7⟩ := sn_both (d := d) (d' := d' + 2) q
    by_cases cn : nq b = 1
    case neg =>
      obtain ⟨n0, gw, w1, v0⟩ := s7 h9 cn
      have r5 := s4.e12
      have r6 := s4.ge
      have cs1 : CS a1 D := CS_of s4.1.1 s4.1.2.1 (S6_cur hD)
      have e6 : mrd a1 D 6 = k := by rw [s2.2 _ _ (by omega)]; exact h6
      have g := m_toldW (d := d') (B := 4) (z := 1) q.km (by omega) n0 gw s4.km (by omega)
      exact ⟨_, a1, b1, x_ndW (d := d + 1) cs1 q.k h9 i0 (by omega) s1 s4.k w1 (by omega) (by omega), m_ndF (d := d' + 3) q.km (by omega) g s4.km (by omega), s2, s3.nc, Or.inl ⟨s4, fun z => absurd z w1⟩⟩
    obtain ⟨ea1, eb1, ev, v0, h14⟩ := s6 h9 cn
    rw [ea1] at s1
    clear s2 s3 s4 s5 s6 s7 ea1 eb1
    obtain ⟨-, gL, -⟩ := nm.g (d := d' + 2) q.2.1.1
    rw [← ev] at gL
    have rL := FnL_r (a := a) (s := D) (v := v) (by omega)
    have gt := m_toldT (d := d') (B := 4) (z := 1) (k := FnL a D v) q.km (by omega) cn (Or.inr (Or.inl ⟨rfl, gL⟩))
    have gx := x_ndN (d := d + 1) (x := x) (i := i) (l4 := l4) cs q.k h9 i0 (by omega) s1 (by omega) (by omega)
    obtain ⟨K, hK⟩ : ∃ K, K = FnL a D v := ⟨_, rfl⟩
    rw [← hK] at rL gt gx
    by_cases cK : K = -1
    case pos =>
      subst cK
      rw [if_neg (fun z => z.1 rfl)] at gx
      rw [if_neg (by decide), if_pos (by decide)] at gt
      obtain ⟨w1, w2, w3, w4⟩ := blm_both q (w := 3) (by decide)
      have w5 := w1.e12
      have w6 := w1.ge
      obtain ⟨u, a', b', p1, p2, ⟨p3, p4, p5, p6, p7⟩, p8, p9⟩ := pf_both (d := d) (d' := 0) (k := -1) q (by decide) (fun _ => h14)
      have gN := x_foundN (d := d + 1) q.k w1.k w2
      have g51 : EV (d + 3) 55 51 [(2, D), (2, 110), (0, x), (0, i), (0, -1)] [] a = some ((0, i_or x (i_shl 1 0)), blm a 3) := by
        have gS := x_isSignF (d := d + 2) (y := 59) w1.k w2
        have w : w32 (i + 1) = i + 1 := w32_id (by omega) (by omega)
        have kk := q.k
        have kk' := w1.k
        by_cases c : 12 < i + 1
        · simp only [e55_0, e55_1, e55_4, e55_5, e55_6, e55_7, e55_8, e55_9, e55_11, e55_14, e55_15, e55_18, e55_21, e55_22, e55_23, e55_26, e55_29, e55_31, e55_33, e55_34, e55_37, e55_38, e55_39, e55_41, e55_42, e55_43, e55_46, e55_47, e55_48, e55_51, e55_52, e55_53, e55_54, e55_56, e55_59, e55_60, e55_61, e55_62, e55_63, e55_65, e55_68, e55_71, e55_74, e55_77, e55_80, e55_81, psh0, psh1, psh3, true_or, or_true, eq_self, Option.bind_some, List.length_nil, List.length_cons, Nat.reduceAdd, Nat.reduceLeDiff, Nat.zero_le, ↓reduceIte, Int.reduceLT, Int.reduceEq, Int.reduceLE, Int.reduceNeg, Int.reduceAdd, Int.reduceMul, Int.reduceSub, ne_eq, not_true_eq_false, not_false_eq_true, and_true, true_and, and_false, false_and, c3lt, c3gt, c3eq, Bool.false_eq_true, isK_wr, inA_wr, inR_wr, kk, gN, kk', gS, w, c]
        · simp only [e55_0, e55_1, e55_4, e55_5, e55_6, e55_7, e55_8, e55_9, e55_11, e55_14, e55_15, e55_18, e55_21, e55_22, e55_23, e55_26, e55_29, e55_31, e55_33, e55_34, e55_37, e55_38, e55_39, e55_41, e55_42, e55_43, e55_46, e55_47, e55_48, e55_51, e55_52, e55_53, e55_54, e55_56, e55_59, e55_60, e55_61, e55_62, e55_63, e55_65, e55_68, e55_71, e55_74, e55_77, e55_80, e55_81, psh0, psh1, psh3, true_or, or_true, eq_self, Option.bind_some, List.length_nil, List.length_cons, Nat.reduceAdd, Nat.reduceLeDiff, Nat.zero_le, ↓reduceIte, Int.reduceLT, Int.reduceEq, Int.reduceLE, Int.reduceNeg, Int.reduceAdd, Int.reduceMul, Int.reduceSub, ne_eq, not_true_eq_false, not_false_eq_true, and_true, true_and, and_false, false_and, c3lt, c3gt, c3eq, Bool.false_eq_true, isK_wr, inA_wr, inR_wr, kk, gN, kk', gS, w, c, w2]
      exact ⟨_, _, _, gx.trans g51, m_ndF (d := d' + 3) q.km (by omega) gt w1.km (by omega), w3, w4.nc, Or.inl ⟨w1, fun z => absurd z w2⟩⟩
    have K0 : 0 ≤ K := by omega
    have gt' : EV (d' + 4) 227 0 [(2, 235), (0, 4), (0, 1), (3, 0)] [] b = some ((0, K), b) := by
      rw [gt, if_neg (by omega : ¬ K < 0)]
      by_cases c : 0 < K
      · rw [if_pos c]
      · rw [if_neg c, show K = 0 by omega]
    by_cases cb : bI x K.toNat = true
    case pos =>
      have ca : ¬ i_and x (i_shl 1 K) = 0 := fun z => by
        have := (and1_0 K0 (by omega)).mp z
        rw [cb] at this; exact absurd this (by decide)
      rw [if_pos ⟨cK, ca⟩] at gx
      obtain ⟨w1, w2, w3, w4⟩ := blm_both q (w := 5) (by decide)
      have w5 := w1.e12
      have w6 := w1.ge
      exact ⟨_, _, _, gx.trans (x_nd51 (d := d + 1) w1.k w2 i0 (by omega)), m_ndT (d := d' + 3) q.2.1.1 k0 k1 (by omega) K0 (by omega) gt' (by rw [hx]; exact cb) w1.km (by omega), w3, w4.nc, Or.inl ⟨w1, fun z => absurd z w2⟩⟩
    have cb' : bI x K.toNat = false := by simpa using cb
    have ca : i_and x (i_shl 1 K) = 0 := (and1_0 K0 (by omega)).mpr cb'
    rw [if_neg (fun z => z.2 ca)] at gx
    have hus := us_or (x := x) (y := i_or x (i_shl 1 K)) (i := K.toNat) cb' (fun j => by rw [bI_or, bI_shl K0 (by omega)]; congr 1; exact decide_eq_decide.mpr ⟨fun z => by omega, fun z => by omega⟩) k.toNat (by omega)
    have ory := or_rng x0 x1 (by omega) K0 (by omega : K < (k.toNat : Int))
  · omega
  · obtain ⟨y, hy⟩ : ∃ y, y = i_or x (i_shl 1 K) := ⟨_, rfl⟩
    rw [← hy] at hus ory
    obtain ⟨a1, b1, y1, y2, y3, y4, y5, y6, y7⟩ := adv2 (d := d) (d' := d' + 2) q h9 (by omega)
    have t3 := (q.tg h9).2.2.1 (by omega)
    have t4 := t3.2.2.2 (by omega)
    have f12 := y5.e12
    have gp := x_foundT (d := d + 1) q.k cK h9 y1
    have gm := m_ndN (d := d' + 3) (l3 := l3) q.2.1.1 k0 k1 (by omega) K0 (by omega) gt' (by rw [hx]; exact cb') (m_must1 q.km (by omega) y2) y5.2.1.1 (by omega)
    have hx1 : mrd b1 240 (1692 + k) = x := by rw [y4.2 _ _ (by omega)]; exact hx
    rw [hx1, ← hy] at gm
    obtain ⟨b2, hb2⟩ : ∃ b2, b2 = mwr b1 240 (1692 + k) y := ⟨_, rfl⟩
    rw [← hb2] at gm
    have zM : ZM 240 (1692 + k) := Or.inr (Or.inl ⟨rfl, by omega⟩)
    have dB : DM b1 b2 := by rw [hb2]; exact DM.wr ⟨rfl, fun _ _ _ => rfl⟩ zM
    have f235 : ∀ j, mrd b2 235 j = mrd b1 235 j := fun j => by rw [hb2, rdn1 (by decide)]
    have q2 : QQ N a1 b2 := y5.xm hD ⟨rfl, fun _ _ _ => rfl⟩ (fun _ => rfl) dB (fun j _ => f235 j)
    have nc2 : NC b b2 (1692 + k) := ⟨by rw [hb2]; exact y4.1, fun x i hx hc => by rw [hb2, rd_wr, if_neg hc]; exact y4.2 x i hx⟩
    have hx2 : mrd b2 240 (1692 + k) = y := by rw [hb2, rde]
    have gS := x_isSign (d := d + 2) (x := 59) y5
    have h61 : mrd a1 D 6 = k := by rw [y3.2 _ _ (by omega)]; exact h6
    by_cases cS : mrd b1 235 14 = 3 ∧ mrd b1 235 17 = 59
    · rw [if_pos ⟨y6, cS⟩] at gS
      rw [if_neg (by omega)] at gm
      have gE := x_ndE (d := d + 1) (D := D) (x := x) (i := i) q.k gp y5.k gS
      rw [← hy] at gE
      refine ⟨y, a1, b2, gx.trans gE, gm.trans (m_ndM q2.km), y3, nc2, Or.inl ⟨q2, fun _ => ⟨hx2, ory, ?_⟩⟩⟩
      rw [f235]; omega
    · rw [if_neg (fun z => cS z.2)] at gS
      have gO := x_ndO (d := d + 1) (D := D) (x := x) (i := i) q.k i0 (by omega) gp y5.k gS
      rw [← hy] at gO
      by_cases cW : mrd b1 235 14 = 1
      · rw [if_pos cW] at gm
        have nm2 := nm.nc hD y3 nc2 (by omega)
        obtain ⟨x', a', b', u1, u2, u3, u4, u5⟩ := ih y (i + 1) a1 b2 (0, K) (0, K) (by omega) q2 y6 nm2 h61 hx2 ory.1 ory.2 (by omega) (by omega)
        refine ⟨x', a', b', gx.trans (gO.trans u1), gm.trans u2, y3.tr u3, nc2.tr u4, ?_⟩
        rcases u5 with ⟨w1, w2⟩ | w
        · refine Or.inl ⟨w1, fun z => ?_⟩
          obtain ⟨m1, m2, m3⟩ := w2 z
          rw [f235] at m3
          exact ⟨m1, m2, by omega⟩
        · exact Or.inr w
      · rw [if_neg cW] at gm
        have nq0 : nq b2 ≠ 1 := by
          unfold nq
          rw [f235 14, if_neg (fun z => cW z.1)]; decide
        obtain ⟨v2, a2, b3, s1', s2', s3', s4', s5', s6', s7'⟩ := sn_both (d := d) (d' := d' + 2) q2
        obtain ⟨n0, gw, w1, v20⟩ := s7' y6 nq0
        have cs1 : CS a2 D := CS_of s4'.1.1 s4'.1.2.1 (S6_cur hD)
        have e6 : mrd a2 D 6 = k := by rw [s2'.2 _ _ (by omega)]; exact h61
        have gW := x_ndW (d := d + 1) (D := D) (x := y) (i := i + 1) (l4 := (0, K)) cs1 y5.k y6 (by omega) (by omega) s1' s4'.k w1 (by omega) (by omega)
        refine ⟨_, a2, b2, gx.trans (gO.trans gW), gm.trans (m_ndM q2.km), y3.tr s2', nc2, Or.inr ⟨w1, a1, q2, y6, by rw [f235]; exact cW, by rw [f235, f235]; exact cS, s2', ?_⟩⟩
        have gmis := x_misfit (d := d) y5.k
        have gsee : EV (d + 2) 48 0 [(2, 110)] [] a1 = some ((1, 0), blm a1 (if mrd a1 110 5 = 4 then 1 else 2)) := x_see0 (d := d + 1) y5.k (Or.inr (Or.inl (by rw [(y5.tg y6).1.1]; exact cW))) gmis
        rw [gsee] at s1'
        have := (Prod.mk.inj (Option.some.inj s1')).2
        rw [← this, (q2.tg y6).1.1]
end

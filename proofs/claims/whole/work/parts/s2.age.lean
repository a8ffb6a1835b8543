/-! age: a deed, both sides -/
abbrev ZSa (G S x i : Int) : Prop := (x = 110 ∧ 4 ≤ i ∧ i ≤ 10) ∨ (G + 1 ≤ x ∧ x ≤ G + 4 ∧ i = S)
abbrev ZT (S x i : Int) : Prop := (x = 235 ∧ 12 ≤ i ∧ i ≤ 19) ∨ (x = 240 ∧ 1771 + 9 * S ≤ i ∧ i ≤ 1777 + 9 * S)
def RX (G S : Int) (a a' : AM) : Prop := a'.2 = a.2 ∧ ∀ x i, ¬ ZSa G S x i → mrd a' x i = mrd a x i
def RM (S : Int) (b b' : AM) : Prop := b'.2 = b.2 ∧ ∀ x i, ¬ ZT S x i → mrd b' x i = mrd b x i
/-- what is read of a step -/
def SD (G nc nl S k : Int) (a b : AM) : Prop :=
  (0 ≤ mrd a (G + 2) S ∧ mrd a (G + 2) S < 4) ∧ (k < 6 → mrd a (G + 2) S = mrd b 240 (1771 + 9 * S) ∧ mrd a (G + 2) S < nc) ∧ (k < 5 → mrd a (G + 1) S = 11 + k) ∧
  (k = 0 → mrd a (G + 3) S = mrd b 240 (1772 + 9 * S) ∧ 0 ≤ mrd a (G + 3) S ∧ mrd a (G + 3) S < nl) ∧
  (k = 1 → mrd a (G + 3) S = mrd b 240 (1772 + 9 * S) ∧ 0 ≤ mrd a (G + 3) S ∧ mrd a (G + 3) S ≤ 11) ∧
  (k = 3 ∨ k = 4 → mrd a (G + 3) S = mrd b 240 (1772 + 9 * S) ∧ 1 ≤ mrd a (G + 3) S ∧ mrd a (G + 3) S ≤ 99) ∧
  (k = 5 → mrd a (G + 1) S = 17 + mrd b 240 (1776 + 9 * S) ∧ 0 ≤ mrd b 240 (1776 + 9 * S) ∧ mrd b 240 (1776 + 9 * S) ≤ 2 ∧
    (mrd b 240 (1776 + 9 * S) = 0 → mrd a (G + 3) S = mrd b 240 (1772 + 9 * S) ∧ mrd a (G + 4) S = mrd b 240 (1777 + 9 * S) ∧ 0 ≤ mrd a (G + 3) S ∧ mrd a (G + 3) S ≤ 12) ∧
    (mrd b 240 (1776 + 9 * S) = 2 → mrd a (G + 3) S = mrd b 240 (1772 + 9 * S) ∧ 0 ≤ mrd a (G + 3) S ∧ mrd a (G + 3) S < nl)) ∧
  (k = 6 → mrd a (G + 1) S = 20 ∧ mrd a (G + 3) S = mrd b 240 (1771 + 9 * S) ∧ 1 ≤ mrd a (G + 3) S ∧ mrd a (G + 3) S ≤ 99) ∧ (k = 7 → mrd a (G + 1) S = 22)
section
variable {d d' N : Nat} {a a' a1 a2 b b' b1 b2 : AM} {s G S v u k w nc nl : Int} {l4 l2 : AV}
theorem AX.rx (h : AX a a') : RX G S a a' := ⟨h.1, fun x i hx => h.2 x i (fun z => hx (Or.inl z))⟩
theorem NX.rm (h : NX b b') : RM S b b' := ⟨h.1, fun x i hx => h.2 x i (fun z => hx (Or.inl z))⟩
theorem RX.tr (h : RX G S a a1) (h2 : RX G S a1 a') : RX G S a a' := ⟨h2.1.trans h.1, fun x i hx => (h2.2 x i hx).trans (h.2 x i hx)⟩
theorem RM.tr (h : RM S b b1) (h2 : RM S b1 b') : RM S b b' := ⟨h2.1.trans h.1, fun x i hx => (h2.2 x i hx).trans (h.2 x i hx)⟩
theorem RX.wr {j v : Int} (h : RX G S a a') (j0 : 1 ≤ j) (j1 : j ≤ 4) : RX G S a (mwr a' (G + j) S v) := ⟨h.1, fun x i hx => by
  rw [rd_wr, if_neg (fun z => hx (Or.inr (by omega)))]; exact h.2 x i hx⟩
theorem RM.wr {j v : Int} (h : RM S b b') (j0 : 1771 + 9 * S ≤ j) (j1 : j ≤ 1777 + 9 * S) : RM S b (mwr b' 240 j v) := ⟨h.1, fun x i hx => by
  rw [rd_wr, if_neg (fun z => hx (Or.inr (by omega)))]; exact h.2 x i hx⟩
theorem RX.zg (h : RX G S a a') : ∀ x i, ¬ ZG G x i → mrd a' x i = mrd a x i := fun x i hx => h.2 x i (by
  rintro (z | z)
  · exact hx (Or.inl z)
  · exact hx (Or.inr (Or.inr (by omega))))
theorem RM.zh (h : RM S b b') (S0 : 0 ≤ S) : ∀ x i, ¬ ZH x i → mrd b' x i = mrd b x i := fun x i hx => h.2 x i (by
  rintro (z | z)
  · exact hx (Or.inl ⟨z.1, Or.inl z.2⟩)
  · exact hx (Or.inr (by omega)))
/-- the child's piece of a step -/
theorem kc_both (q : QQ N a b) (hs : HD s) (hG : HG G) (sn : SN s a b) (S0 : 0 ≤ S) (S1 : S < 30) : ∃ v a1 f u a2 u' b2, EV (d + 2) 48 0 [(2, 110)] [] a = some ((1, v), a1) ∧ AC G s a1 ∧ EV (d + 2) 62 0 [(2, s), (1, v), (3, 1), (3, 0)] [] a1 = some ((0, f), a1) ∧ EV (d + 2) 49 0 [(2, 110), (0, f)] [] a1 = some ((0, u), a2) ∧ EV (d' + 5) 228 0 [(2, 235), (0, 0), (0, 2), (3, 0)] [] b = some ((0, u'), b2) ∧ AC G s a2 ∧ CM b2 ∧ AX a a2 ∧ NX b b2 ∧ QQ N (mwr a2 (G + 2) S u) (mwr b2 240 (1771 + 9 * S) u') ∧ SN s (mwr a2 (G + 2) S u) (mwr b2 240 (1771 + 9 * S) u') ∧ (0 ≤ u ∧ u < 4) ∧ (mrd a2 110 9 = 0 → u' = u ∧ u < mrd a s 7 ∧ mrd a 110 9 = 0 ∧ mrd b 235 15 ≤ mrd b2 235 15) ∧ (mrd a 110 9 ≠ 0 → a2 = a ∧ b2 = b) := by
  obtain ⟨v, a1, f, u, a2, u', b2, y1, y2, y3, y4, y5, ⟨z1, z2, z3, z4, z5⟩, y7, y8⟩ := tc_both (d := d) (d' := d') q hs sn
  refine ⟨v, a1, f, u, a2, u', b2, y1, AX.ac q.1 hG hs y2, y3 _, y4, y5, z3.1.ac hG hs, z3.2.1.1, z1, z2, (z3.wg hG (by decide) (by decide)).w4, sn.fr hs hG ?_ ?_, y7, fun z => ⟨(y8 z).1, (y8 z).2, (z4 z).1, by have := (z4 z).2; omega⟩, z5⟩
  · exact ((z1.rx (G := G) (S := S)).wr (by decide) (by decide)).zg
  · exact ((z2.rm (S := S)).wr (by omega) (by omega)).zh S0
theorem ls_both (q : QQ N a b) (hs : HD s) (hG : HG G) (sn : SN s a b) (S0 : 0 ≤ S) (S1 : S < 30) : ∃ v a1 f u a2 u' b2, EV (d + 2) 48 0 [(2, 110)] [] a = some ((1, v), a1) ∧ AC G s a1 ∧ EV (d + 2) 61 0 [(2, s), (1, v), (3, 1), (3, 0)] [] a1 = some ((0, f), a1) ∧ EV (d + 2) 49 0 [(2, 110), (0, f)] [] a1 = some ((0, u), a2) ∧ EV (d' + 5) 228 0 [(2, 235), (0, 0), (0, 1), (3, 0)] [] b = some ((0, u'), b2) ∧ AC G s a2 ∧ CM b2 ∧ AX a a2 ∧ NX b b2 ∧ QQ N (mwr a2 (G + 3) S u) (mwr b2 240 (1772 + 9 * S) u') ∧ (mrd a2 110 9 = 0 → u' = u ∧ 0 ≤ u ∧ u < mrd a s 6 ∧ mrd a 110 9 = 0 ∧ mrd b 235 15 ≤ mrd b2 235 15) := by
  obtain ⟨v, a1, f, u, a2, u', b2, y1, y2, y3, y4, y5, ⟨z1, z2, z3, z4, z5⟩, y8⟩ := tl_both (d := d) (d' := d') q hs sn
  exact ⟨v, a1, f, u, a2, u', b2, y1, AX.ac q.1 hG hs y2, y3 _, y4, y5, z3.1.ac hG hs, z3.2.1.1, z1, z2, (z3.wg hG (by decide) (by decide)).w4, fun z => ⟨(y8 z).1, (y8 z).2.1, (y8 z).2.2, (z4 z).1, by have := (z4 z).2; omega⟩⟩
theorem nu_both {lo hi : Int} (q : QQ N a b) (hs : HD s) (hG : HG G) (l0 : 0 ≤ lo) (l1 : lo ≤ hi) : ∃ u a2 u' b2, EV (d + 2) 45 0 [(2, 110), (0, lo), (0, hi), (3, 0)] [] a = some ((0, u), a2) ∧ EV (d' + 2) 216 0 [(2, 235), (0, lo), (0, hi), (3, 0)] [] b = some ((0, u'), b2) ∧ AC G s a2 ∧ CM b2 ∧ AX a a2 ∧ NX b b2 ∧ QQ N a2 b2 ∧ (mrd a2 110 9 = 0 → u' = u ∧ lo ≤ u ∧ u ≤ hi ∧ mrd a 110 9 = 0 ∧ mrd b 235 15 ≤ mrd b2 235 15) ∧ (mrd a 110 9 ≠ 0 → a2 = a ∧ b2 = b) := by
  obtain ⟨u, u', a2, b2, y1, y2, ⟨z1, z2, z3, z4, z5⟩, y4, y5, y6⟩ := pn_both (d := d) (d' := d') q l0 l1
  exact ⟨u, a2, u', b2, y1, y2, z3.1.ac hG hs, z3.2.1.1, z1, z2, z3, fun z => ⟨y6 z, y4.1, y4.2, (z4 z).1, by have := (z4 z).2; omega⟩, z5⟩
/-- the outcome of a step's rest -/
def RO (N : Nat) (G s S k : Int) (a b a' b' : AM) : Prop := RX G S a a' ∧ RM S b b' ∧ QQ N a' b' ∧ (0 ≤ mrd a' (G + 2) S ∧ mrd a' (G + 2) S < 4) ∧ (mrd a' 110 9 = 0 → mrd a 110 9 = 0 ∧ mrd b 235 15 ≤ mrd b' 235 15 ∧ SD G (mrd a s 7) (mrd a s 6) S k a' b')
set_option maxHeartbeats 1000000 in
theorem dd_both (q : QQ N a b) (hs : HD s) (hG : HG G) (sn : SN s a b) (S0 : 0 ≤ S) (S1 : S < 30) (kid : 0 ≤ mrd a (G + 2) S ∧ mrd a (G + 2) S < 4) (ew : mrd a (G + 1) S = w) (ek : mrd b 240 (1770 + 9 * S) = k) (hk : (0 ≤ k ∧ k ≤ 4 ∧ w = 11 + k) ∨ (k = 6 ∧ w = 20) ∨ (k = 7 ∧ w = 22)) : ∃ a' b', EV (d + 3) 6 0 [(2, G), (2, 110), (2, s), (0, S), (3, 0)] [] a = some ((3, 0), a') ∧ EV (d' + 6) 236 0 [(2, 235), (0, 1770 + 9 * S), (3, 0)] [] b = some ((3, 0), b') ∧ RO N G s S k a b a' b' := by
  have bG := hG.b
  have bs := hs.b
  have c := q.1.ac hG hs
  have hm := q.2.1.1
  have M0 := m_r0 (d := d' + 6) hm ek S0 S1
  rcases hk with ⟨k0, k4, kw⟩ | ⟨rfl, rfl⟩ | ⟨rfl, rfl⟩
  · obtain ⟨v, a1, f, u, a2, u', b2, y1, y2, y3, y4, y5, y6, y7, y8, y9, y10, y11, y12, y13, -⟩ := kc_both (d := d) (d' := d') (S := S) q hs hG sn S0 S1
    have X1 := (x_d0 (d := d + 2) c ew (by omega) (by omega) S0 S1).trans (x_dC (d := d + 2) (l4 := (0, w)) c y1 y2 y3 y4 y6 S0 S1)
    have M1 := M0.trans (m_rC (d := d' + 5) hm (show k < 5 by omega) k0 y5 y7 S0 S1)
    obtain ⟨a3, ha3⟩ : ∃ a3, a3 = mwr a2 (G + 2) S u := ⟨_, rfl⟩
    obtain ⟨b3, hb3⟩ : ∃ b3, b3 = mwr b2 240 (1771 + 9 * S) u' := ⟨_, rfl⟩
    rw [← ha3] at X1 y10 y11
    rw [← hb3] at M1 y10 y11
    have fx : RX G S a a3 := by rw [ha3]; exact (y8.rx).wr (by decide) (by decide)
    have fm : RM S b b3 := by rw [hb3]; exact (y9.rm).wr (by omega) (by omega)
    have c3 := y10.1.ac hG hs
    have hm3 := y10.2.1.1
    have f9 : mrd a3 110 9 = mrd a2 110 9 := by rw [ha3, rdn1 (by omega)]
    have e7 : mrd a3 s 7 = mrd a s 7 := fx.zg _ _ (ZG_s hs hG (by omega))
    have e6 : mrd a3 s 6 = mrd a s 6 := fx.zg _ _ (ZG_s hs hG (by omega))
    have g1 : mrd a3 (G + 1) S = w := by rw [ha3, rdn1 (by omega), y8.2 _ _ (by omega)]; exact ew
    have g2 : mrd a3 (G + 2) S = u := by rw [ha3, rde]
    have g4 : mrd b3 240 (1771 + 9 * S) = u' := by rw [hb3, rde]
    have g15 : mrd b3 235 15 = mrd b2 235 15 := by rw [hb3, rdn1 (by decide)]
    have kc : k = 0 ∨ (k = 1 ∨ k = 3 ∨ k = 4) ∨ k = 2 := by omega
    rcases kc with rfl | kc | rfl
    · obtain ⟨v', a4, f', t, a5, t', b5, x1, x2, x3, x4, x5, x6, x7, x8, x9, x10, x11⟩ := ls_both (d := d) (d' := d') (S := S) y10 hs hG y11 S0 S1
      have kw' : w = 11 := by omega
      subst kw'
      refine ⟨_, _, X1.trans (x_dL (d := d + 2) c3 x1 x2 x3 x4 x6 S0 S1), M1.trans (m_rL (d := d' + 5) hm3 x5 x7 S0 S1), fx.tr ((x8.rx).wr (by decide) (by decide)), fm.tr ((x9.rm).wr (by omega) (by omega)), x10, by rw [rdn1 (by omega), x8.2 _ _ (by omega), g2]; exact y12, fun z => ?_⟩
      rw [rdn1 (by omega)] at z
      obtain ⟨p1, p2, p3, p4, p5⟩ := x11 z
      obtain ⟨r1, r2, r3, r4⟩ := y13 (by omega)
      refine ⟨r3, by rw [rdn1 (by decide)]; omega, ?_⟩
      have i1 : mrd (mwr a5 (G + 3) S t) (G + 2) S = u := by rw [rdn1 (by omega), x8.2 _ _ (by omega)]; exact g2
      have i2 : mrd (mwr b5 240 (1772 + 9 * S) t') 240 (1771 + 9 * S) = u' := by rw [rdn2 (by omega), x9.2 _ _ (by omega)]; exact g4
      have i3 : mrd (mwr a5 (G + 3) S t) (G + 1) S = 11 := by rw [rdn1 (by omega), x8.2 _ _ (by omega)]; exact g1
      unfold SD
      rw [i1, i2, i3, rde, rde]
      exact ⟨y12, fun _ => ⟨r1.symm, r2⟩, fun _ => rfl, fun _ => ⟨p1.symm, p2, by omega⟩, fun z => by omega, fun z => by omega, fun z => by omega, fun z => by omega, fun z => by omega⟩
    · obtain ⟨lo, hi, hlh⟩ : ∃ lo hi : Int, (k = 1 ∧ lo = 0 ∧ hi = 11) ∨ ((k = 3 ∨ k = 4) ∧ lo = 1 ∧ hi = 99) := by
        by_cases c1 : k = 1
        · exact ⟨0, 11, Or.inl ⟨c1, rfl, rfl⟩⟩
        · exact ⟨1, 99, Or.inr ⟨by omega, rfl, rfl⟩⟩
      obtain ⟨t, a5, t', b5, x1, x2, x3, x4, x5, x6, x7, x8, -⟩ := nu_both (d := d) (d' := d' + 3) (s := s) (G := G) (lo := lo) (hi := hi) y10 hs hG (by omega) (by omega)
      have hw : (w = 12 ∧ lo = 0 ∧ hi = 11) ∨ ((w = 14 ∨ w = 15) ∧ lo = 1 ∧ hi = 99) := by omega
      refine ⟨_, _, X1.trans (x_dN (d := d + 2) c3 hw x1 x3 S0 S1), M1.trans (m_rN (d := d' + 5) hm3 hlh x2 x4 S0 S1), fx.tr ((x5.rx).wr (by decide) (by decide)), fm.tr ((x6.rm).wr (by omega) (by omega)), (x7.wg hG (by decide) (by decide)).w4, by rw [rdn1 (by omega), x5.2 _ _ (by omega), g2]; exact y12, fun z => ?_⟩
      rw [rdn1 (by omega)] at z
      obtain ⟨p1, p2, p3, p4, p5⟩ := x8 z
      obtain ⟨r1, r2, r3, r4⟩ := y13 (by omega)
      refine ⟨r3, by rw [rdn1 (by decide)]; omega, ?_⟩
      have i1 : mrd (mwr a5 (G + 3) S t) (G + 2) S = u := by rw [rdn1 (by omega), x5.2 _ _ (by omega)]; exact g2
      have i2 : mrd (mwr b5 240 (1772 + 9 * S) t') 240 (1771 + 9 * S) = u' := by rw [rdn2 (by omega), x6.2 _ _ (by omega)]; exact g4
      have i3 : mrd (mwr a5 (G + 3) S t) (G + 1) S = w := by rw [rdn1 (by omega), x5.2 _ _ (by omega)]; exact g1
      unfold SD
      rw [i1, i2, i3, rde, rde]
      exact ⟨y12, fun _ => ⟨r1.symm, r2⟩, fun _ => kw, fun z => by omega, fun z => ⟨p1.symm, by omega, by omega⟩, fun z => ⟨p1.symm, by omega, by omega⟩, fun z => by omega, fun z => by omega, fun z => by omega⟩
    · have kw' : w = 13 := by omega
      subst kw'
      refine ⟨_, _, X1.trans (x_dF (d := d + 2)), M1.trans m_rF, fx, fm, y10, by rw [g2]; exact y12, fun z => ?_⟩
      obtain ⟨r1, r2, r3, r4⟩ := y13 (by omega)
      refine ⟨r3, by omega, ?_⟩
      unfold SD
      rw [g1, g2, g4]
      exact ⟨y12, fun _ => ⟨r1.symm, r2⟩, fun _ => rfl, fun z => by omega, fun z => by omega, fun z => by omega, fun z => by omega, fun z => by omega, fun z => by omega⟩
  · obtain ⟨t, a5, t', b5, x1, x2, x3, x4, x5, x6, x7, x8, -⟩ := nu_both (d := d) (d' := d' + 3) (s := s) (G := G) (lo := 1) (hi := 99) q hs hG (by decide) (by decide)
    refine ⟨_, _, x_dP (d := d + 2) c ew x1 x3 S0 S1, M0.trans (m_rP (d := d' + 5) hm x2 x4 S0 S1), (x5.rx).wr (by decide) (by decide), (x6.rm).wr (by omega) (by omega), (x7.wg hG (by decide) (by decide)).w4, by rw [rdn1 (by omega), x5.2 _ _ (by omega)]; exact kid, fun z => ?_⟩
    rw [rdn1 (by omega)] at z
    obtain ⟨p1, p2, p3, p4, p5⟩ := x8 z
    refine ⟨p4, by rw [rdn1 (by decide)]; omega, ?_⟩
    have i1 : mrd (mwr a5 (G + 3) S t) (G + 2) S = mrd a (G + 2) S := by rw [rdn1 (by omega), x5.2 _ _ (by omega)]
    have i3 : mrd (mwr a5 (G + 3) S t) (G + 1) S = 20 := by rw [rdn1 (by omega), x5.2 _ _ (by omega)]; exact ew
    unfold SD
    rw [i1, i3, rde, rde]
    exact ⟨kid, fun z => by omega, fun z => by omega, fun z => by omega, fun z => by omega, fun z => by omega, fun z => by omega, fun _ => ⟨rfl, p1.symm, p2, p3⟩, fun z => by omega⟩
  · refine ⟨_, _, x_dS (d := d + 2) c ew S0 S1, M0.trans (m_rS rfl), ⟨rfl, fun _ _ _ => rfl⟩, ⟨rfl, fun _ _ _ => rfl⟩, q, kid, fun z => ⟨z, by omega, ?_⟩⟩
    unfold SD
    exact ⟨kid, fun z => by omega, fun z => by omega, fun z => by omega, fun z => by omega, fun z => by omega, fun z => by omega, fun z => by omega, fun _ => ew⟩
end

/-! the draft of a school, both sides -/
abbrev ZD (D x i : Int) : Prop := (x = 110 ∧ 4 ≤ i ∧ i ≤ 10) ∨ (x = D ∧ 5 ≤ i ∧ i ≤ 9) ∨ x = D + 1 ∨ (D + 13 ≤ x ∧ x ≤ D + 24) ∨ ((x = D + 25 ∨ x = D + 27 ∨ x = D + 29 ∨ x = D + 31) ∧ 1 ≤ i)
abbrev ZM (x i : Int) : Prop := (x = 235 ∧ (12 ≤ i ∧ i ≤ 19 ∨ i = 24)) ∨ (x = 240 ∧ 1640 ≤ i) ∨ (x = 242 ∧ 80 ≤ i)
def DX (D : Int) (a a' : AM) : Prop := a'.2 = a.2 ∧ ∀ x i, ¬ ZD D x i → mrd a' x i = mrd a x i
def DM (b b' : AM) : Prop := b'.2 = b.2 ∧ ∀ x i, ¬ ZM x i → mrd b' x i = mrd b x i
section
variable {d d' N : Nat} {a a' a1 b b' b1 : AM} {D v : Int}
theorem AX.dx (h : AX a a') : DX D a a' := ⟨h.1, fun x i hx => h.2 x i (fun z => hx (Or.inl z))⟩
theorem NX.dm (h : NX b b') : DM b b' := ⟨h.1, fun x i hx => h.2 x i (fun z => hx (Or.inl ⟨z.1, Or.inl z.2⟩))⟩
theorem NW.dm {p : Int} (h : NW b b' p) (h0 : 80 ≤ p) : DM b b' := ⟨h.1, fun x i hx => h.2 x i (fun z => hx (Or.inl ⟨z.1, Or.inl z.2⟩)) (fun z => hx (Or.inr (Or.inr ⟨z.1, by omega⟩)))⟩
theorem DX.tr (h : DX D a a1) (h2 : DX D a1 a') : DX D a a' := ⟨h2.1.trans h.1, fun x i hx => (h2.2 x i hx).trans (h.2 x i hx)⟩
theorem DM.tr (h : DM b b1) (h2 : DM b1 b') : DM b b' := ⟨h2.1.trans h.1, fun x i hx => (h2.2 x i hx).trans (h.2 x i hx)⟩
theorem DX.wr {x i v : Int} (h : DX D a a') (hz : ZD D x i) : DX D a (mwr a' x i v) := ⟨h.1, fun y j hy => by
  rw [rd_wr, if_neg (fun z => hy (by rw [z.1, z.2]; exact hz))]; exact h.2 y j hy⟩
theorem DM.wr {x i v : Int} (h : DM b b') (hz : ZM x i) : DM b (mwr b' x i v) := ⟨h.1, fun y j hy => by
  rw [rd_wr, if_neg (fun z => hy (by rw [z.1, z.2]; exact hz))]; exact h.2 y j hy⟩
theorem RDX.dx (h : RDX a N) (hD : D = 162 ∨ D = 195) (hA : DX D a a') : RDX a' N := by
  have hd : ∀ q ∈ refT, ¬ ZD 162 q.1 q.2.1 ∧ ¬ ZD 195 q.1 q.2.1 := by decide +kernel
  have h3 : ¬ ZD 162 110 3 ∧ ¬ ZD 195 110 3 := by decide +kernel
  refine ⟨Shp_2 hA.1 h.1, fun q hq => ?_, ?_, h.2.2.2⟩
  · have := hd q hq
    rw [← h.2.1 q hq]
    refine hA.2 _ _ ?_
    rcases hD with rfl | rfl
    · exact this.1
    · exact this.2
  · rw [hA.2 _ _ ?_]
    · exact h.2.2.1
    · rcases hD with rfl | rfl
      · exact h3.1
      · exact h3.2
theorem RDM.dm (h : RDM b N) (hA : DM b b') : RDM b' N := by
  have sh := Shp_2 hA.1 h.1.2.1
  have hd : ∀ q ∈ refT, ¬ ZM q.1 q.2.1 := by decide +kernel
  refine ⟨⟨kn_235 sh, sh, fun q hq => ?_⟩, by rw [hA.2 _ _ (by decide)]; exact h.2.1, h.2.2.1, fun j j0 j1 => by rw [hA.2 _ _ (by unfold ZM; omega)]; exact h.2.2.2 j j0 j1⟩
  rw [← h.1.2.2 q hq]
  exact hA.2 _ _ (hd q hq)
theorem J_a {x : Int} (h : x < 235) : (mx a b).1 x = a.1 x := funext fun i => if_neg (by omega)
theorem J_b {x : Int} (h : 235 ≤ x) (h1 : x < 258) : (mx a b).1 x = b.1 x := funext fun i => if_pos ⟨h, h1⟩
theorem RLes_up {m m' : Int → Int → Int} {s B w l : Int} (e1 : m' (s + 13 + l) = m (s + 13 + l)) (e5 : m s 5 ≤ m' s 5) (c1 : m' 240 (B + 4 + l) = m 240 (B + 4 + l)) (c2 : m' 240 (B + 16 + l) = m 240 (B + 16 + l)) (c3 : m' 240 (B + 28 + l) = m 240 (B + 28 + l)) (c4 : m' 240 (B + 40 + l) = m 240 (B + 40 + l)) (c5 : m' 240 (B + 52 + l) = m 240 (B + 52 + l)) (c6 : m' 242 (w + 4 + l) = m 242 (w + 4 + l)) (h : RLes m s B w l) : RLes m' s B w l := by
  unfold RLes at h ⊢
  rw [e1, c1, c2, c3, c4, c5, c6]
  obtain ⟨h1, h2, h3, h4, h5, h6, h7⟩ := h
  exact ⟨h1, h2, h3, h4, h5, ⟨h6.1, h6.2.1, by omega⟩, h7⟩
theorem RChi_up {m m' : Int → Int → Int} {s B w k : Int} (e1 : m' (s + 25 + 2 * k) = m (s + 25 + 2 * k)) (e2 : m' (s + 26 + 2 * k) = m (s + 26 + 2 * k)) (e6 : m s 6 ≤ m' s 6) (c1 : m' 240 (B + 64 + k) = m 240 (B + 64 + k)) (c2 : m' 240 (B + 68 + k) = m 240 (B + 68 + k)) (c3 : m' 240 (B + 72 + k) = m 240 (B + 72 + k)) (c4 : m' 240 (B + 76 + k) = m 240 (B + 76 + k)) (c5 : ∀ p, 0 ≤ p → m' 240 (B + 80 + 12 * k + p) = m 240 (B + 80 + 12 * k + p)) (c6 : m' 242 (w + 16 + k) = m 242 (w + 16 + k)) (h : RChi m s B w k) : RChi m' s B w k := by
  unfold RChi at h ⊢
  rw [e1, e2, c1, c2, c3, c4, c6]
  obtain ⟨h1, h2, h3, h4, h5, h6, h7, h8⟩ := h
  refine ⟨h1, h2, h3, h4, h5, fun p p0 p1 => ?_, h7, h8⟩
  rw [c5 p p0]
  have := h6 p p0 p1
  exact ⟨this.1, this.2.1, by omega⟩
/-- the draft, as far as it is read -/
def DR (D : Int) (a b : AM) : Prop :=
  NmR D a b ∧ (mrd a D 8 = mrd b 240 1643 ∧ 1 ≤ mrd a D 8 ∧ mrd a D 8 ≤ 9) ∧ (mrd a D 9 = mrd b 235 24 ∧ (mrd a D 9 = 0 ∨ mrd a D 9 = 1)) ∧
  (∀ l, 0 ≤ l → l < mrd a D 6 → RLes (mx a b).1 D 1640 80 l) ∧ (∀ k, 0 ≤ k → k < mrd a D 7 → RChi (mx a b).1 D 1640 80 k) ∧
  (∀ l, mrd a D 6 ≤ l → l < 12 → mrd b 240 (1668 + l) = 0) ∧ (∀ k, mrd a D 7 ≤ k → k < 4 → mrd b 240 (1704 + k) = 0 ∧ mrd b 240 (1708 + k) = 0) ∧
  (∀ k, 0 ≤ k → k < 4 → mrd b 240 (1712 + k) = 0 ∧ mrd b 240 (1716 + k) = 0) ∧ mrd b 240 1768 = 0
/-- the draft moves on: what was read stays -/
theorem DR.up (h : DR D a b) (hD : D = 162 ∨ D = 195) (n' : NmR D a' b') (h8 : mrd a' D 8 = mrd b' 240 1643 ∧ 1 ≤ mrd a' D 8 ∧ mrd a' D 8 ≤ 9) (h9 : mrd a' D 9 = mrd b' 235 24 ∧ (mrd a' D 9 = 0 ∨ mrd a' D 9 = 1)) (g5 : mrd a D 5 ≤ mrd a' D 5) (g6 : mrd a D 6 ≤ mrd a' D 6) (g7 : mrd a D 7 ≤ mrd a' D 7)
    (eL : ∀ l i, 0 ≤ l → l < mrd a D 6 → mrd a' (D + 13 + l) i = mrd a (D + 13 + l) i) (eC : ∀ k i, 0 ≤ k → k < mrd a D 7 → mrd a' (D + 25 + 2 * k) i = mrd a (D + 25 + 2 * k) i ∧ mrd a' (D + 26 + 2 * k) i = mrd a (D + 26 + 2 * k) i)
    (cL : ∀ l, 0 ≤ l → l < mrd a D 6 → mrd b' 240 (1640 + 4 + l) = mrd b 240 (1640 + 4 + l) ∧ mrd b' 240 (1640 + 16 + l) = mrd b 240 (1640 + 16 + l) ∧ mrd b' 240 (1640 + 28 + l) = mrd b 240 (1640 + 28 + l) ∧ mrd b' 240 (1640 + 40 + l) = mrd b 240 (1640 + 40 + l) ∧ mrd b' 240 (1640 + 52 + l) = mrd b 240 (1640 + 52 + l) ∧ mrd b' 242 (80 + 4 + l) = mrd b 242 (80 + 4 + l))
    (cC : ∀ k, 0 ≤ k → k < mrd a D 7 → mrd b' 240 (1640 + 64 + k) = mrd b 240 (1640 + 64 + k) ∧ mrd b' 240 (1640 + 68 + k) = mrd b 240 (1640 + 68 + k) ∧ mrd b' 242 (80 + 16 + k) = mrd b 242 (80 + 16 + k))
    (c0 : ∀ i, 1712 ≤ i → mrd b' 240 i = mrd b 240 i)
    (nL : ∀ l, mrd a D 6 ≤ l → l < mrd a' D 6 → RLes (mx a' b').1 D 1640 80 l) (nC : ∀ k, mrd a D 7 ≤ k → k < mrd a' D 7 → RChi (mx a' b').1 D 1640 80 k)
    (zL : ∀ l, mrd a' D 6 ≤ l → l < 12 → mrd b' 240 (1668 + l) = mrd b 240 (1668 + l)) (zC : ∀ k, mrd a' D 7 ≤ k → k < 4 → mrd b' 240 (1704 + k) = mrd b 240 (1704 + k) ∧ mrd b' 240 (1708 + k) = mrd b 240 (1708 + k)) : DR D a' b' := by
  obtain ⟨p1, p2, p3, p4, p5, p6, p7, p8, p9⟩ := h
  have D0 : D < 200 := by omega
  have b6 := p1.2.1.2.2
  have b7 := p1.2.2.1.2.2
  have hD5 : (mx a b).1 D 5 ≤ (mx a' b').1 D 5 := by rw [J_a (by omega), J_a (by omega)]; exact g5
  have hD6 : (mx a b).1 D 6 ≤ (mx a' b').1 D 6 := by rw [J_a (by omega), J_a (by omega)]; exact g6
  have jb : ∀ x i, 235 ≤ x → x < 258 → mrd b' x i = mrd b x i → (mx a' b').1 x i = (mx a b).1 x i := fun x i h0 h1 e => by rw [J_b h0 h1, J_b h0 h1]; exact e
  have ja : ∀ x, x < 235 → (∀ i, mrd a' x i = mrd a x i) → (mx a' b').1 x = (mx a b).1 x := fun x h0 e => by rw [J_a h0, J_a h0]; exact funext e
  refine ⟨n', h8, h9, fun l l0 l1 => ?_, fun k k0 k1 => ?_, fun l l0 l1 => ?_, fun k k0 k1 => ?_, fun k k0 k1 => ?_, ?_⟩
  · by_cases c : l < mrd a D 6
    · obtain ⟨x1, x2, x3, x4, x5, x6⟩ := cL l l0 c
      exact RLes_up (ja _ (by omega) (fun i => eL l i l0 c)) hD5 (jb _ _ (by decide) (by decide) x1) (jb _ _ (by decide) (by decide) x2) (jb _ _ (by decide) (by decide) x3) (jb _ _ (by decide) (by decide) x4) (jb _ _ (by decide) (by decide) x5) (jb _ _ (by decide) (by decide) x6) (p4 l l0 c)
    · exact nL l (by omega) l1
  · by_cases c : k < mrd a D 7
    · obtain ⟨x1, x2, x3⟩ := cC k k0 c
      exact RChi_up (ja _ (by omega) (fun i => (eC k i k0 c).1)) (ja _ (by omega) (fun i => (eC k i k0 c).2)) hD6 (jb _ _ (by decide) (by decide) x1) (jb _ _ (by decide) (by decide) x2) (jb _ _ (by decide) (by decide) (c0 _ (by omega))) (jb _ _ (by decide) (by decide) (c0 _ (by omega))) (fun p q0 => jb _ _ (by decide) (by decide) (c0 _ (by omega))) (jb _ _ (by decide) (by decide) x3) (p5 k k0 c)
    · exact nC k (by omega) k1
  · rw [zL l l0 l1]; exact p6 l (by omega) l1
  · rw [(zC k k0 k1).1, (zC k k0 k1).2]; exact p7 k (by omega) k1
  · rw [c0 _ (by omega), c0 _ (by omega)]; exact p8 k k0 k1
  · rw [c0 _ (by omega)]; exact p9
/-- .. and is left alone by the readers -/
theorem DR.fr (h : DR D a b) (hD : D = 162 ∨ D = 195) (hA : AX a a') (hB : NX b b') : DR D a' b' := by
  have ea : ∀ x i, x ≠ 110 → mrd a' x i = mrd a x i := fun x i hx => hA.2 x i (by omega)
  have eb : ∀ x i, x ≠ 235 → mrd b' x i = mrd b x i := fun x i hx => hB.2 x i (by omega)
  have e24 : mrd b' 235 24 = mrd b 235 24 := hB.2 _ _ (by omega)
  have p1 := h.1
  have b6 := p1.2.1.2.2
  have b7 := p1.2.2.1.2.2
  have E5 := ea D 5 (by omega)
  have E6 := ea D 6 (by omega)
  have E7 := ea D 7 (by omega)
  refine h.up hD (h.1.fr hD hA hB) ?_ ?_ (by omega) (by omega) (by omega) (fun l i l0 l1 => ea _ _ (by omega)) (fun k i k0 k1 => ⟨ea _ _ (by omega), ea _ _ (by omega)⟩) (fun l _ _ => ⟨eb _ _ (by decide), eb _ _ (by decide), eb _ _ (by decide), eb _ _ (by decide), eb _ _ (by decide), eb _ _ (by decide)⟩) (fun k _ _ => ⟨eb _ _ (by decide), eb _ _ (by decide), eb _ _ (by decide)⟩) (fun i _ => eb _ _ (by decide)) (fun l l0 l1 => by omega) (fun k k0 k1 => by omega) (fun l _ _ => eb _ _ (by decide)) (fun k _ _ => ⟨eb _ _ (by decide), eb _ _ (by decide)⟩)
  · rw [ea D 8 (by omega), eb _ _ (by decide)]; exact h.2.1
  · rw [ea D 9 (by omega), e24]; exact h.2.2.1
end

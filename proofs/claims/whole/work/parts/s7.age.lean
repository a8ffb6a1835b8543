/-! age: steps in a row, and how they hold one another -/
def dq (nx : Int → Int) (x : Nat) : Nat → Nat
  | 0 => 0
  | n + 1 => dq nx x n + (if (x : Int) < nx n then 1 else 0)
theorem dep_dq (nx : Int → Int) (p : Nat) : dep nx p = dq nx p p := by
  have key : ∀ n, ((List.range n).filter (fun q : Nat => decide ((p : Int) < nx (q : Int)))).length = dq nx p n := by
    intro n
    induction n with
    | zero => rfl
    | succ n ih =>
      rw [List.range_succ, List.filter_append, List.length_append, ih, dq]
      congr 1
      by_cases c : (p : Int) < nx n
      · rw [if_pos c]
        simp [c]
      · rw [if_neg c]
        simp [c]
  exact key p
theorem dq_diff {nx nx' : Int → Int} {x A : Nat} : ∀ n, (∀ q : Nat, A ≤ q → q < A + n → nx' q = nx q) → dq nx' x (A + n) + dq nx x A = dq nx x (A + n) + dq nx' x A
  | 0, _ => by rw [Nat.add_zero]; omega
  | n + 1, h => by
    have ih := dq_diff (x := x) n (fun q q0 q1 => h q q0 (by omega))
    rw [← Nat.add_assoc, dq, dq, h (A + n) (by omega) (by omega)]
    omega
theorem dq_none {nx : Int → Int} {x A : Nat} : ∀ n, (∀ q : Nat, A ≤ q → q < A + n → nx q ≤ x) → dq nx x (A + n) = dq nx x A
  | 0, _ => rfl
  | n + 1, h => by
    have ih := dq_none (x := x) n (fun q q0 q1 => h q q0 (by omega))
    have := h (A + n) (by omega) (by omega)
    rw [← Nat.add_assoc, dq, if_neg (by omega), ih, Nat.add_zero]
theorem dq_one {nx : Int → Int} {x A : Nat} : dq nx x (A + 1) ≤ dq nx x A + 1 := by
  rw [dq]
  split <;> omega
/-- steps S to S' are read, at most K of them about another -/
def SG (G nc nl : Int) (S S' K : Nat) (a b : AM) : Prop :=
  (∀ p : Int, S ≤ p → p < S' → RStp (mx a b).1 G 1640 nc nl p ∧ mrd a (G + 5) p ≤ S') ∧
  (∀ p q : Int, S ≤ p → p < S' → p < q → q < mrd a (G + 5) p → mrd a (G + 5) q ≤ mrd a (G + 5) p) ∧
  ∀ p : Nat, S ≤ p → p < S' → dq (mrd a (G + 5)) p p ≤ dq (mrd a (G + 5)) p S + K
section
variable {a a' b b' : AM} {G nc nl : Int} {S S1 S' K : Nat}
theorem RStp_mv {p : Int} (bG : G ≤ 228) (eA : ∀ j, 1 ≤ j → j ≤ 5 → mrd a' (G + j) p = mrd a (G + j) p) (eB : ∀ i, 1770 + 9 * p ≤ i → i ≤ 1778 + 9 * p → mrd b' 240 i = mrd b 240 i) (e7 : mrd a G 7 ≤ mrd a' G 7) (h : RStp (mx a b).1 G 1640 nc nl p) : RStp (mx a' b').1 G 1640 nc nl p := by
  have ja : ∀ j, 1 ≤ j → j ≤ 5 → (mx a' b').1 (G + j) p = (mx a b).1 (G + j) p := fun j j0 j1 => by
    rw [J_a (by omega), J_a (by omega)]; exact eA j j0 j1
  have jb : ∀ i, 1770 + 9 * p ≤ i → i ≤ 1778 + 9 * p → (mx a' b').1 240 i = (mx a b).1 240 i := fun i i0 i1 => by
    rw [J_b (by decide) (by decide), J_b (by decide) (by decide)]; exact eB i i0 i1
  have j7 : (mx a b).1 G 7 ≤ (mx a' b').1 G 7 := by rw [J_a (by omega), J_a (by omega)]; exact e7
  unfold RStp at h ⊢
  rw [ja 5 (by decide) (by decide), ja 2 (by decide) (by decide), ja 1 (by decide) (by decide), ja 3 (by decide) (by decide), ja 4 (by decide) (by decide), jb (1640 + 138 + 9 * p) (by omega) (by omega), jb (1640 + 130 + 9 * p) (by omega) (by omega), jb (1640 + 131 + 9 * p) (by omega) (by omega), jb (1640 + 132 + 9 * p) (by omega) (by omega), jb (1640 + 136 + 9 * p) (by omega) (by omega), jb (1640 + 137 + 9 * p) (by omega) (by omega)]
  exact ⟨⟨h.1.1, h.1.2.1, Int.le_trans h.1.2.2 j7⟩, h.2⟩
theorem RStp_of {p k : Int} (bG : G ≤ 228) (sd : SD G nc nl p k a b) (ek : mrd b 240 (1770 + 9 * p) = k) (k0 : 0 ≤ k) (k7 : k ≤ 7) (en : mrd a (G + 5) p = mrd b 240 (1778 + 9 * p)) (n0 : p + 1 ≤ mrd a (G + 5) p) (n1 : mrd a (G + 5) p ≤ mrd a G 7) (n2 : bk k = 0 → mrd a (G + 5) p = p + 1) : RStp (mx a b).1 G 1640 nc nl p := by
  obtain ⟨s1, s2, s3, s4, s5, s6, s7, s8, s9⟩ := sd
  have ja : ∀ j, 1 ≤ j → j ≤ 5 → (mx a b).1 (G + j) p = mrd a (G + j) p := fun j j0 j1 => by
    rw [J_a (by omega)]; rfl
  have jb : ∀ i j, i = j → (mx a b).1 240 i = mrd b 240 j := fun i j e => by
    rw [J_b (by decide) (by decide), e]; rfl
  have j7 : (mx a b).1 G 7 = mrd a G 7 := by rw [J_a (by omega)]; rfl
  unfold RStp
  rw [ja 5 (by decide) (by decide), ja 2 (by decide) (by decide), ja 1 (by decide) (by decide), ja 3 (by decide) (by decide), ja 4 (by decide) (by decide), j7, jb (1640 + 138 + 9 * p) (1778 + 9 * p) (by omega), jb (1640 + 130 + 9 * p) (1770 + 9 * p) (by omega), jb (1640 + 131 + 9 * p) (1771 + 9 * p) (by omega), jb (1640 + 132 + 9 * p) (1772 + 9 * p) (by omega), jb (1640 + 136 + 9 * p) (1776 + 9 * p) (by omega), jb (1640 + 137 + 9 * p) (1777 + 9 * p) (by omega), ek]
  have b0 : ¬ (k = 5 ∨ k = 6) → mrd a (G + 5) p = p + 1 := fun z => n2 (if_neg z)
  exact ⟨⟨en, n0, n1⟩, s1, s2, fun z => ⟨b0 (by omega), s3 z⟩, k0, k7, s4, s5, s6, s7, s8, fun z => ⟨s9 z, b0 (by omega)⟩⟩
theorem SG.nil : SG G nc nl S S K a b := ⟨fun p p0 p1 => by omega, fun p q p0 p1 => by omega, fun p p0 p1 => by omega⟩
theorem SG.mv (h : SG G nc nl S S' K a b) (bG : G ≤ 228) (eA : ∀ j p, 1 ≤ j → j ≤ 5 → (S : Int) ≤ p → p < S' → mrd a' (G + j) p = mrd a (G + j) p) (eB : ∀ i, 1770 + 9 * (S : Int) ≤ i → i < 1770 + 9 * S' → mrd b' 240 i = mrd b 240 i) (e7 : mrd a G 7 ≤ mrd a' G 7) : SG G nc nl S S' K a' b' := by
  obtain ⟨h1, h2, h3⟩ := h
  refine ⟨fun p p0 p1 => ?_, fun p q p0 p1 pq => ?_, fun p p0 p1 => ?_⟩
  · rw [eA 5 p (by decide) (by decide) p0 p1]
    exact ⟨RStp_mv bG (fun j j0 j1 => eA j p j0 j1 p0 p1) (fun i i0 i1 => eB i (by omega) (by omega)) e7 (h1 p p0 p1).1, (h1 p p0 p1).2⟩
  · rw [eA 5 p (by decide) (by decide) p0 p1]
    intro hq
    have := (h1 p p0 p1).2
    rw [eA 5 q (by decide) (by decide) (by omega) (by omega)]
    exact h2 p q p0 p1 pq hq
  · have := dq_diff (nx := mrd a (G + 5)) (nx' := mrd a' (G + 5)) (x := p) (A := S) (p - S) (fun q q0 q1 => eA 5 q (by decide) (by decide) (by omega) (by omega))
    rw [show S + (p - S) = p by omega] at this
    have := h3 p p0 p1
    omega
theorem SG.cat (h : SG G nc nl S S1 K a b) (g : SG G nc nl S1 S' K a b) (h0 : S ≤ S1) (h1 : S1 ≤ S') : SG G nc nl S S' K a b := by
  obtain ⟨p1, p2, p3⟩ := h
  obtain ⟨g1, g2, g3⟩ := g
  refine ⟨fun p x0 x1 => ?_, fun p q x0 x1 pq => ?_, fun p x0 x1 => ?_⟩
  · by_cases c : p < S1
    · exact ⟨(p1 p x0 c).1, by have := (p1 p x0 c).2; omega⟩
    · exact g1 p (by omega) x1
  · by_cases c : p < S1
    · exact p2 p q x0 c pq
    · exact g2 p q (by omega) x1 pq
  · by_cases c : p < S1
    · exact p3 p x0 c
    · have e := dq_none (nx := mrd a (G + 5)) (x := p) (A := S) (S1 - S) (fun q q0 q1 => by have := (p1 q (by omega) (by omega)).2; omega)
      rw [show S + (S1 - S) = S1 by omega] at e
      have := g3 p (by omega) x1
      omega
theorem SG.one {k : Int} (bG : G ≤ 228) (sd : SD G nc nl S k a b) (ek : mrd b 240 (1770 + 9 * (S : Int)) = k) (k0 : 0 ≤ k) (k7 : k ≤ 7) (e1 : mrd a (G + 5) S = S + 1) (e2 : mrd b 240 (1778 + 9 * (S : Int)) = S + 1) (e7 : mrd a G 7 = S + 1) : SG G nc nl S (S + 1) K a b := by
  refine ⟨fun p p0 p1 => ?_, fun p q p0 p1 pq hq => ?_, fun p p0 p1 => ?_⟩
  · have e : p = S := by omega
    subst e
    exact ⟨RStp_of bG sd ek k0 k7 (by omega) (by omega) (by omega) (fun _ => e1), by omega⟩
  · have e : p = S := by omega
    subst e
    omega
  · have e : p = S := by omega
    subst e
    omega
/-- a block is closed -/
theorem SG.close {k : Int} (h : SG G nc nl (S + 1) S' K a b) (hS : S + 1 ≤ S') (bG : G ≤ 228) (eA : ∀ j p, 1 ≤ j → j ≤ 5 → (S : Int) + 1 ≤ p → p < S' → mrd a' (G + j) p = mrd a (G + j) p) (eB : ∀ i, 1770 + 9 * ((S : Int) + 1) ≤ i → i < 1770 + 9 * S' → mrd b' 240 i = mrd b 240 i) (e7 : mrd a G 7 ≤ mrd a' G 7) (f7 : (S' : Int) ≤ mrd a' G 7) (sd : SD G nc nl S k a' b') (ek : mrd b' 240 (1770 + 9 * (S : Int)) = k) (k0 : 0 ≤ k) (k7 : k ≤ 7) (hb : bk k = 1) (e1 : mrd a' (G + 5) S = S') (e2 : mrd b' 240 (1778 + 9 * (S : Int)) = S') : SG G nc nl S S' (K + 1) a' b' := by
  have h' : SG G nc nl (S + 1) S' K a' b' := h.mv bG (fun j p j0 j1 p0 p1 => eA j p j0 j1 (by omega) p1) (fun i i0 i1 => eB i (by omega) i1) e7
  obtain ⟨h1, h2, h3⟩ := h'
  refine ⟨fun p p0 p1 => ?_, fun p q p0 p1 pq hq => ?_, fun p p0 p1 => ?_⟩
  · by_cases c : p = S
    · subst c
      exact ⟨RStp_of bG sd ek k0 k7 (by omega) (by omega) (by omega) (fun z => by omega), by omega⟩
    · exact h1 p (by omega) p1
  · by_cases c : p = S
    · subst c
      have := (h1 q (by omega) (by omega)).2
      omega
    · exact h2 p q (by omega) p1 pq hq
  · by_cases c : p = S
    · subst c
      omega
    · have := h3 p (by omega) p1
      have := dq_one (nx := mrd a' (G + 5)) (x := p) (A := S)
      omega
end

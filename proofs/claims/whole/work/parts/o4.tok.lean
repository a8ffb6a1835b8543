/-! tokens: both readers, side by side -/
theorem wv_congr {T T' : Int → Int} {q : Nat} : ∀ m : Nat, (∀ j : Nat, j < m → T ((q + j : Nat) : Int) = T' ((q + j : Nat) : Int)) → wv T q m = wv T' q m
  | 0, _ => rfl
  | m + 1, h => by rw [wv, wv, wv_congr m (fun j hj => h j (by omega)), h m (by omega)]
theorem dgv_congr {T T' : Int → Int} {q : Nat} : ∀ m : Nat, (∀ j : Nat, j < m → T ((q + j : Nat) : Int) = T' ((q + j : Nat) : Int)) → dgv T q m = dgv T' q m
  | 0, _ => rfl
  | m + 1, h => by rw [dgv, dgv, dgv_congr m (fun j hj => h j (by omega)), h m (by omega)]
section
variable {T T' : Int → Int} {N P q : Nat}
theorem skp_congr (h : ∀ j : Nat, j < N → T j = T' j) : skp T N P = skp T' N P := fI_congr _ _ (fun j _ hj => by rw [h j (by omega)])
theorem wen_congr (h : ∀ j : Nat, j < N → T j = T' j) : wen T N q = wen T' N q := fI_congr _ _ (fun j _ hj => by rw [h j (by omega)])
theorem den_congr (h : ∀ j : Nat, j < N → T j = T' j) : den T N q = den T' N q := fI_congr _ _ (fun j _ hj => by rw [h j (by omega)])
theorem tkK_congr (h : ∀ j : Nat, j < N → T j = T' j) : tkK T N q = tkK T' N q := by
  unfold tkK
  by_cases c : q < N
  · rw [if_pos c, if_pos c, h q c, den_congr h]
  · rw [if_neg c, if_neg c]
theorem tkE_congr (h : ∀ j : Nat, j < N → T j = T' j) : tkE T N q = tkE T' N q := by
  unfold tkE
  by_cases c : q < N
  · rw [if_pos c, if_pos c, h q c, den_congr h, wen_congr h]
  · rw [if_neg c, if_neg c]
/-- what a token's kind says of its place and its end -/
theorem tk_f (hq : q ≤ N) : (0 ≤ tkK T N q ∧ tkK T N q ≤ 4) ∧ (q ≤ tkE T N q ∧ tkE T N q ≤ N) ∧ (tkK T N q ≠ 4 → tkK T N q ≠ 0 → q < tkE T N q) ∧ (tkK T N q = 1 → ∀ j : Nat, j < tkE T N q - q → lte (T ((q + j : Nat) : Int)) = true) ∧ (tkK T N q = 2 → tkE T N q - q ≤ 4 ∧ ∀ j : Nat, j < tkE T N q - q → dgi (T ((q + j : Nat) : Int)) = true) ∧ (tkK T N q = 3 → q < N ∧ sgn_ (T q) = true) := by
  obtain ⟨w1, w2, w3⟩ := wen_rng (T := T) hq
  obtain ⟨d1, d2, d3⟩ := den_rng (T := T) hq
  have wl : lte (T q) = true → q < N → q < wen T N q := fun hl hN => by
    unfold wen
    rw [show N - q = (N - q - 1) + 1 by omega, fI, show (!lte (T ((q : Nat) : Int))) = false by rw [hl]; rfl, if_neg (by decide)]
    have := fI_rng (fun j => !lte (T ((j : Nat) : Int))) (N - q - 1) (q + 1)
    omega
  have dl : dgi (T q) = true → q < N → q < den T N q := fun hl hN => by
    unfold den
    rw [show N - q = (N - q - 1) + 1 by omega, fI, show (!dgi (T ((q : Nat) : Int))) = false by rw [hl]; rfl, if_neg (by decide)]
    have := fI_rng (fun j => !dgi (T ((j : Nat) : Int))) (N - q - 1) (q + 1)
    omega
  unfold tkK tkE
  by_cases c : q < N
  · simp only [if_pos c]
    by_cases c1 : lte (T q) = true
    · simp only [if_pos c1]
      exact ⟨by omega, ⟨w1, w2⟩, fun _ _ => wl c1 c, fun _ j hj => w3 _ (by omega) (by omega), fun z => by omega, fun z => by omega⟩
    · simp only [if_neg c1]
      by_cases c2 : dgi (T q) = true
      · simp only [if_pos c2]
        by_cases c3 : 4 < den T N q - q
        · simp only [if_pos c3]
          exact ⟨by omega, ⟨d1, d2⟩, fun z => absurd rfl z, fun z => by omega, fun z => by omega, fun z => by omega⟩
        · simp only [if_neg c3]
          exact ⟨by omega, ⟨d1, d2⟩, fun _ _ => dl c2 c, fun z => by omega, fun _ => ⟨by omega, fun j hj => d3 _ (by omega) (by omega)⟩, fun z => by omega⟩
      · simp only [if_neg c2]
        by_cases c3 : sgn_ (T q) = true
        · simp only [if_pos c3]
          exact ⟨by omega, by omega, fun _ _ => by omega, fun z => by omega, fun z => by omega, fun _ => ⟨c, c3⟩⟩
        · simp only [if_neg c3]
          exact ⟨by omega, by omega, fun z => absurd rfl z, fun z => by omega, fun z => by omega, fun z => by omega⟩
  · simp only [if_neg c]
    exact ⟨by omega, by omega, fun _ z => absurd rfl z, fun z => by omega, fun z => by omega, fun z => by omega⟩
end
/-- both stand on the same token -/
def TG (N : Nat) (a b : AM) : Prop :=
  (mrd a 110 5 = mrd b 235 14 ∧ 0 ≤ mrd b 235 14 ∧ mrd b 235 14 ≤ 4) ∧ (mrd a 110 6 = mrd b 235 15 ∧ 0 ≤ mrd b 235 15 ∧ mrd b 235 15 ≤ N) ∧
  (mrd b 235 14 ≠ 4 → mrd a 110 4 = mrd b 235 16 ∧ mrd b 235 15 ≤ mrd b 235 16 ∧ mrd b 235 16 ≤ N ∧ (mrd b 235 14 ≠ 0 → mrd b 235 15 < mrd b 235 16)) ∧ (mrd b 235 14 ≠ 1 → mrd a 110 8 = -1) ∧
  (mrd b 235 14 = 1 → mrd b 235 18 = mrd b 235 16 - mrd b 235 15 ∧ (mrd b 235 18 ≤ 8 → mrd a 110 7 = mrd b 235 19 ∧ 0 ≤ mrd b 235 19 ∧ mrd a 110 8 = wi (mrd b 235 19) 23) ∧ (8 < mrd b 235 18 → mrd a 110 8 = -1 ∧ mrd b 235 19 = -1) ∧ (mrd b 235 18 = 1 → mrd b 235 19 = mrd b 239 (mrd b 235 15) - 96 ∧ 1 ≤ mrd b 235 19 ∧ mrd b 235 19 ≤ 26)) ∧
  (mrd b 235 14 = 2 → mrd a 110 7 = mrd b 235 17 ∧ 0 ≤ mrd b 235 17 ∧ mrd b 235 17 ≤ 9999) ∧ (mrd b 235 14 = 3 → mrd a 110 7 = mrd b 235 17 ∧ sgn_ (mrd b 235 17) = true)
theorem adv_both {d d' N : Nat} {a b : AM} (hx : RDX a N) (hy : RDM b N) (hT : ∀ i : Int, 0 ≤ i → i < N → mrd a 111 i = mrd b 239 i) {P : Int} (hP : mrd a 110 4 = P) (hP' : mrd b 235 16 = P) (P0 : 0 ≤ P) (PN : P ≤ N) : ∃ a' b', EV (d + 1) 35 0 [(2, 110)] [] a = some ((3, 0), a') ∧ EV (d' + 1) 193 0 [(2, 235), (3, 0)] [] b = some ((3, 0), b') ∧ AF a a' ∧ NF b b' ∧ TG N a' b' ∧ P ≤ mrd b' 235 15 := by
  obtain ⟨p, rfl⟩ := Int.eq_ofNat_of_zero_le P0
  have pN : p ≤ N := by omega
  obtain ⟨a', x1, x2, x3⟩ := x_advance (d := d) hx hP pN
  obtain ⟨b', y1, y2, y3⟩ := m_next (d := d') hy hP' pN
  have hT' : ∀ j : Nat, j < N → mrd a 111 j = mrd b 239 j := fun j hj => hT j (by omega) (by omega)
  rw [skp_congr hT', tkE_congr hT', tkK_congr hT'] at x3
  have hs := fI_rng (fun j => !bl_ (mrd b 239 ((j : Nat) : Int))) (N - p) p
  rw [show fI (fun j => !bl_ (mrd b 239 ((j : Nat) : Int))) p (N - p) = skp (mrd b 239) N p from rfl] at hs
  obtain ⟨q, hq⟩ : ∃ q, q = skp (mrd b 239) N p := ⟨_, rfl⟩
  rw [← hq] at x3 y3 hs
  obtain ⟨f1, f2, f3, f4, f5, f6⟩ := tk_f (T := mrd b 239) (N := N) (q := q) (by omega)
  obtain ⟨K, hK⟩ : ∃ K, K = tkK (mrd b 239) N q := ⟨_, rfl⟩
  obtain ⟨e, he⟩ : ∃ e, e = tkE (mrd b 239) N q := ⟨_, rfl⟩
  rw [← hK] at x3 y3 f1 f3 f4 f5 f6
  rw [← he] at x3 y3 f2 f3 f4 f5
  obtain ⟨a1, a2, a3, a4, a5, a6, a7⟩ := x3
  obtain ⟨b1, b2, b3, b4, b5, b6⟩ := y3
  have bT : ∀ i, mrd b' 239 i = mrd b 239 i := fun i => y2.2 _ _ (by omega)
  refine ⟨a', b', x1, y1, x2, y2, ?_, by rw [b2]; omega⟩
  unfold TG
  rw [b1, b2]
  refine ⟨⟨a1, f1⟩, ⟨a2, by omega, by omega⟩, fun z => ?_, a4, fun z => ?_, fun z => ?_, fun z => ?_⟩
  · rw [b3 z, a3 z]
    exact ⟨rfl, by omega, by omega, fun y => by have := f3 z y; omega⟩
  · obtain ⟨c1, c2⟩ := b4 z
    obtain ⟨c3, c4⟩ := a5 z
    have hl := f4 z
    have lt := f3 (by omega) (by omega)
    rw [b3 (by omega), c1]
    refine ⟨by omega, fun h8 => ?_, fun h8 => ?_, fun h1 => ?_⟩
    · rw [if_pos (by omega)] at c2 c4
      have r := wv_rng (T := mrd b 239) (q := q) (e - q) (by omega) hl
      have ew : wv (mrd a 111) q (min (e - q) 8) = wv (mrd b 239) q (e - q) := by
        rw [min_self (by omega)]
        exact wv_congr _ (fun j hj => hT' _ (by omega))
      have ew2 : wv (mrd a 111) q (e - q) = wv (mrd b 239) q (e - q) := wv_congr _ (fun j hj => hT' _ (by omega))
      rw [c3, ew, c2, c4, ew2]
      exact ⟨rfl, r.1, rfl⟩
    · rw [if_neg (by omega)] at c2 c4
      exact ⟨c4, c2⟩
    · rw [if_pos (by omega)] at c2
      have e1 : e - q = 1 := by omega
      have hl0 := hl 0 (by omega)
      simp only [lte, decide_eq_true_eq, Nat.add_zero] at hl0
      rw [c2, e1, wv, wv, bT, Nat.add_zero]
      exact ⟨by omega, by omega, by omega⟩
  · obtain ⟨g1, g2⟩ := f5 z
    have r := dgv_rng (T := mrd b 239) (q := q) (e - q) g1 g2
    have p := p10 g1
    rw [a6 z, b5 z, dgv_congr (T := mrd a 111) (T' := mrd b 239) _ (fun j hj => hT' _ (by omega))]
    exact ⟨rfl, by omega, by omega⟩
  · obtain ⟨g1, g2⟩ := f6 z
    rw [a7 z, b6 z, hT' q g1]
    exact ⟨rfl, g2⟩

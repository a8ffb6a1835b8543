/-! how many letters must be dropped -/
def rnF (v : Nat → Int) : Nat → Int
  | 0 => 0
  | i + 1 => if 0 < i ∧ v i = v (i - 1) then rnF v i + 1 else 1
theorem rnF_pos (v : Nat → Int) : ∀ i, 0 ≤ rnF v i ∧ (0 < i → 1 ≤ rnF v i) ∧ rnF v i ≤ i
  | 0 => by rw [rnF]; omega
  | i + 1 => by
    have := rnF_pos v i
    rw [rnF]
    split <;> omega
theorem rnF_congr {v v' : Nat → Int} : ∀ i, (∀ j, j < i → v j = v' j) → rnF v i = rnF v' i
  | 0, _ => rfl
  | i + 1, h => by rw [rnF, rnF, h i (by omega), h (i - 1) (by omega), rnF_congr i (fun j hj => h j (by omega))]
theorem stF_iff {v : Nat → Int} {so : Int} : ∀ n i, (stF v so n i (rnF v i) = -1 ↔ ∀ j, i < j → j ≤ i + n → rnF v j ≤ so)
  | 0, i => by
    rw [stF]
    exact ⟨fun _ j h1 h2 => by omega, fun _ => rfl⟩
  | n + 1, i => by
    have e : stF v so (n + 1) i (rnF v i) = if so < rnF v (i + 1) then (i : Int) else stF v so n (i + 1) (rnF v (i + 1)) := rfl
    rw [e]
    by_cases c : so < rnF v (i + 1)
    · rw [if_pos c]
      constructor
      · intro z; omega
      · intro z
        have := z (i + 1) (by omega) (by omega)
        omega
    · rw [if_neg c, stF_iff n (i + 1)]
      constructor
      · intro z j h1 h2
        by_cases e : j = i + 1
        · subst e; omega
        · exact z j (by omega) (by omega)
      · intro z j h1 h2
        exact z j (by omega) (by omega)
def vl (l : List Int) : Nat → Int := fun p => vow (l.getD p 0)
def okL (so : Int) (l : List Int) : Prop := ∀ j, 0 < j → j ≤ l.length → rnF (vl l) j ≤ so
theorem stL_iff {so : Int} {l : List Int} : stL so l = -1 ↔ okL so l := by
  have := stF_iff (v := vl l) (so := so) l.length 0
  rw [Nat.zero_add] at this
  exact this
def rL (l : List Int) : Int := rnF (vl l) l.length
def lk (l : List Int) : Int := vow (l.getD (l.length - 1) 0)
theorem len_snoc (l : List Int) (x : Int) : (l ++ [x]).length = l.length + 1 := by rw [List.length_append]; rfl
theorem vl_snoc {l : List Int} {x : Int} {j : Nat} (hj : j < l.length) : vl (l ++ [x]) j = vl l j := by
  unfold vl
  rw [gA, if_pos hj]
theorem lk_snoc (l : List Int) (x : Int) : lk (l ++ [x]) = vow x := by
  unfold lk
  rw [len_snoc, gA, if_neg (by omega), show l.length + 1 - 1 - l.length = 0 by omega]
  rfl
theorem rL_snoc (l : List Int) (x : Int) : rL (l ++ [x]) = if 0 < l.length ∧ vow x = lk l then rL l + 1 else 1 := by
  unfold rL
  rw [len_snoc, rnF, rnF_congr (v' := vl l) l.length (fun j hj => vl_snoc hj)]
  have e1 : vl (l ++ [x]) l.length = vow x := by
    unfold vl
    rw [gA, if_neg (by omega), Nat.sub_self]
    rfl
  rw [e1]
  by_cases c : 0 < l.length
  · rw [vl_snoc (show l.length - 1 < l.length by omega)]
    rfl
  · rw [if_neg (fun z => c z.1), if_neg (fun z => c z.1)]
theorem okL_snoc {so : Int} {l : List Int} {x : Int} : okL so (l ++ [x]) ↔ okL so l ∧ rL (l ++ [x]) ≤ so := by
  constructor
  · intro h
    refine ⟨fun j h1 h2 => ?_, ?_⟩
    · have := h j h1 (by rw [len_snoc]; omega)
      rwa [rnF_congr j (fun i hi => vl_snoc (x := x) (show i < l.length by omega))] at this
    · exact h _ (by rw [len_snoc]; omega) (Nat.le_refl _)
  · rintro ⟨h1, h2⟩ j h3 h4
    rw [len_snoc] at h4
    by_cases c : j = l.length + 1
    · subst c
      unfold rL at h2
      rw [len_snoc] at h2
      exact h2
    · rw [rnF_congr j (fun i hi => vl_snoc (x := x) (show i < l.length by omega))]
      exact h1 j h3 (by omega)
theorem rL_pos (l : List Int) : 0 ≤ rL l ∧ (0 < l.length → 1 ≤ rL l) := ⟨(rnF_pos _ _).1, (rnF_pos _ _).2.1⟩
/-- what is over, place by place -/
def ovr (so : Int) (v : Nat → Int) : Nat → Bool := fun j => decide (so < rnF v (j + 1))
/-- less can't be dropped -/
theorem drop_low {so : Int} (s1 : 1 ≤ so) {ex : Nat → Bool} {f : Nat → Int} : ∀ i, okL so (kp ex f i) → (i = 0 ∧ (kp ex f i).length = 0) ∨ (0 < i ∧ ((0 < (kp ex f i).length ∧ lk (kp ex f i) = vow (f (i - 1)) ∧ cP (ovr so (fun p => vow (f p))) i ≤ cP ex i ∧ cP (ovr so (fun p => vow (f p))) i + (if rnF (fun p => vow (f p)) i ≤ so then rnF (fun p => vow (f p)) i else so) ≤ cP ex i + rL (kp ex f i)) ∨ (¬ (0 < (kp ex f i).length ∧ lk (kp ex f i) = vow (f (i - 1))) ∧ cP (ovr so (fun p => vow (f p))) i + (if rnF (fun p => vow (f p)) i ≤ so then rnF (fun p => vow (f p)) i else so) ≤ cP ex i)))
  | 0, _ => Or.inl ⟨rfl, rfl⟩
  | i + 1, hok => by
    have hok' : okL so (kp ex f i) := by
      rw [kp] at hok
      split at hok
      · exact hok
      · exact (okL_snoc.mp hok).1
    have ih := drop_low s1 i hok'
    have rp := rnF_pos (fun p => vow (f p)) i
    have lp := rL_pos (kp ex f i)
    have er : rnF (fun p => vow (f p)) (i + 1) = if 0 < i ∧ vow (f i) = vow (f (i - 1)) then rnF (fun p => vow (f p)) i + 1 else 1 := rfl
    have eo : cP (ovr so (fun p => vow (f p))) (i + 1) = cP (ovr so (fun p => vow (f p))) i + if so < rnF (fun p => vow (f p)) (i + 1) then 1 else 0 := by
      rw [cP]
      unfold ovr
      simp only [decide_eq_true_eq]
    have c0 : i = 0 → cP (ovr so (fun p => vow (f p))) i = 0 ∧ cP ex i = 0 := by rintro rfl; exact ⟨rfl, rfl⟩
    refine Or.inr ⟨by omega, ?_⟩
    rw [show i + 1 - 1 = i by omega, eo, er]
    have ec : cP ex (i + 1) = cP ex i + if ex i = true then 1 else 0 := rfl
    rw [ec]
    generalize cP (ovr so (fun p => vow (f p))) i = T at *
    generalize cP ex i = D at *
    generalize rnF (fun p => vow (f p)) i = r at *
    by_cases hx : ex i = true
    · rw [kp, if_pos hx, if_pos hx]
      generalize (kp ex f i).length = n at *
      generalize rL (kp ex f i) = k at *
      generalize lk (kp ex f i) = cl at *
      generalize vow (f (i - 1)) = cp at *
      generalize vow (f i) = cc at *
      by_cases e : 0 < i ∧ cc = cp
      · rw [if_pos e]
        obtain ⟨e1, e2⟩ := e
        subst e2
        by_cases hl : 0 < n ∧ cl = cc
        · refine Or.inl ⟨hl.1, hl.2, ?_⟩
          rcases ih with ⟨z, -⟩ | ⟨-, ⟨-, -, z3, z4⟩ | ⟨z1, -⟩⟩
          · omega
          · split at z4 <;> split <;> split <;> omega
          · exact absurd hl z1
        · refine Or.inr ⟨hl, ?_⟩
          rcases ih with ⟨z, -⟩ | ⟨-, ⟨y1, y2, -, -⟩ | ⟨-, z2⟩⟩
          · omega
          · exact absurd ⟨y1, y2⟩ hl
          · split at z2 <;> split <;> split <;> omega
      · rw [if_neg e, if_neg (show ¬ so < 1 by omega), if_pos s1]
        have hTD : T ≤ D := by
          rcases ih with ⟨z, -⟩ | ⟨-, ⟨-, -, z3, -⟩ | ⟨-, z2⟩⟩
          · have := c0 z; omega
          · exact z3
          · split at z2 <;> omega
        by_cases hl : 0 < n ∧ cl = cc
        · exact Or.inl ⟨hl.1, hl.2, by omega, by have := lp.2 hl.1; omega⟩
        · exact Or.inr ⟨hl, by omega⟩
    · rw [kp, if_neg hx] at hok
      have hk := (okL_snoc.mp hok).2
      rw [kp, if_neg hx, if_neg hx]
      have e5 := lk_snoc (kp ex f i) (f i)
      have e6 := rL_snoc (kp ex f i) (f i)
      have e7 := len_snoc (kp ex f i) (f i)
      refine Or.inl ⟨by rw [e7]; omega, e5, ?_⟩
      generalize rL (kp ex f i ++ [f i]) = k' at *
      generalize (kp ex f i).length = n at *
      generalize rL (kp ex f i) = k at *
      generalize lk (kp ex f i) = cl at *
      generalize vow (f (i - 1)) = cp at *
      generalize vow (f i) = cc at *
      by_cases e : 0 < i ∧ cc = cp
      · rw [if_pos e]
        obtain ⟨e1, e2⟩ := e
        subst e2
        by_cases hl : 0 < n ∧ cl = cc
        · rw [if_pos ⟨hl.1, hl.2.symm⟩] at e6
          rcases ih with ⟨z, -⟩ | ⟨-, ⟨-, -, z3, z4⟩ | ⟨z1, -⟩⟩
          · omega
          · split at z4 <;> split <;> split <;> omega
          · exact absurd hl z1
        · rw [if_neg (fun z => hl ⟨z.1, z.2.symm⟩)] at e6
          rcases ih with ⟨z, -⟩ | ⟨-, ⟨y1, y2, -, -⟩ | ⟨-, z2⟩⟩
          · omega
          · exact absurd ⟨y1, y2⟩ hl
          · split at z2 <;> split <;> split <;> omega
      · rw [if_neg e, if_neg (show ¬ so < 1 by omega), if_pos s1]
        have hTD : T ≤ D := by
          rcases ih with ⟨z, -⟩ | ⟨-, ⟨-, -, z3, -⟩ | ⟨-, z2⟩⟩
          · have := c0 z; omega
          · exact z3
          · split at z2 <;> omega
        have : 1 ≤ k' := by split at e6 <;> omega
        omega
/-- and so much is enough -/
theorem drop_up {so : Int} (s1 : 1 ≤ so) {f : Nat → Int} : ∀ i, okL so (kp (ovr so (fun p => vow (f p))) f i) ∧ (0 < i → 0 < (kp (ovr so (fun p => vow (f p))) f i).length ∧ lk (kp (ovr so (fun p => vow (f p))) f i) = vow (f (i - 1)) ∧ rL (kp (ovr so (fun p => vow (f p))) f i) = if rnF (fun p => vow (f p)) i ≤ so then rnF (fun p => vow (f p)) i else so)
  | 0 => ⟨fun j h1 h2 => by rw [kp] at h2; exact absurd h2 (by show ¬ j ≤ 0; omega), fun h => by omega⟩
  | i + 1 => by
    obtain ⟨ih1, ih2⟩ := drop_up s1 i
    have rp := rnF_pos (fun p => vow (f p)) i
    have er : rnF (fun p => vow (f p)) (i + 1) = if 0 < i ∧ vow (f i) = vow (f (i - 1)) then rnF (fun p => vow (f p)) i + 1 else 1 := rfl
    rw [show i + 1 - 1 = i by omega, er]
    have ev : ovr so (fun p => vow (f p)) i = decide (so < if 0 < i ∧ vow (f i) = vow (f (i - 1)) then rnF (fun p => vow (f p)) i + 1 else 1) := rfl
    have e5 := lk_snoc (kp (ovr so (fun p => vow (f p))) f i) (f i)
    have e6 := rL_snoc (kp (ovr so (fun p => vow (f p))) f i) (f i)
    have e7 := len_snoc (kp (ovr so (fun p => vow (f p))) f i) (f i)
    by_cases e : 0 < i ∧ vow (f i) = vow (f (i - 1))
    · obtain ⟨g1, g2, g3⟩ := ih2 e.1
      rw [if_pos e] at ev ⊢
      by_cases c : so < rnF (fun p => vow (f p)) i + 1
      · rw [kp, if_pos (show ovr so (fun p => vow (f p)) i = true by rw [ev]; exact decide_eq_true c)]
        refine ⟨ih1, fun _ => ⟨g1, by rw [g2, e.2], ?_⟩⟩
        rw [g3]
        split <;> split <;> omega
      · rw [kp, if_neg (show ¬ ovr so (fun p => vow (f p)) i = true by rw [ev]; simpa using c)]
        rw [if_pos ⟨g1, by rw [g2, e.2]⟩, g3] at e6
        refine ⟨okL_snoc.mpr ⟨ih1, ?_⟩, fun _ => ⟨by rw [e7]; omega, e5, ?_⟩⟩
        · rw [e6]; split <;> omega
        · rw [e6]; split <;> split <;> omega
    · rw [if_neg e] at ev ⊢
      have c : ¬ so < 1 := by omega
      rw [kp, if_neg (show ¬ ovr so (fun p => vow (f p)) i = true by rw [ev]; simpa using c)]
      have e6' : rL (kp (ovr so (fun p => vow (f p))) f i ++ [f i]) = 1 := by
        rw [e6]
        by_cases h0 : 0 < i
        · obtain ⟨g1, g2, g3⟩ := ih2 h0
          rw [if_neg]
          rintro ⟨z1, z2⟩
          exact e ⟨h0, by rw [z2, g2]⟩
        · have : i = 0 := by omega
          subst this
          rw [if_neg (fun z => absurd z.1 (by rw [kp]; exact Nat.lt_irrefl 0))]
      exact ⟨okL_snoc.mpr ⟨ih1, by rw [e6']; exact s1⟩, fun _ => ⟨by rw [e7]; omega, e5, by rw [e6', if_pos s1]⟩⟩
/-- the reference's search over all sets -/
def drF (S : Nat → Bool) (sz : Nat → Int) (n0 : Int) : Nat → Int
  | 0 => n0
  | t + 1 => if sz t < drF S sz n0 t ∧ S t = true then sz t else drF S sz n0 t
theorem drF_low {S : Nat → Bool} {sz : Nat → Int} {n0 T : Int} (h0 : T ≤ n0) : ∀ m, (∀ t, t < m → S t = true → T ≤ sz t) → T ≤ drF S sz n0 m
  | 0, _ => h0
  | t + 1, h => by
    have := drF_low h0 t (fun u hu => h u (by omega))
    rw [drF]
    split
    · rename_i z; exact h t (by omega) z.2
    · exact this
theorem drF_mono {S : Nat → Bool} {sz : Nat → Int} {n0 : Int} : ∀ m, drF S sz n0 m ≤ n0 ∧ ∀ t, t < m → S t = true → drF S sz n0 m ≤ sz t
  | 0 => ⟨Int.le_refl _, fun t h => by omega⟩
  | u + 1 => by
    obtain ⟨h1, h2⟩ := drF_mono (S := S) (sz := sz) (n0 := n0) u
    rw [drF]
    refine ⟨by split <;> omega, fun t ht hS => ?_⟩
    by_cases e : t = u
    · subst e
      by_cases c : sz t < drF S sz n0 t
      · rw [if_pos ⟨c, hS⟩]; exact Int.le_refl _
      · rw [if_neg (fun z => c z.1)]; omega
    · have := h2 t (by omega) hS
      split <;> omega

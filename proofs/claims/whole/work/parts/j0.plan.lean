/-! plans: the days of all children, as a pure thing -/
/-- free, next, waited, the masters' days, begun -/
abbrev PSt : Type := (Int → Int) × (Int → Int) × (Int → Int) × (Int → Int) × (Int → Int → Int)
/-- what is planned: lengths, lessons, the lessons' masters, days -/
abbrev PDt : Type := (Int → Int) × (Int → Int → Int) × (Int → Int) × (Int → Int → Int)
def upI (f : Int → Int) (i v : Int) : Int → Int := fun j => if j = i then v else f j
theorem upI_e {f : Int → Int} {i v : Int} : upI f i v i = v := if_pos rfl
theorem upI_n {f : Int → Int} {i v j : Int} (h : j ≠ i) : upI f i v j = f j := if_neg h
def pL (D : PDt) (S : PSt) (k : Int) : Int := D.2.1 k (S.2.1 k)
def pM (D : PDt) (S : PSt) (k : Int) : Int := D.2.2.1 (pL D S k)
def pO (D : PDt) (day : Int) (S : PSt) (k : Int) : Int := day + D.2.2.2 k (pL D S k)
abbrev pC (D : PDt) (day k : Int) (S : PSt) : Prop := S.2.1 k < D.1 k ∧ S.1 k ≤ day ∧ (pM D S k < 0 ∨ S.2.2.2.1 (pM D S k) ≤ day)
def pB (D : PDt) (day k : Int) (S : PSt) : PSt := (upI S.1 k (pO D day S k), upI S.2.1 k (S.2.1 k + 1), upI S.2.2.1 k (S.2.2.1 k + (day - S.1 k)), if pM D S k < 0 then S.2.2.2.1 else upI S.2.2.2.1 (pM D S k) (pO D day S k), fun j p => if j = k ∧ p = S.2.1 k then day else S.2.2.2.2 j p)
def pS (D : PDt) (day k : Int) (S : PSt) : PSt := if pC D day k S then pB D day k S else S
def pD (D : PDt) (day : Int) : Nat → PSt → PSt
  | 0, S => S
  | n + 1, S => pS D day n (pD D day n S)
def pS0 : PSt := (fun _ => 0, fun _ => 0, fun _ => 0, fun _ => 0, fun _ _ => 0)
def pR (D : PDt) (nc : Nat) : Nat → PSt
  | 0 => pS0
  | n + 1 => pD D n nc (pR D nc n)
def su : Nat → (Int → Int) → Int
  | 0, _ => 0
  | n + 1, f => su n f + f n
theorem su_congr {f g : Int → Int} : ∀ n : Nat, (∀ i : Int, 0 ≤ i → i < n → f i = g i) → su n f = su n g
  | 0, _ => rfl
  | n + 1, h => by rw [su, su, su_congr n (fun i h0 h1 => h i h0 (by omega)), h n (by omega) (by omega)]
theorem su_le {f g : Int → Int} : ∀ n : Nat, (∀ i : Int, 0 ≤ i → i < n → f i ≤ g i) → su n f ≤ su n g
  | 0, _ => Int.le_refl _
  | n + 1, h => by
    have h1 := su_le n (fun i h0 h1 => h i h0 (by omega))
    have h2 := h n (by omega) (by omega)
    rw [su, su]; omega
theorem su_lt {f g : Int → Int} {j : Int} (j0 : 0 ≤ j) : ∀ n : Nat, j < n → (∀ i : Int, 0 ≤ i → i < n → f i ≤ g i) → f j + 1 ≤ g j → su n f + 1 ≤ su n g
  | 0, h, _, _ => by omega
  | n + 1, hj, h, hl => by
    have h2 := h n (by omega) (by omega)
    rw [su, su]
    by_cases c : j = n
    · have h1 := su_le n (fun i h0 h1 => h i h0 (by omega))
      rw [c] at hl
      omega
    · have h1 := su_lt j0 n (by omega) (fun i h0 h1 => h i h0 (by omega)) hl
      omega
theorem su_one {f g : Int → Int} {j x : Int} (j0 : 0 ≤ j) : ∀ n : Nat, j < n → (∀ i : Int, 0 ≤ i → i < n → i ≠ j → f i = g i) → g j = f j + x → su n g = su n f + x
  | 0, h, _, _ => by omega
  | n + 1, hj, h, hl => by
    rw [su, su]
    by_cases c : j = n
    · have h1 := su_congr (f := f) (g := g) n (fun i h0 h1 => h i h0 (by omega) (by omega))
      rw [c] at hl
      omega
    · have h1 := su_one j0 n (by omega) (fun i h0 h1 h2 => h i h0 (by omega) h2) hl
      have h2 := h n (by omega) (by omega) (fun z => c z.symm)
      omega
theorem su_pos {f : Int → Int} : ∀ n : Nat, (∀ i : Int, 0 ≤ i → i < n → 0 ≤ f i) → 0 < su n f → ∃ j : Int, 0 ≤ j ∧ j < n ∧ 0 < f j
  | 0, _, h => by rw [su] at h; omega
  | n + 1, h, hp => by
    rw [su] at hp
    by_cases c : 0 < f n
    · exact ⟨n, by omega, by omega, c⟩
    · have := h n (by omega) (by omega)
      obtain ⟨j, j0, j1, j2⟩ := su_pos n (fun i h0 h1 => h i h0 (by omega)) (by omega)
      exact ⟨j, j0, by omega, j2⟩
theorem su_nn {f : Int → Int} : ∀ n : Nat, (∀ i : Int, 0 ≤ i → i < n → 0 ≤ f i) → 0 ≤ su n f
  | 0, _ => Int.le_refl _
  | n + 1, h => by
    have h1 := su_nn n (fun i h0 h1 => h i h0 (by omega))
    have h2 := h n (by omega) (by omega)
    rw [su]; omega
theorem su_z {f : Int → Int} : ∀ n : Nat, (∀ i : Int, 0 ≤ i → i < n → 0 ≤ f i) → su n f = 0 → ∀ j : Int, 0 ≤ j → j < n → f j = 0
  | 0, _, _, j, j0, j1 => by omega
  | n + 1, h, hz, j, j0, j1 => by
    have h1 := su_nn n (fun i h0 h1 => h i h0 (by omega))
    have h2 := h n (by omega) (by omega)
    rw [su] at hz
    by_cases c : j = n
    · rw [c]; omega
    · exact su_z n (fun i h0 h1 => h i h0 (by omega)) (by omega) j j0 (by omega)
theorem su_k {x : Int} : ∀ n : Nat, su n (fun _ => x) = x * n
  | 0 => by rw [su]; omega
  | n + 1 => by rw [su, su_k n, Int.natCast_add, Int.mul_add]; omega
/-- the greatest of n, and of 0 -/
def dn : Nat → (Int → Int) → Int
  | 0, _ => 0
  | n + 1, f => if dn n f < f n then f n else dn n f
theorem dn_up {f : Int → Int} {k v : Int} (k0 : 0 ≤ k) (hv : f k ≤ v) : ∀ n : Nat, dn n (upI f k v) = if k < n then (if dn n f < v then v else dn n f) else dn n f
  | 0 => by rw [if_neg (by omega)]; rfl
  | n + 1 => by
    have ih := dn_up k0 hv n
    rw [dn, dn, ih]
    by_cases c : k = n
    · have h1 : ¬ k < (n : Int) := by omega
      have h2 : k < ((n + 1 : Nat) : Int) := by omega
      rw [if_neg h1, if_pos h2, ← c, upI_e]
      generalize dn n f = A
      repeat' split
      all_goals omega
    · rw [upI_n (fun z => c z.symm)]
      by_cases c3 : k < n
      · have h2 : k < ((n + 1 : Nat) : Int) := by omega
        rw [if_pos c3, if_pos h2]
        generalize dn n f = A
        generalize f n = B
        repeat' split
        all_goals omega
      · have h2 : ¬ k < ((n + 1 : Nat) : Int) := by omega
        rw [if_neg c3, if_neg h2]
theorem dn_congr {f g : Int → Int} : ∀ n : Nat, (∀ i : Int, 0 ≤ i → i < n → f i = g i) → dn n f = dn n g
  | 0, _ => rfl
  | n + 1, h => by rw [dn, dn, dn_congr n (fun i h0 h1 => h i h0 (by omega)), h n (by omega) (by omega)]
theorem dn_0 : ∀ n : Nat, dn n (fun _ => 0) = 0
  | 0 => rfl
  | n + 1 => by rw [dn, dn_0 n, if_neg (by decide)]
theorem dn_rng {f : Int → Int} {B : Int} (hB : 0 ≤ B) : ∀ n : Nat, (∀ i : Int, 0 ≤ i → i < n → f i ≤ B) → 0 ≤ dn n f ∧ dn n f ≤ B
  | 0, _ => ⟨Int.le_refl _, hB⟩
  | n + 1, h => by
    have h1 := dn_rng hB n (fun i h0 h1 => h i h0 (by omega))
    have h2 := h n (by omega) (by omega)
    rw [dn]
    split <;> omega
/-- what is planned is fit -/
def PV (D : PDt) (nc : Nat) : Prop := ∀ k : Int, 0 ≤ k → k < nc → (0 ≤ D.1 k ∧ D.1 k ≤ 12) ∧ ∀ p, 0 ≤ p → p < D.1 k → (1 ≤ D.2.2.2 k (D.2.1 k p) ∧ D.2.2.2 k (D.2.1 k p) ≤ 30) ∧ (-1 ≤ D.2.2.1 (D.2.1 k p) ∧ D.2.2.1 (D.2.1 k p) < 4) ∧ (0 ≤ D.2.1 k p ∧ D.2.1 k p < 12)
def PI (D : PDt) (nc : Nat) (day : Int) (S : PSt) : Prop := ∀ k : Int, 0 ≤ k → k < nc → (0 ≤ S.1 k ∧ S.1 k ≤ day + 30) ∧ (0 ≤ S.2.1 k ∧ S.2.1 k ≤ D.1 k) ∧ (0 ≤ S.2.2.1 k ∧ S.2.2.1 k ≤ 1500 * S.2.1 k)
/-- a master who is busy is so with a child -/
def MB (nc : Nat) (S : PSt) : Prop := ∀ m : Int, 0 ≤ m → m < 4 → S.2.2.2.1 m ≤ 0 ∨ ∃ k : Int, 0 ≤ k ∧ k < nc ∧ S.2.2.2.1 m ≤ S.1 k
def lf (D : PDt) (S : PSt) (k : Int) : Int := D.1 k - S.2.1 k
def po (x : Int) : Int := if 0 < x then x else 0
def tm (day : Int) (S : PSt) (k : Int) : Int := 30 * S.2.1 k - po (S.1 k - day)
section
variable {D : PDt} {nc : Nat} {day k : Int} {S : PSt}
theorem pB_1 {j : Int} (h : j ≠ k) : (pB D day k S).1 j = S.1 j ∧ (pB D day k S).2.1 j = S.2.1 j ∧ (pB D day k S).2.2.1 j = S.2.2.1 j := ⟨upI_n h, upI_n h, upI_n h⟩
theorem pB_2 : (pB D day k S).1 k = pO D day S k ∧ (pB D day k S).2.1 k = S.2.1 k + 1 ∧ (pB D day k S).2.2.1 k = S.2.2.1 k + (day - S.1 k) := ⟨upI_e, upI_e, upI_e⟩
theorem PI_S (hv : PV D nc) (d0 : 0 ≤ day) (d1 : day ≤ 1440) (k0 : 0 ≤ k) (k1 : k < nc) (h : PI D nc day S) : PI D nc day (pS D day k S) := by
  unfold pS
  split
  · rename_i c
    intro j j0 j1
    by_cases e : j = k
    · subst e
      obtain ⟨a, b, w⟩ := h j j0 j1
      obtain ⟨x1, x2, x3⟩ := pB_2 (D := D) (day := day) (k := j) (S := S)
      obtain ⟨v1, v2⟩ := hv j j0 j1
      obtain ⟨v3, v4, v5⟩ := v2 (S.2.1 j) b.1 c.1
      rw [x1, x2, x3]
      unfold pO pL
      have := c.1
      have := c.2.1
      omega
    · obtain ⟨x1, x2, x3⟩ := pB_1 (D := D) (day := day) (S := S) e
      rw [x1, x2, x3]
      exact h j j0 j1
  · exact h
theorem PI_D (hv : PV D nc) (d0 : 0 ≤ day) (d1 : day ≤ 1440) (h : PI D nc day S) : ∀ i : Nat, i ≤ nc → PI D nc day (pD D day i S)
  | 0, _ => h
  | i + 1, hi => PI_S hv d0 d1 (by omega) (by omega) (PI_D hv d0 d1 h i (by omega))
theorem PI_up {e : Int} (he : day ≤ e) (h : PI D nc day S) : PI D nc e S := fun k k0 k1 => by
  have := h k k0 k1
  omega
theorem day_pr (hv : PV D nc) (d0 : 0 ≤ day) (d1 : day ≤ 1440) (hI : PI D nc day S) (hM : MB nc S) : ∀ i : Nat, i ≤ nc → MB nc (pD D day i S) ∧ (∀ k : Int, 0 ≤ k → k < nc → S.1 k ≤ (pD D day i S).1 k) ∧ (∀ k : Int, (i : Int) ≤ k → (pD D day i S).1 k = S.1 k ∧ (pD D day i S).2.1 k = S.2.1 k) ∧ ∀ k : Int, 0 ≤ k → k < i → ((pD D day i S).2.1 k < D.1 k → ∃ j : Int, 0 ≤ j ∧ j < nc ∧ day < (pD D day i S).1 j) ∧ tm day S k ≤ tm (day + 1) (pD D day i S) k ∧ (day < (pD D day i S).1 k → tm day S k + 1 ≤ tm (day + 1) (pD D day i S) k)
  | 0, _ => ⟨hM, fun _ _ _ => Int.le_refl _, fun _ _ => ⟨rfl, rfl⟩, fun k k0 k1 => by omega⟩
  | i + 1, hi => by
    obtain ⟨g1, g2, g3, g4⟩ := day_pr hv d0 d1 hI hM i (by omega)
    have hP := PI_D hv d0 d1 hI i (by omega)
    have gi := g3 i (by omega)
    rw [pD]
    generalize pD D day i S = P at g1 g2 g3 g4 hP gi
    have hs := hI i (by omega) (by omega)
    have hp := hP i (by omega) (by omega)
    unfold pS
    by_cases c : pC D day i P
    · rw [if_pos c]
      obtain ⟨x1, x2, x3⟩ := pB_2 (D := D) (day := day) (k := (i : Int)) (S := P)
      have xo := fun (j : Int) (h : j ≠ i) => pB_1 (D := D) (day := day) (k := (i : Int)) (S := P) h
      have hd := ((hv i (by omega) (by omega)).2 (P.2.1 i) (by omega) c.1).1
      have mono : ∀ k : Int, 0 ≤ k → k < nc → P.1 k ≤ (pB D day i P).1 k := fun k k0 k1 => by
        by_cases e : k = i
        · rw [e, x1]
          have := c.2.1
          unfold pO pL
          omega
        · rw [(xo k e).1]
          exact Int.le_refl _
      refine ⟨fun m m0 m1 => ?_, fun k k0 k1 => Int.le_trans (g2 k k0 k1) (mono k k0 k1), fun k hk => ?_, fun k k0 k1 => ?_⟩
      · show (if pM D P i < 0 then P.2.2.2.1 else upI P.2.2.2.1 (pM D P i) (pO D day P i)) m ≤ 0 ∨ ∃ k : Int, 0 ≤ k ∧ k < nc ∧ (if pM D P i < 0 then P.2.2.2.1 else upI P.2.2.2.1 (pM D P i) (pO D day P i)) m ≤ (pB D day i P).1 k
        have old : P.2.2.2.1 m ≤ 0 ∨ ∃ k : Int, 0 ≤ k ∧ k < nc ∧ P.2.2.2.1 m ≤ (pB D day i P).1 k := by
          rcases g1 m m0 m1 with z | ⟨k, k0, k1, k2⟩
          · exact Or.inl z
          · exact Or.inr ⟨k, k0, k1, Int.le_trans k2 (mono k k0 k1)⟩
        by_cases c2 : pM D P i < 0
        · rw [if_pos c2]
          exact old
        · rw [if_neg c2]
          by_cases e : m = pM D P i
          · rw [e, upI_e]
            exact Or.inr ⟨i, by omega, by omega, by rw [x1]; exact Int.le_refl _⟩
          · rw [upI_n e]
            exact old
      · have := xo k (by omega)
        rw [this.1, this.2.1]
        exact g3 k (by omega)
      · by_cases e : k = i
        · subst e
          refine ⟨fun _ => ⟨i, by omega, by omega, ?_⟩, ?_, fun _ => ?_⟩
          · rw [x1]; unfold pO pL; omega
          · unfold tm
            rw [x1, x2, ← gi.2]
            have := c.2.1
            rw [gi.1] at this
            unfold po pO pL
            split <;> split <;> omega
          · unfold tm
            rw [x1, x2, ← gi.2]
            have := c.2.1
            rw [gi.1] at this
            unfold po pO pL
            split <;> split <;> omega
        · obtain ⟨q1, q2, q3⟩ := g4 k k0 (by omega)
          obtain ⟨y1, y2, y3⟩ := xo k e
          have et : tm (day + 1) (pB D day i P) k = tm (day + 1) P k := by unfold tm; rw [y1, y2]
          rw [y1, y2, et]
          refine ⟨fun z => ?_, q2, q3⟩
          obtain ⟨j, j0, j1, j2⟩ := q1 z
          exact ⟨j, j0, j1, Int.lt_of_lt_of_le j2 (mono j j0 j1)⟩
    · rw [if_neg c]
      refine ⟨g1, g2, fun k hk => g3 k (by omega), fun k k0 k1 => ?_⟩
      by_cases e : k = i
      · subst e
        have et : (day < P.1 i → tm day S i + 1 ≤ tm (day + 1) P i) ∧ tm day S i ≤ tm (day + 1) P i := by
          unfold tm po
          rw [gi.1, gi.2]
          refine ⟨fun _ => ?_, ?_⟩ <;> (split <;> split <;> omega)
        refine ⟨fun z => ?_, et.2, et.1⟩
        by_cases c1 : day < P.1 i
        · exact ⟨i, by omega, by omega, c1⟩
        · have c2 : ¬ (pM D P i < 0 ∨ P.2.2.2.1 (pM D P i) ≤ day) := fun y => c ⟨z, by omega, y⟩
          have hm := ((hv i (by omega) (by omega)).2 (P.2.1 i) (by omega) z).2.1
          have hm1 : pM D P i < 4 := hm.2
          rcases g1 (pM D P i) (by omega) hm1 with y | ⟨j, j0, j1, j2⟩
          · omega
          · exact ⟨j, j0, j1, by omega⟩
      · exact g4 k k0 (by omega)
theorem lf_nn (h : PI D nc day S) : ∀ i : Int, 0 ≤ i → i < nc → 0 ≤ lf D S i := fun i i0 i1 => by
  have := h i i0 i1
  unfold lf
  omega
theorem pD_0 (hz : ∀ j : Int, 0 ≤ j → j < nc → lf D S j = 0) : ∀ i : Nat, i ≤ nc → pD D day i S = S
  | 0, _ => rfl
  | i + 1, hi => by
    rw [pD, pD_0 hz i (by omega)]
    unfold pS
    rw [if_neg]
    intro c
    have := hz i (by omega) (by omega)
    unfold lf at this
    have := c.1
    omega
theorem run_pr (hv : PV D nc) : ∀ n : Nat, n ≤ 1441 → (∀ i : Nat, 1 ≤ i → i ≤ n → 0 < su nc (lf D (pR D nc i))) → PI D nc n (pR D nc n) ∧ MB nc (pR D nc n) ∧ (n : Int) ≤ su nc (tm n (pR D nc n))
  | 0, _, _ => by
    refine ⟨fun k k0 k1 => ?_, fun m _ _ => Or.inl (Int.le_refl _), ?_⟩
    · have := (hv k k0 k1).1
      show (0 ≤ (0 : Int) ∧ (0 : Int) ≤ ((0 : Nat) : Int) + 30) ∧ (0 ≤ (0 : Int) ∧ (0 : Int) ≤ D.1 k) ∧ (0 ≤ (0 : Int) ∧ (0 : Int) ≤ 1500 * 0)
      omega
    · have : su nc (tm ((0 : Nat) : Int) (pR D nc 0)) = su nc (fun _ => 0) := su_congr nc (fun i _ _ => by
        show 30 * (0 : Int) - po (0 - ((0 : Nat) : Int)) = 0
        decide)
      rw [this, su_k]
      omega
  | n + 1, hn, hp => by
    obtain ⟨g1, g2, g3⟩ := run_pr hv n (by omega) (fun i i1 i2 => hp i i1 (by omega))
    have hl := hp (n + 1) (by omega) (by omega)
    rw [pR] at hl ⊢
    obtain ⟨a1, a2, a3, a4⟩ := day_pr hv (by omega) (by omega) g1 g2 nc (Nat.le_refl _)
    have hP := PI_D hv (by omega) (by omega) g1 nc (Nat.le_refl _)
    generalize pR D nc n = S at g1 g2 g3 a1 a2 a3 a4 hP hl ⊢
    generalize pD D n nc S = P at a1 a2 a3 a4 hP hl ⊢
    refine ⟨PI_up (by omega) hP, a1, ?_⟩
    obtain ⟨j, j0, j1, j2⟩ := su_pos nc (lf_nn hP) hl
    unfold lf at j2
    obtain ⟨q, q0, q1, q2⟩ := (a4 j j0 j1).1 (by omega)
    have e : ((n + 1 : Nat) : Int) = (n : Int) + 1 := by omega
    rw [e]
    have := su_lt q0 nc q1 (fun i i0 i1 => (a4 i i0 i1).2.1) ((a4 q q0 q1).2.2 q2)
    omega
theorem run_PI {N : Nat} (hv : PV D nc) (hN : N ≤ 1441) (hpos : ∀ i : Nat, i < N → 0 < su nc (lf D (pR D nc i))) : PI D nc N (pR D nc N) := by
  cases N with
  | zero => exact (run_pr hv 0 (by omega) (fun i _ _ => by omega)).1
  | succ n =>
    have g := (run_pr hv n (by omega) (fun i _ i2 => hpos i (by omega))).1
    rw [pR]
    exact PI_up (by omega) (PI_D hv (by omega) (by omega) g nc (Nat.le_refl _))
theorem run_end (hv : PV D nc) (h4 : nc ≤ 4) : ∃ N : Nat, N ≤ 1411 ∧ su nc (lf D (pR D nc N)) = 0 ∧ ∀ i : Nat, i < N → 0 < su nc (lf D (pR D nc i)) := by
  have key : ∀ n : Nat, n ≤ 1411 → (∃ N : Nat, N ≤ n ∧ su nc (lf D (pR D nc N)) = 0 ∧ ∀ i : Nat, i < N → 0 < su nc (lf D (pR D nc i))) ∨ ∀ i : Nat, i ≤ n → 0 < su nc (lf D (pR D nc i)) := by
    intro n
    induction n with
    | zero =>
      intro _
      obtain ⟨g1, -, -⟩ := run_pr hv 0 (by omega) (fun i i1 i2 => by omega)
      have := su_nn nc (lf_nn g1)
      by_cases c : su nc (lf D (pR D nc 0)) = 0
      · exact Or.inl ⟨0, by omega, c, fun i hi => by omega⟩
      · exact Or.inr (fun i hi => by rw [show i = 0 by omega]; omega)
    | succ n ih =>
      intro hn
      rcases ih (by omega) with ⟨N, N1, N2, N3⟩ | hp
      · exact Or.inl ⟨N, by omega, N2, N3⟩
      · obtain ⟨g1, -, -⟩ := run_pr hv n (by omega) (fun i _ i2 => hp i i2)
        have hP := PI_D hv (by omega) (by omega) g1 nc (Nat.le_refl _)
        have := su_nn nc (lf_nn hP)
        by_cases c : su nc (lf D (pR D nc (n + 1))) = 0
        · exact Or.inl ⟨n + 1, by omega, c, fun i hi => hp i (by omega)⟩
        · refine Or.inr (fun i hi => ?_)
          by_cases e : i = n + 1
          · rw [e]
            have : 0 ≤ su nc (lf D (pR D nc (n + 1))) := this
            omega
          · exact hp i (by omega)
  rcases key 1411 (by omega) with h | h
  · exact h
  · exfalso
    obtain ⟨g1, -, g3⟩ := run_pr hv 1411 (by omega) (fun i _ i2 => h i i2)
    have hl := h 1411 (by omega)
    generalize pR D nc 1411 = S at g1 g3 hl
    have e1 : su nc (tm ((1411 : Nat) : Int) S) ≤ su nc (fun k => 360 - 30 * lf D S k) := su_le nc (fun i i0 i1 => by
      have := (hv i i0 i1).1
      have := g1 i i0 i1
      unfold tm po lf
      split <;> omega)
    have e2 : ∀ n : Nat, su n (fun k => 360 - 30 * lf D S k) = 360 * n - 30 * su n (lf D S) := by
      intro n
      induction n with
      | zero => rfl
      | succ n ih => rw [su, su, ih]; omega
    rw [e2] at e1
    omega
end

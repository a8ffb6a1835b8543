/-! names that can be said, counted over sets: sums of rows -/
theorem sm_add {a b : Nat → Int} : ∀ n, sm (fun c => a c + b c) n = sm a n + sm b n
  | 0 => rfl
  | n + 1 => by rw [sm, sm, sm, sm_add n]; omega
theorem sm_zero : ∀ n, sm (fun _ => 0) n = 0
  | 0 => rfl
  | n + 1 => by rw [sm, sm_zero n]; rfl
theorem sm_swap {g : Nat → Nat → Int} (n : Nat) : ∀ N, sm (fun c => sm (fun l => g l c) N) n = sm (fun l => sm (g l) n) N
  | 0 => sm_zero n
  | N + 1 => by
    rw [sm, ← sm_swap n N, ← sm_add n]
    rfl
theorem sm_le {a b : Nat → Int} : ∀ n, (∀ l, l < n → a l ≤ b l) → sm a n ≤ sm b n
  | 0, _ => Int.le_refl _
  | n + 1, h => by
    rw [sm, sm]
    have := sm_le n (fun l hl => h l (by omega))
    have := h n (by omega)
    omega
theorem sm_nn {a : Nat → Int} (n : Nat) (h : ∀ l, l < n → 0 ≤ a l) : 0 ≤ sm a n := by
  have := sm_le (a := fun _ => 0) n h
  rw [sm_zero] at this
  exact this
theorem sm_mem {a : Nat → Int} {c : Nat} : ∀ n, c < n → (∀ l, l < n → 0 ≤ a l) → a c ≤ sm a n
  | 0, h, _ => by omega
  | n + 1, h, hn => by
    rw [sm]
    by_cases e : c = n
    · subst e
      have := sm_nn c (fun l hl => hn l (by omega))
      omega
    · have := sm_mem (a := a) (c := c) n (by omega) (fun l hl => hn l (by omega))
      have := hn n (by omega)
      omega
theorem sm_ind {x : Int} (hx : 0 ≤ x) (p : Nat) (Q : Nat → Prop) [DecidablePred Q] : ∀ n, sm (fun c => if p = c ∧ Q c then x else 0) n ≤ if p < n then x else 0
  | 0 => by rw [sm]; split <;> omega
  | n + 1 => by
    have := sm_ind hx p Q n
    rw [sm]
    by_cases e : p = n
    · rw [if_neg (by omega)] at this
      rw [if_pos (show p < n + 1 by omega)]
      split <;> omega
    · rw [if_neg (fun z => e z.1)]
      by_cases c : p < n
      · rw [if_pos c] at this
        rw [if_pos (show p < n + 1 by omega)]
        omega
      · rw [if_neg c] at this
        rw [if_neg (show ¬ p < n + 1 by omega)]
        omega
/-- what is pushed to a set when sets below st are done, and of st the first li lessons; K U l is pushed from U by l -/
def QS (ok : Nat → Nat → Bool) (N : Nat) (K : Nat → Nat → Int) (st li T : Nat) : Int := sm (fun l => if (T.testBit l && (ok (T - 2 ^ l) l && (decide (T - 2 ^ l < st) || (decide (T - 2 ^ l = st) && decide (l < li))))) = true then K (T - 2 ^ l) l else 0) N
section
variable {ok : Nat → Nat → Bool} {N : Nat} {K : Nat → Nat → Int}
theorem QS_full {st li T : Nat} (h : T ≤ st) : QS ok N K st li T = sm (fun l => if (T.testBit l && ok (T - 2 ^ l) l) = true then K (T - 2 ^ l) l else 0) N := by
  unfold QS
  refine sm_congr N (fun l hl => ?_)
  cases hb : T.testBit l with
  | false => simp
  | true =>
    have := del_lt hb
    rw [decide_eq_true (show T - 2 ^ l < st by omega), Bool.true_or, Bool.and_true]
theorem QS_0 {T : Nat} : QS ok N K 0 0 T = 0 := by
  unfold QS
  refine Eq.trans (sm_congr (g' := fun _ => 0) N (fun l hl => ?_)) (sm_zero N)
  rw [decide_eq_false (show ¬ T - 2 ^ l < 0 by omega), decide_eq_false (show ¬ l < 0 by omega)]
  simp
theorem QS_next {st T : Nat} : QS ok N K st N T = QS ok N K (st + 1) 0 T := by
  unfold QS
  refine sm_congr N (fun l hl => ?_)
  rw [decide_eq_true hl, decide_eq_false (show ¬ l < 0 by omega), Bool.and_true, Bool.and_false, Bool.or_false]
  have : (decide (T - 2 ^ l < st) || decide (T - 2 ^ l = st)) = decide (T - 2 ^ l < st + 1) := by
    generalize T - 2 ^ l = D
    by_cases c : D < st
    · rw [decide_eq_true c, decide_eq_true (show D < st + 1 by omega), Bool.true_or]
    · by_cases c2 : D = st
      · rw [decide_eq_true c2, decide_eq_true (show D < st + 1 by omega), Bool.or_true]
      · rw [decide_eq_false c, decide_eq_false c2, decide_eq_false (show ¬ D < st + 1 by omega), Bool.or_self]
  rw [this]
theorem QS_step {st li T : Nat} (hli : li < N) : QS ok N K st (li + 1) T = QS ok N K st li T + if (st.testBit li = false ∧ ok st li = true) ∧ T = st + 2 ^ li then K st li else 0 := by
  unfold QS
  rw [sm_upd (g := fun l => if (T.testBit l && (ok (T - 2 ^ l) l && (decide (T - 2 ^ l < st) || (decide (T - 2 ^ l = st) && decide (l < li))))) = true then K (T - 2 ^ l) l else 0) (j := li) N hli (fun l hl hn => by
    rw [show decide (l < li + 1) = decide (l < li) from by
      by_cases c : l < li
      · rw [decide_eq_true c, decide_eq_true (by omega)]
      · rw [decide_eq_false c, decide_eq_false (by omega)]])]
  rw [decide_eq_true (show li < li + 1 by omega), decide_eq_false (show ¬ li < li by omega), Bool.and_true, Bool.and_false, Bool.or_false]
  congr 1
  by_cases c : (st.testBit li = false ∧ ok st li = true) ∧ T = st + 2 ^ li
  · obtain ⟨⟨c1, c2⟩, rfl⟩ := c
    have e : st + 2 ^ li - 2 ^ li = st := by omega
    have hb : (st + 2 ^ li).testBit li = true := by rw [bit_ins c1, decide_eq_true rfl, Bool.or_true]
    simp [e, hb, c1, c2]
  · rw [if_neg c]
    have e : (if (T.testBit li && (ok (T - 2 ^ li) li && (decide (T - 2 ^ li < st) || decide (T - 2 ^ li = st)))) = true then K (T - 2 ^ li) li else 0) = if (T.testBit li && (ok (T - 2 ^ li) li && decide (T - 2 ^ li < st))) = true then K (T - 2 ^ li) li else 0 := by
      cases hb : T.testBit li with
      | false => simp
      | true =>
        obtain ⟨h1, h2, h3⟩ := bit_del hb
        by_cases ce : T - 2 ^ li = st
        · have : ¬ ok st li = true := fun z => c ⟨⟨by rw [← ce]; exact h3, z⟩, by omega⟩
          rw [ce]
          have : ok st li = false := by simpa using this
          rw [this]
          simp
        · rw [decide_eq_false ce, Bool.or_false]
    rw [e]
    omega
theorem QS_B {B : Int} (B0 : 0 ≤ B) {st li T : Nat} (hT : T < 4096) (hN : N ≤ 12) (hK : ∀ U l, U < 4096 → 0 ≤ K U l ∧ K U l ≤ B) : 0 ≤ QS ok N K st li T ∧ QS ok N K st li T ≤ 12 * B := by
  unfold QS
  have hb := sm_bd (g := fun l => if (T.testBit l && (ok (T - 2 ^ l) l && (decide (T - 2 ^ l < st) || (decide (T - 2 ^ l = st) && decide (l < li))))) = true then K (T - 2 ^ l) l else 0) (B := B) N (fun l hl => by
    split
    · exact hK _ _ (Nat.lt_of_le_of_lt (Nat.sub_le _ _) hT)
    · exact ⟨Int.le_refl _, B0⟩)
  have : (N : Int) * B ≤ 12 * B := Int.mul_le_mul_of_nonneg_right (by omega) B0
  exact ⟨hb.1, Int.le_trans hb.2 this⟩
end
/-- a row pushed on: m states of either kind, the kind of the lesson begins at b -/
def nxS (m b st : Nat) : Nat := if b ≤ st ∧ st < b + m then st + 1 else b
def adv (m b : Nat) (f : Nat → Int) (c j : Nat) : Int := sm (fun st => if nxS m b st = c ∧ c < b + m then f st else 0) j
def bgS (vw : Nat → Bool) (m l : Nat) : Nat := if vw l = true then m else 0
def SVf (ok : Nat → Nat → Bool) (vw : Nat → Bool) (m N : Nat) : Nat → Nat → Nat → Int
  | 0, _, _ => 0
  | f + 1, T, c => sm (fun l => if (T.testBit l && ok (T - 2 ^ l) l) = true then (if T - 2 ^ l = 0 then (if c = bgS vw m l then 1 else 0) else adv m (bgS vw m l) (SVf ok vw m N f (T - 2 ^ l)) c (2 * m)) else 0) N
def SV (ok : Nat → Nat → Bool) (vw : Nat → Bool) (m N T c : Nat) : Int := SVf ok vw m N T T c
def KS (ok : Nat → Nat → Bool) (vw : Nat → Bool) (m N c U l : Nat) : Int := if U = 0 then (if c = bgS vw m l then 1 else 0) else adv m (bgS vw m l) (SV ok vw m N U) c (2 * m)
section
variable {ok : Nat → Nat → Bool} {vw : Nat → Bool} {m N : Nat}
theorem adv_congr {b c j : Nat} {f g : Nat → Int} (h : ∀ st, f st = g st) : adv m b f c j = adv m b g c j := by
  have : f = g := funext h
  rw [this]
theorem SVf_S : ∀ (T f : Nat), T ≤ f → ∀ c, SVf ok vw m N f T c = SV ok vw m N T c := by
  intro T
  induction T using Nat.strongRecOn with
  | _ T ih =>
    intro f hf c
    by_cases e : T = 0
    · subst e
      unfold SV
      cases f with
      | zero => rfl
      | succ f =>
        rw [SVf, SVf]
        refine Eq.trans (sm_congr (g' := fun _ => 0) N (fun l hl => ?_)) (sm_zero N)
        rw [Nat.zero_testBit]
        rfl
    · obtain ⟨t, rfl⟩ : ∃ t, T = t + 1 := ⟨T - 1, by omega⟩
      obtain ⟨f', rfl⟩ : ∃ f', f = f' + 1 := ⟨f - 1, by omega⟩
      unfold SV
      rw [SVf, SVf]
      refine sm_congr N (fun l hl => ?_)
      by_cases h : ((t + 1).testBit l && ok (t + 1 - 2 ^ l) l) = true
      · rw [if_pos h, if_pos h]
        have hb := (Bool.and_eq_true _ _ ▸ h).1
        have hd := del_lt hb
        by_cases z : t + 1 - 2 ^ l = 0
        · rw [if_pos z, if_pos z]
        · rw [if_neg z, if_neg z]
          exact adv_congr (fun st => by rw [ih _ hd f' (by omega) st, ih _ hd t (by omega) st])
      · rw [if_neg h, if_neg h]
theorem SV_rec {T c : Nat} : SV ok vw m N T c = sm (fun l => if (T.testBit l && ok (T - 2 ^ l) l) = true then KS ok vw m N c (T - 2 ^ l) l else 0) N := by
  rw [← SVf_S T (T + 1) (by omega), SVf]
  refine sm_congr N (fun l hl => ?_)
  by_cases h : (T.testBit l && ok (T - 2 ^ l) l) = true
  · rw [if_pos h, if_pos h]
    have hb := (Bool.and_eq_true _ _ ▸ h).1
    have hd := del_lt hb
    unfold KS
    by_cases z : T - 2 ^ l = 0
    · rw [if_pos z, if_pos z]
    · rw [if_neg z, if_neg z]
      exact adv_congr (fun st => SVf_S _ _ (by omega) st)
  · rw [if_neg h, if_neg h]
theorem QS_SV {st li T c : Nat} (h : T ≤ st) : QS ok N (KS ok vw m N c) st li T = SV ok vw m N T c := by rw [QS_full h, SV_rec]
theorem adv_nn {b c j : Nat} {f : Nat → Int} (hf : ∀ st, st < j → 0 ≤ f st) : 0 ≤ adv m b f c j := sm_nn j (fun l hl => by split; exact hf l hl; exact Int.le_refl _)
theorem adv_sum {b n : Nat} {f : Nat → Int} : ∀ j, (∀ st, st < j → 0 ≤ f st) → sm (fun c => adv m b f c j) n ≤ sm f j
  | 0, _ => by
    rw [show (fun c => adv m b f c 0) = fun _ => 0 from rfl, sm_zero]
    exact Int.le_refl _
  | j + 1, h => by
    have e : (fun c => adv m b f c (j + 1)) = fun c => adv m b f c j + (if nxS m b j = c ∧ c < b + m then f j else 0) := rfl
    rw [e, sm_add, sm]
    have h1 := adv_sum (n := n) (b := b) j (fun st hs => h st (by omega))
    have h2 := sm_ind (h j (by omega)) (nxS m b j) (fun c => c < b + m) n
    have h3 := h j (by omega)
    split at h2 <;> omega
theorem SV_B (hN : N ≤ 12) : ∀ T, T < 4096 → (∀ c, 0 ≤ SV ok vw m N T c) ∧ (T ≠ 0 → sm (SV ok vw m N T) (2 * m) ≤ Wy ok N T) := by
  intro T
  induction T using Nat.strongRecOn with
  | _ T ih =>
    intro hT
    have key : ∀ l, (T.testBit l && ok (T - 2 ^ l) l) = true → (∀ c, 0 ≤ KS ok vw m N c (T - 2 ^ l) l) ∧ sm (fun c => KS ok vw m N c (T - 2 ^ l) l) (2 * m) ≤ Wy ok N (T - 2 ^ l) := by
      intro l h
      have hb := (Bool.and_eq_true _ _ ▸ h).1
      have hd := del_lt hb
      unfold KS
      by_cases z : T - 2 ^ l = 0
      · rw [z]
        simp only [if_true, W_0]
        refine ⟨fun c => by split <;> omega, ?_⟩
        have := sm_ind (x := 1) (by decide) (bgS vw m l) (fun _ => True) (2 * m)
        have e : (fun c : Nat => if c = bgS vw m l then (1 : Int) else 0) = fun c => if bgS vw m l = c ∧ True then 1 else 0 := by
          funext c
          by_cases q : c = bgS vw m l
          · rw [if_pos q, if_pos ⟨q.symm, trivial⟩]
          · rw [if_neg q, if_neg (fun y => q y.1.symm)]
        rw [e]
        split at this <;> omega
      · simp only [z, if_false]
        obtain ⟨q1, q2⟩ := ih _ hd (by omega)
        exact ⟨fun c => adv_nn (fun st _ => q1 st), Int.le_trans (adv_sum (2 * m) (fun st _ => q1 st)) (q2 z)⟩
    refine ⟨fun c => ?_, fun h0 => ?_⟩
    · rw [SV_rec]
      refine sm_nn N (fun l hl => ?_)
      split
      · rename_i h; exact (key l h).1 c
      · exact Int.le_refl _
    · rw [W_rec h0, show SV ok vw m N T = fun c => sm (fun l => if (T.testBit l && ok (T - 2 ^ l) l) = true then KS ok vw m N c (T - 2 ^ l) l else 0) N from funext fun c => SV_rec, sm_swap]
      refine sm_le N (fun l hl => ?_)
      by_cases h : (T.testBit l && ok (T - 2 ^ l) l) = true
      · simp only [h, if_true]
        exact (key l h).2
      · rw [if_neg h]
        simp only [if_neg h, sm_zero]
        exact Int.le_refl _
theorem SV_bd (hN : N ≤ 12) {T c : Nat} (hT : T < 4096) (h0 : T ≠ 0) (hc : c < 2 * m) : 0 ≤ SV ok vw m N T c ∧ SV ok vw m N T c ≤ 8916100448256 := by
  obtain ⟨q1, q2⟩ := SV_B (ok := ok) (vw := vw) (m := m) hN T hT
  have := sm_mem (a := SV ok vw m N T) (2 * m) hc (fun l _ => q1 l)
  have := q2 h0
  have := (W_B (ok := ok) hN hT).2
  exact ⟨q1 c, by omega⟩
theorem KS_bd (hN : N ≤ 12) {U l c : Nat} (hU : U < 4096) (hc : c < 2 * m) : 0 ≤ KS ok vw m N c U l ∧ KS ok vw m N c U l ≤ 8916100448256 := by
  unfold KS
  by_cases z : U = 0
  · simp only [z, if_true]
    split <;> omega
  · simp only [z, if_false]
    obtain ⟨q1, q2⟩ := SV_B (ok := ok) (vw := vw) (m := m) hN U hU
    have h1 := adv_nn (m := m) (b := bgS vw m l) (c := c) (j := 2 * m) (fun st _ => q1 st)
    have h2 := adv_sum (m := m) (b := bgS vw m l) (n := 2 * m) (2 * m) (fun st _ => q1 st)
    have h3 := sm_mem (a := fun c => adv m (bgS vw m l) (SV ok vw m N U) c (2 * m)) (2 * m) hc (fun c _ => adv_nn (fun st _ => q1 st))
    have := q2 z
    have := (W_B (ok := ok) hN hU).2
    exact ⟨h1, by omega⟩
end
